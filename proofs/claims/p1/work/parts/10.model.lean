abbrev b_MD_thrown : ByteArray := prog_12_method_2_code
def y_MD_thrown : MethodName := ⟨R_MD, "thrown", "()I"⟩
def s_MD_thrown : List Cond := .code y_MD_thrown b_MD_thrown 1 (some .int) :: tw_T
abbrev b_MD_refused : ByteArray := prog_12_method_3_code
def y_MD_refused : MethodName := ⟨R_MD, "refused", "(I)Z"⟩
def s_MD_refused : List Cond := .code y_MD_refused b_MD_refused 2 (some .boolean) :: tw_T
abbrev b_MD_isGlyph : ByteArray := prog_12_method_40_code
def y_MD_isGlyph : MethodName := ⟨R_MD, "isGlyph", "(I)Z"⟩
def s_MD_isGlyph : List Cond := .code y_MD_isGlyph b_MD_isGlyph 2 (some .boolean) :: tw_T
abbrev b_MD_put : ByteArray := prog_12_method_5_code
def y_MD_put : MethodName := ⟨R_MD, "put", "(II)I"⟩
def s_MD_put : List Cond := .code y_MD_put b_MD_put 5 (some .int) :: tw_T
abbrev b_MD_cut : ByteArray := prog_12_method_7_code
def y_MD_cut : MethodName := ⟨R_MD, "cut", "(I)I"⟩
def s_MD_cut : List Cond := .code y_MD_cut b_MD_cut 3 (some .int) :: tw_T
abbrev b_MD_glyph : ByteArray := prog_12_method_39_code
def y_MD_glyph : MethodName := ⟨R_MD, "glyph", "(I)I"⟩
def s_MD_glyph : List Cond := .code y_MD_glyph b_MD_glyph 2 (some .int) :: tw_T
abbrev b_MD_measure : ByteArray := prog_12_method_41_code
def y_MD_measure : MethodName := ⟨R_MD, "measure", "(II)I"⟩
def s_MD_measure : List Cond := .code y_MD_measure b_MD_measure 5 (some .int) :: tw_T
abbrev b_MD_point : ByteArray := prog_12_method_42_code
def y_MD_point : MethodName := ⟨R_MD, "point", "(III)I"⟩
def s_MD_point : List Cond := .code y_MD_point b_MD_point 6 (some .int) :: tw_T
abbrev b_MD_kerning : ByteArray := prog_12_method_43_code
def y_MD_kerning : MethodName := ⟨R_MD, "kerning", "(II)I"⟩
def s_MD_kerning : List Cond := .code y_MD_kerning b_MD_kerning 4 (some .int) :: tw_T
abbrev b_MD_paint : ByteArray := prog_12_method_57_code
def y_MD_paint : MethodName := ⟨R_MD, "paint", "(I)I"⟩
def s_MD_paint : List Cond := .code y_MD_paint b_MD_paint 6 (some .int) :: tw_T
abbrev b_MD_row : ByteArray := prog_12_method_58_code
def y_MD_row : MethodName := ⟨R_MD, "row", "(I)J"⟩
def s_MD_row : List Cond := .code y_MD_row b_MD_row 2 (some .long) :: tw_T
abbrev b_MD_feed : ByteArray := prog_12_method_4_code
def y_MD_feed : MethodName := ⟨R_MD, "feed", "(I)I"⟩
def s_MD_feed : List Cond := .code y_MD_feed b_MD_feed 3 (some .int) :: tw_T
abbrev b_MD_at : ByteArray := prog_12_method_6_code
def y_MD_at : MethodName := ⟨R_MD, "at", "(I)I"⟩
def s_MD_at : List Cond := .code y_MD_at b_MD_at 2 (some .int) :: tw_T
abbrev b_MD_wipe : ByteArray := prog_12_method_45_code
def y_MD_wipe : MethodName := ⟨R_MD, "wipe", "()I"⟩
def s_MD_wipe : List Cond := .code y_MD_wipe b_MD_wipe 2 (some .int) :: tw_T
abbrev b_MD_type : ByteArray := prog_12_method_44_code
def y_MD_type : MethodName := ⟨R_MD, "type", "(I)Z"⟩
def s_MD_type : List Cond := .code y_MD_type b_MD_type 2 (some .boolean) :: tw_T
abbrev b_MD_isFile : ByteArray := prog_12_method_12_code
def y_MD_isFile : MethodName := ⟨R_MD, "isFile", "(I)Z"⟩
def s_MD_isFile : List Cond := .code y_MD_isFile b_MD_isFile 13 (some .boolean) :: tw_T
theorem w_11 : (Jvm.Cond.initialized "GlyphLinesModel") ∈ tw_T := tw_of 11 (by decide +kernel) (by decide +kernel)
theorem w_852 : (Jvm.Cond.fieldLink "GlyphLinesModel" (90 : Nat) "GlyphLinesModel" "fault" "I") ∈ tw_T := tw_of 852 (by decide +kernel) (by decide +kernel)
theorem w_853 : (Jvm.Cond.fieldLink "GlyphLinesModel" (94 : Nat) "GlyphLinesModel" "size" "I") ∈ tw_T := tw_of 853 (by decide +kernel) (by decide +kernel)
theorem w_856 : (Jvm.Cond.fieldLink "GlyphLinesModel" (234 : Nat) "GlyphLinesModel" "isFont" "Z") ∈ tw_T := tw_of 856 (by decide +kernel) (by decide +kernel)
theorem w_878 : (Jvm.Cond.fieldLink "GlyphLinesModel" (252 : Nat) "GlyphLinesModel" "typed" "I") ∈ tw_T := tw_of 878 (by decide +kernel) (by decide +kernel)
theorem w_973 : (Jvm.Cond.methodLink "GlyphLinesModel" (97 : Nat) ({ cls := "GlyphLinesModel", name := "refused", desc := "(I)Z" } : Jvm.MethodName)) ∈ tw_T := tw_of 973 (by decide +kernel) (by decide +kernel)
theorem w_975 : (Jvm.Cond.instanceMethod ({ cls := "GlyphLinesModel", name := "refused", desc := "(I)Z" } : Jvm.MethodName)) ∈ tw_T := tw_of 975 (by decide +kernel) (by decide +kernel)
theorem w_976 : (Jvm.Cond.code ({ cls := "GlyphLinesModel", name := "refused", desc := "(I)Z" } : Jvm.MethodName) prog_12_method_3_code (2 : Nat) (Option.some Jvm.ClassFile.FieldType.boolean)) ∈ tw_T := tw_of 976 (by decide +kernel) (by decide +kernel)
theorem w_1043 : (Jvm.Cond.constant "GlyphLinesModel" (143 : Nat) (65535 : Int32)) ∈ tw_T := tw_of 1043 (by decide +kernel) (by decide +kernel)
theorem w_1118 : (Jvm.Cond.methodLink "GlyphLinesModel" (243 : Nat) ({ cls := "GlyphLinesModel", name := "isGlyph", desc := "(I)Z" } : Jvm.MethodName)) ∈ tw_T := tw_of 1118 (by decide +kernel) (by decide +kernel)
theorem w_1120 : (Jvm.Cond.instanceMethod ({ cls := "GlyphLinesModel", name := "isGlyph", desc := "(I)Z" } : Jvm.MethodName)) ∈ tw_T := tw_of 1120 (by decide +kernel) (by decide +kernel)
theorem w_1121 : (Jvm.Cond.code ({ cls := "GlyphLinesModel", name := "isGlyph", desc := "(I)Z" } : Jvm.MethodName) prog_12_method_40_code (2 : Nat) (Option.some Jvm.ClassFile.FieldType.boolean)) ∈ tw_T := tw_of 1121 (by decide +kernel) (by decide +kernel)
theorem wp_34 : Cond.selects "GlyphLinesModel" ({ cls := "GlyphLinesModel", name := "refused", desc := "(I)Z" } : Jvm.MethodName) ({ cls := "GlyphLinesModel", name := "refused", desc := "(I)Z" } : Jvm.MethodName) ∈ tw_T := tw_priv 34 (({ cls := "GlyphLinesModel", name := "refused", desc := "(I)Z" } : Jvm.MethodName), 36) (by decide +kernel) (by decide +kernel)
theorem wp_60 : Cond.selects "GlyphLinesModel" ({ cls := "GlyphLinesModel", name := "isGlyph", desc := "(I)Z" } : Jvm.MethodName) ({ cls := "GlyphLinesModel", name := "isGlyph", desc := "(I)Z" } : Jvm.MethodName) ∈ tw_T := tw_priv 60 (({ cls := "GlyphLinesModel", name := "isGlyph", desc := "(I)Z" } : Jvm.MethodName), 36) (by decide +kernel) (by decide +kernel)
theorem d_MD_at_0 : decode b_MD_at 0 = .ok (.aload_n 0, 1) := by decide +kernel
theorem d_MD_at_1 : decode b_MD_at 1 = .ok (.iconst 0, 1) := by decide +kernel
theorem d_MD_at_10 : decode b_MD_at 10 = .ok (.aload_n 0, 1) := by decide +kernel
theorem d_MD_at_11 : decode b_MD_at 11 = .ok (.getfield 94, 3) := by decide +kernel
theorem d_MD_at_14 : decode b_MD_at 14 = .ok (.if_icmp .lt (7), 3) := by decide +kernel
theorem d_MD_at_17 : decode b_MD_at 17 = .ok (.iconst (-1), 1) := by decide +kernel
theorem d_MD_at_18 : decode b_MD_at 18 = .ok (.goto (9), 3) := by decide +kernel
theorem d_MD_at_2 : decode b_MD_at 2 = .ok (.putfield 90, 3) := by decide +kernel
theorem d_MD_at_27 : decode b_MD_at 27 = .ok (.ireturn, 1) := by decide +kernel
theorem d_MD_at_5 : decode b_MD_at 5 = .ok (.iload_n 1, 1) := by decide +kernel
theorem d_MD_at_6 : decode b_MD_at 6 = .ok (.ifCond .lt (11), 3) := by decide +kernel
theorem d_MD_at_9 : decode b_MD_at 9 = .ok (.iload_n 1, 1) := by decide +kernel
theorem d_MD_cut_0 : decode b_MD_cut 0 = .ok (.aload_n 0, 1) := by decide +kernel
theorem d_MD_cut_1 : decode b_MD_cut 1 = .ok (.iload_n 1, 1) := by decide +kernel
theorem d_MD_cut_10 : decode b_MD_cut 10 = .ok (.invokevirtual 97, 3) := by decide +kernel
theorem d_MD_cut_13 : decode b_MD_cut 13 = .ok (.ifCond .eq (5), 3) := by decide +kernel
theorem d_MD_cut_16 : decode b_MD_cut 16 = .ok (.iconst 0, 1) := by decide +kernel
theorem d_MD_cut_17 : decode b_MD_cut 17 = .ok (.ireturn, 1) := by decide +kernel
theorem d_MD_cut_18 : decode b_MD_cut 18 = .ok (.aload_n 0, 1) := by decide +kernel
theorem d_MD_cut_19 : decode b_MD_cut 19 = .ok (.getfield 94, 3) := by decide +kernel
theorem d_MD_cut_2 : decode b_MD_cut 2 = .ok (.ifCond .ge (7), 3) := by decide +kernel
theorem d_MD_cut_22 : decode b_MD_cut 22 = .ok (.iload_n 1, 1) := by decide +kernel
theorem d_MD_cut_23 : decode b_MD_cut 23 = .ok (.if_icmp .le (12), 3) := by decide +kernel
theorem d_MD_cut_35 : decode b_MD_cut 35 = .ok (.iconst 0, 1) := by decide +kernel
theorem d_MD_cut_36 : decode b_MD_cut 36 = .ok (.istore_n 2, 1) := by decide +kernel
theorem d_MD_cut_37 : decode b_MD_cut 37 = .ok (.aload_n 0, 1) := by decide +kernel
theorem d_MD_cut_38 : decode b_MD_cut 38 = .ok (.aload_n 0, 1) := by decide +kernel
theorem d_MD_cut_39 : decode b_MD_cut 39 = .ok (.getfield 94, 3) := by decide +kernel
theorem d_MD_cut_42 : decode b_MD_cut 42 = .ok (.iload_n 2, 1) := by decide +kernel
theorem d_MD_cut_43 : decode b_MD_cut 43 = .ok (.isub, 1) := by decide +kernel
theorem d_MD_cut_44 : decode b_MD_cut 44 = .ok (.putfield 94, 3) := by decide +kernel
theorem d_MD_cut_47 : decode b_MD_cut 47 = .ok (.iload_n 2, 1) := by decide +kernel
theorem d_MD_cut_48 : decode b_MD_cut 48 = .ok (.ireturn, 1) := by decide +kernel
theorem d_MD_cut_5 : decode b_MD_cut 5 = .ok (.iconst 1, 1) := by decide +kernel
theorem d_MD_cut_6 : decode b_MD_cut 6 = .ok (.goto (4), 3) := by decide +kernel
theorem d_MD_cut_9 : decode b_MD_cut 9 = .ok (.iconst 0, 1) := by decide +kernel
theorem d_MD_feed_0 : decode b_MD_feed 0 = .ok (.aload_n 0, 1) := by decide +kernel
theorem d_MD_feed_1 : decode b_MD_feed 1 = .ok (.iconst 0, 1) := by decide +kernel
theorem d_MD_feed_10 : decode b_MD_feed 10 = .ok (.iadd, 1) := by decide +kernel
theorem d_MD_feed_11 : decode b_MD_feed 11 = .ok (.sipush 1200, 3) := by decide +kernel
theorem d_MD_feed_14 : decode b_MD_feed 14 = .ok (.if_icmp .le (5), 3) := by decide +kernel
theorem d_MD_feed_19 : decode b_MD_feed 19 = .ok (.iconst 3, 1) := by decide +kernel
theorem d_MD_feed_2 : decode b_MD_feed 2 = .ok (.putfield 90, 3) := by decide +kernel
theorem d_MD_feed_20 : decode b_MD_feed 20 = .ok (.istore_n 2, 1) := by decide +kernel
theorem d_MD_feed_21 : decode b_MD_feed 21 = .ok (.iload_n 2, 1) := by decide +kernel
theorem d_MD_feed_22 : decode b_MD_feed 22 = .ok (.ifCond .lt (38), 3) := by decide +kernel
theorem d_MD_feed_25 : decode b_MD_feed 25 = .ok (.aload_n 0, 1) := by decide +kernel
theorem d_MD_feed_26 : decode b_MD_feed 26 = .ok (.getfield 7, 3) := by decide +kernel
theorem d_MD_feed_29 : decode b_MD_feed 29 = .ok (.aload_n 0, 1) := by decide +kernel
theorem d_MD_feed_30 : decode b_MD_feed 30 = .ok (.getfield 94, 3) := by decide +kernel
theorem d_MD_feed_33 : decode b_MD_feed 33 = .ok (.iload_n 1, 1) := by decide +kernel
theorem d_MD_feed_34 : decode b_MD_feed 34 = .ok (.bipush 8, 2) := by decide +kernel
theorem d_MD_feed_36 : decode b_MD_feed 36 = .ok (.iload_n 2, 1) := by decide +kernel
theorem d_MD_feed_37 : decode b_MD_feed 37 = .ok (.imul, 1) := by decide +kernel
theorem d_MD_feed_38 : decode b_MD_feed 38 = .ok (.ishr, 1) := by decide +kernel
theorem d_MD_feed_39 : decode b_MD_feed 39 = .ok (.sipush 255, 3) := by decide +kernel
theorem d_MD_feed_42 : decode b_MD_feed 42 = .ok (.iand, 1) := by decide +kernel
theorem d_MD_feed_43 : decode b_MD_feed 43 = .ok (.iastore, 1) := by decide +kernel
theorem d_MD_feed_44 : decode b_MD_feed 44 = .ok (.aload_n 0, 1) := by decide +kernel
theorem d_MD_feed_45 : decode b_MD_feed 45 = .ok (.dup, 1) := by decide +kernel
theorem d_MD_feed_46 : decode b_MD_feed 46 = .ok (.getfield 94, 3) := by decide +kernel
theorem d_MD_feed_49 : decode b_MD_feed 49 = .ok (.iconst 1, 1) := by decide +kernel
theorem d_MD_feed_5 : decode b_MD_feed 5 = .ok (.aload_n 0, 1) := by decide +kernel
theorem d_MD_feed_50 : decode b_MD_feed 50 = .ok (.iadd, 1) := by decide +kernel
theorem d_MD_feed_51 : decode b_MD_feed 51 = .ok (.putfield 94, 3) := by decide +kernel
theorem d_MD_feed_54 : decode b_MD_feed 54 = .ok (.iinc 2 (-1), 3) := by decide +kernel
theorem d_MD_feed_57 : decode b_MD_feed 57 = .ok (.goto (-36), 3) := by decide +kernel
theorem d_MD_feed_6 : decode b_MD_feed 6 = .ok (.getfield 94, 3) := by decide +kernel
theorem d_MD_feed_60 : decode b_MD_feed 60 = .ok (.aload_n 0, 1) := by decide +kernel
theorem d_MD_feed_61 : decode b_MD_feed 61 = .ok (.getfield 94, 3) := by decide +kernel
theorem d_MD_feed_64 : decode b_MD_feed 64 = .ok (.ireturn, 1) := by decide +kernel
theorem d_MD_feed_9 : decode b_MD_feed 9 = .ok (.iconst 4, 1) := by decide +kernel
theorem d_MD_glyph_0 : decode b_MD_glyph 0 = .ok (.aload_n 0, 1) := by decide +kernel
theorem d_MD_glyph_1 : decode b_MD_glyph 1 = .ok (.aload_n 0, 1) := by decide +kernel
theorem d_MD_glyph_2 : decode b_MD_glyph 2 = .ok (.getfield 234, 3) := by decide +kernel
theorem d_MD_glyph_27 : decode b_MD_glyph 27 = .ok (.invokevirtual 97, 3) := by decide +kernel
theorem d_MD_glyph_30 : decode b_MD_glyph 30 = .ok (.ifCond .eq (7), 3) := by decide +kernel
theorem d_MD_glyph_33 : decode b_MD_glyph 33 = .ok (.iconst 0, 1) := by decide +kernel
theorem d_MD_glyph_34 : decode b_MD_glyph 34 = .ok (.goto (8), 3) := by decide +kernel
theorem d_MD_glyph_42 : decode b_MD_glyph 42 = .ok (.ireturn, 1) := by decide +kernel
theorem d_MD_glyph_5 : decode b_MD_glyph 5 = .ok (.ifCond .ne (7), 3) := by decide +kernel
theorem d_MD_glyph_8 : decode b_MD_glyph 8 = .ok (.iconst 1, 1) := by decide +kernel
theorem d_MD_glyph_9 : decode b_MD_glyph 9 = .ok (.goto (18), 3) := by decide +kernel
theorem d_MD_isFile_0 : decode b_MD_isFile 0 = .ok (.iconst 0, 1) := by decide +kernel
theorem d_MD_isFile_1 : decode b_MD_isFile 1 = .ok (.istore_n 2, 1) := by decide +kernel
theorem d_MD_isFile_12 : decode b_MD_isFile 12 = .ok (.bipush 8, 2) := by decide +kernel
theorem d_MD_isFile_14 : decode b_MD_isFile 14 = .ok (.iload_n 1, 1) := by decide +kernel
theorem d_MD_isFile_15 : decode b_MD_isFile 15 = .ok (.imul, 1) := by decide +kernel
theorem d_MD_isFile_16 : decode b_MD_isFile 16 = .ok (.iload_n 2, 1) := by decide +kernel
theorem d_MD_isFile_17 : decode b_MD_isFile 17 = .ok (.iadd, 1) := by decide +kernel
theorem d_MD_isFile_18 : decode b_MD_isFile 18 = .ok (.iconst (-1), 1) := by decide +kernel
theorem d_MD_isFile_19 : decode b_MD_isFile 19 = .ok (.iastore, 1) := by decide +kernel
theorem d_MD_isFile_2 : decode b_MD_isFile 2 = .ok (.iload_n 2, 1) := by decide +kernel
theorem d_MD_isFile_20 : decode b_MD_isFile 20 = .ok (.iinc 2 (1), 3) := by decide +kernel
theorem d_MD_isFile_23 : decode b_MD_isFile 23 = .ok (.goto (-21), 3) := by decide +kernel
theorem d_MD_isFile_26 : decode b_MD_isFile 26 = .ok (.aload_n 0, 1) := by decide +kernel
theorem d_MD_isFile_27 : decode b_MD_isFile 27 = .ok (.getfield 94, 3) := by decide +kernel
theorem d_MD_isFile_3 : decode b_MD_isFile 3 = .ok (.bipush 8, 2) := by decide +kernel
theorem d_MD_isFile_30 : decode b_MD_isFile 30 = .ok (.bipush 12, 2) := by decide +kernel
theorem d_MD_isFile_32 : decode b_MD_isFile 32 = .ok (.if_icmp .lt (17), 3) := by decide +kernel
theorem d_MD_isFile_49 : decode b_MD_isFile 49 = .ok (.iconst 0, 1) := by decide +kernel
theorem d_MD_isFile_5 : decode b_MD_isFile 5 = .ok (.if_icmp .ge (21), 3) := by decide +kernel
theorem d_MD_isFile_50 : decode b_MD_isFile 50 = .ok (.ireturn, 1) := by decide +kernel
theorem d_MD_isFile_8 : decode b_MD_isFile 8 = .ok (.aload_n 0, 1) := by decide +kernel
theorem d_MD_isFile_9 : decode b_MD_isFile 9 = .ok (.getfield 16, 3) := by decide +kernel
theorem d_MD_isGlyph_0 : decode b_MD_isGlyph 0 = .ok (.aload_n 0, 1) := by decide +kernel
theorem d_MD_isGlyph_1 : decode b_MD_isGlyph 1 = .ok (.getfield 234, 3) := by decide +kernel
theorem d_MD_isGlyph_28 : decode b_MD_isGlyph 28 = .ok (.iconst 0, 1) := by decide +kernel
theorem d_MD_isGlyph_29 : decode b_MD_isGlyph 29 = .ok (.ireturn, 1) := by decide +kernel
theorem d_MD_isGlyph_4 : decode b_MD_isGlyph 4 = .ok (.ifCond .eq (24), 3) := by decide +kernel
theorem d_MD_kerning_0 : decode b_MD_kerning 0 = .ok (.aload_n 0, 1) := by decide +kernel
theorem d_MD_kerning_1 : decode b_MD_kerning 1 = .ok (.iload_n 1, 1) := by decide +kernel
theorem d_MD_kerning_2 : decode b_MD_kerning 2 = .ok (.invokevirtual 243, 3) := by decide +kernel
theorem d_MD_kerning_20 : decode b_MD_kerning 20 = .ok (.iconst 0, 1) := by decide +kernel
theorem d_MD_kerning_21 : decode b_MD_kerning 21 = .ok (.istore_n 3, 1) := by decide +kernel
theorem d_MD_kerning_22 : decode b_MD_kerning 22 = .ok (.aload_n 0, 1) := by decide +kernel
theorem d_MD_kerning_23 : decode b_MD_kerning 23 = .ok (.aload_n 0, 1) := by decide +kernel
theorem d_MD_kerning_24 : decode b_MD_kerning 24 = .ok (.getfield 234, 3) := by decide +kernel
theorem d_MD_kerning_27 : decode b_MD_kerning 27 = .ok (.ifCond .ne (7), 3) := by decide +kernel
theorem d_MD_kerning_30 : decode b_MD_kerning 30 = .ok (.iconst 1, 1) := by decide +kernel
theorem d_MD_kerning_31 : decode b_MD_kerning 31 = .ok (.goto (12), 3) := by decide +kernel
theorem d_MD_kerning_43 : decode b_MD_kerning 43 = .ok (.invokevirtual 97, 3) := by decide +kernel
theorem d_MD_kerning_46 : decode b_MD_kerning 46 = .ok (.ifCond .eq (7), 3) := by decide +kernel
theorem d_MD_kerning_49 : decode b_MD_kerning 49 = .ok (.iconst 0, 1) := by decide +kernel
theorem d_MD_kerning_5 : decode b_MD_kerning 5 = .ok (.ifCond .eq (15), 3) := by decide +kernel
theorem d_MD_kerning_50 : decode b_MD_kerning 50 = .ok (.goto (9), 3) := by decide +kernel
theorem d_MD_kerning_59 : decode b_MD_kerning 59 = .ok (.ireturn, 1) := by decide +kernel
theorem d_MD_measure_0 : decode b_MD_measure 0 = .ok (.aload_n 0, 1) := by decide +kernel
theorem d_MD_measure_1 : decode b_MD_measure 1 = .ok (.iload_n 1, 1) := by decide +kernel
theorem d_MD_measure_2 : decode b_MD_measure 2 = .ok (.invokevirtual 243, 3) := by decide +kernel
theorem d_MD_measure_21 : decode b_MD_measure 21 = .ok (.iconst 0, 1) := by decide +kernel
theorem d_MD_measure_22 : decode b_MD_measure 22 = .ok (.istore_n 3, 1) := by decide +kernel
theorem d_MD_measure_23 : decode b_MD_measure 23 = .ok (.aload_n 0, 1) := by decide +kernel
theorem d_MD_measure_24 : decode b_MD_measure 24 = .ok (.aload_n 0, 1) := by decide +kernel
theorem d_MD_measure_25 : decode b_MD_measure 25 = .ok (.getfield 234, 3) := by decide +kernel
theorem d_MD_measure_28 : decode b_MD_measure 28 = .ok (.ifCond .ne (7), 3) := by decide +kernel
theorem d_MD_measure_31 : decode b_MD_measure 31 = .ok (.iconst 1, 1) := by decide +kernel
theorem d_MD_measure_32 : decode b_MD_measure 32 = .ok (.goto (12), 3) := by decide +kernel
theorem d_MD_measure_44 : decode b_MD_measure 44 = .ok (.invokevirtual 97, 3) := by decide +kernel
theorem d_MD_measure_47 : decode b_MD_measure 47 = .ok (.ifCond .eq (5), 3) := by decide +kernel
theorem d_MD_measure_5 : decode b_MD_measure 5 = .ok (.ifCond .eq (16), 3) := by decide +kernel
theorem d_MD_measure_50 : decode b_MD_measure 50 = .ok (.iconst 0, 1) := by decide +kernel
theorem d_MD_measure_51 : decode b_MD_measure 51 = .ok (.ireturn, 1) := by decide +kernel
theorem d_MD_paint_0 : decode b_MD_paint 0 = .ok (.aload_n 0, 1) := by decide +kernel
theorem d_MD_paint_1 : decode b_MD_paint 1 = .ok (.aload_n 0, 1) := by decide +kernel
theorem d_MD_paint_2 : decode b_MD_paint 2 = .ok (.getfield 234, 3) := by decide +kernel
theorem d_MD_paint_28 : decode b_MD_paint 28 = .ok (.invokevirtual 97, 3) := by decide +kernel
theorem d_MD_paint_31 : decode b_MD_paint 31 = .ok (.ifCond .eq (5), 3) := by decide +kernel
theorem d_MD_paint_34 : decode b_MD_paint 34 = .ok (.iconst 0, 1) := by decide +kernel
theorem d_MD_paint_35 : decode b_MD_paint 35 = .ok (.ireturn, 1) := by decide +kernel
theorem d_MD_paint_5 : decode b_MD_paint 5 = .ok (.ifCond .ne (7), 3) := by decide +kernel
theorem d_MD_paint_8 : decode b_MD_paint 8 = .ok (.iconst 1, 1) := by decide +kernel
theorem d_MD_paint_9 : decode b_MD_paint 9 = .ok (.goto (19), 3) := by decide +kernel
theorem d_MD_point_0 : decode b_MD_point 0 = .ok (.aload_n 0, 1) := by decide +kernel
theorem d_MD_point_1 : decode b_MD_point 1 = .ok (.iload_n 1, 1) := by decide +kernel
theorem d_MD_point_2 : decode b_MD_point 2 = .ok (.invokevirtual 243, 3) := by decide +kernel
theorem d_MD_point_25 : decode b_MD_point 25 = .ok (.iconst 0, 1) := by decide +kernel
theorem d_MD_point_26 : decode b_MD_point 26 = .ok (.istore 4, 2) := by decide +kernel
theorem d_MD_point_28 : decode b_MD_point 28 = .ok (.iload 4, 2) := by decide +kernel
theorem d_MD_point_30 : decode b_MD_point 30 = .ok (.ifCond .eq (25), 3) := by decide +kernel
theorem d_MD_point_5 : decode b_MD_point 5 = .ok (.ifCond .eq (20), 3) := by decide +kernel
theorem d_MD_point_55 : decode b_MD_point 55 = .ok (.iconst 0, 1) := by decide +kernel
theorem d_MD_point_56 : decode b_MD_point 56 = .ok (.istore 4, 2) := by decide +kernel
theorem d_MD_point_58 : decode b_MD_point 58 = .ok (.aload_n 0, 1) := by decide +kernel
theorem d_MD_point_59 : decode b_MD_point 59 = .ok (.aload_n 0, 1) := by decide +kernel
theorem d_MD_point_60 : decode b_MD_point 60 = .ok (.getfield 234, 3) := by decide +kernel
theorem d_MD_point_63 : decode b_MD_point 63 = .ok (.ifCond .ne (7), 3) := by decide +kernel
theorem d_MD_point_66 : decode b_MD_point 66 = .ok (.iconst 1, 1) := by decide +kernel
theorem d_MD_point_67 : decode b_MD_point 67 = .ok (.goto (13), 3) := by decide +kernel
theorem d_MD_point_80 : decode b_MD_point 80 = .ok (.invokevirtual 97, 3) := by decide +kernel
theorem d_MD_point_83 : decode b_MD_point 83 = .ok (.ifCond .eq (5), 3) := by decide +kernel
theorem d_MD_point_86 : decode b_MD_point 86 = .ok (.iconst 0, 1) := by decide +kernel
theorem d_MD_point_87 : decode b_MD_point 87 = .ok (.ireturn, 1) := by decide +kernel
theorem d_MD_put_0 : decode b_MD_put 0 = .ok (.iload_n 1, 1) := by decide +kernel
theorem d_MD_put_1 : decode b_MD_put 1 = .ok (.ifCond .lt (15), 3) := by decide +kernel
theorem d_MD_put_16 : decode b_MD_put 16 = .ok (.iconst 0, 1) := by decide +kernel
theorem d_MD_put_17 : decode b_MD_put 17 = .ok (.istore_n 3, 1) := by decide +kernel
theorem d_MD_put_18 : decode b_MD_put 18 = .ok (.aload_n 0, 1) := by decide +kernel
theorem d_MD_put_19 : decode b_MD_put 19 = .ok (.iload_n 3, 1) := by decide +kernel
theorem d_MD_put_20 : decode b_MD_put 20 = .ok (.ifCond .ne (7), 3) := by decide +kernel
theorem d_MD_put_23 : decode b_MD_put 23 = .ok (.iconst 1, 1) := by decide +kernel
theorem d_MD_put_24 : decode b_MD_put 24 = .ok (.goto (19), 3) := by decide +kernel
theorem d_MD_put_4 : decode b_MD_put 4 = .ok (.iload_n 1, 1) := by decide +kernel
theorem d_MD_put_43 : decode b_MD_put 43 = .ok (.invokevirtual 97, 3) := by decide +kernel
theorem d_MD_put_46 : decode b_MD_put 46 = .ok (.ifCond .eq (5), 3) := by decide +kernel
theorem d_MD_put_49 : decode b_MD_put 49 = .ok (.iconst 0, 1) := by decide +kernel
theorem d_MD_put_5 : decode b_MD_put 5 = .ok (.aload_n 0, 1) := by decide +kernel
theorem d_MD_put_50 : decode b_MD_put 50 = .ok (.ireturn, 1) := by decide +kernel
theorem d_MD_put_6 : decode b_MD_put 6 = .ok (.getfield 94, 3) := by decide +kernel
theorem d_MD_put_9 : decode b_MD_put 9 = .ok (.if_icmp .ge (7), 3) := by decide +kernel
theorem d_MD_refused_0 : decode b_MD_refused 0 = .ok (.aload_n 0, 1) := by decide +kernel
theorem d_MD_refused_1 : decode b_MD_refused 1 = .ok (.iload_n 1, 1) := by decide +kernel
theorem d_MD_refused_10 : decode b_MD_refused 10 = .ok (.goto (4), 3) := by decide +kernel
theorem d_MD_refused_13 : decode b_MD_refused 13 = .ok (.iconst 0, 1) := by decide +kernel
theorem d_MD_refused_14 : decode b_MD_refused 14 = .ok (.ireturn, 1) := by decide +kernel
theorem d_MD_refused_2 : decode b_MD_refused 2 = .ok (.putfield 90, 3) := by decide +kernel
theorem d_MD_refused_5 : decode b_MD_refused 5 = .ok (.iload_n 1, 1) := by decide +kernel
theorem d_MD_refused_6 : decode b_MD_refused 6 = .ok (.ifCond .le (7), 3) := by decide +kernel
theorem d_MD_refused_9 : decode b_MD_refused 9 = .ok (.iconst 1, 1) := by decide +kernel
theorem d_MD_row_0 : decode b_MD_row 0 = .ok (.aload_n 0, 1) := by decide +kernel
theorem d_MD_row_1 : decode b_MD_row 1 = .ok (.iload_n 1, 1) := by decide +kernel
theorem d_MD_row_11 : decode b_MD_row 11 = .ok (.iconst 1, 1) := by decide +kernel
theorem d_MD_row_12 : decode b_MD_row 12 = .ok (.goto (4), 3) := by decide +kernel
theorem d_MD_row_15 : decode b_MD_row 15 = .ok (.iconst 0, 1) := by decide +kernel
theorem d_MD_row_16 : decode b_MD_row 16 = .ok (.invokevirtual 97, 3) := by decide +kernel
theorem d_MD_row_19 : decode b_MD_row 19 = .ok (.ifCond .eq (7), 3) := by decide +kernel
theorem d_MD_row_2 : decode b_MD_row 2 = .ok (.ifCond .lt (9), 3) := by decide +kernel
theorem d_MD_row_22 : decode b_MD_row 22 = .ok (.lconst 0, 1) := by decide +kernel
theorem d_MD_row_23 : decode b_MD_row 23 = .ok (.goto (9), 3) := by decide +kernel
theorem d_MD_row_26 : decode b_MD_row 26 = .ok (.aload_n 0, 1) := by decide +kernel
theorem d_MD_row_27 : decode b_MD_row 27 = .ok (.getfield 86, 3) := by decide +kernel
theorem d_MD_row_30 : decode b_MD_row 30 = .ok (.iload_n 1, 1) := by decide +kernel
theorem d_MD_row_31 : decode b_MD_row 31 = .ok (.laload, 1) := by decide +kernel
theorem d_MD_row_32 : decode b_MD_row 32 = .ok (.lreturn, 1) := by decide +kernel
theorem d_MD_row_5 : decode b_MD_row 5 = .ok (.iload_n 1, 1) := by decide +kernel
theorem d_MD_row_6 : decode b_MD_row 6 = .ok (.bipush 23, 2) := by decide +kernel
theorem d_MD_row_8 : decode b_MD_row 8 = .ok (.if_icmp .le (7), 3) := by decide +kernel
theorem d_MD_thrown_0 : decode b_MD_thrown 0 = .ok (.aload_n 0, 1) := by decide +kernel
theorem d_MD_thrown_1 : decode b_MD_thrown 1 = .ok (.getfield 90, 3) := by decide +kernel
theorem d_MD_thrown_4 : decode b_MD_thrown 4 = .ok (.ireturn, 1) := by decide +kernel
theorem d_MD_type_0 : decode b_MD_type 0 = .ok (.aload_n 0, 1) := by decide +kernel
theorem d_MD_type_1 : decode b_MD_type 1 = .ok (.iconst 0, 1) := by decide +kernel
theorem d_MD_type_10 : decode b_MD_type 10 = .ok (.ldc 143, 2) := by decide +kernel
theorem d_MD_type_12 : decode b_MD_type 12 = .ok (.if_icmp .gt (12), 3) := by decide +kernel
theorem d_MD_type_15 : decode b_MD_type 15 = .ok (.aload_n 0, 1) := by decide +kernel
theorem d_MD_type_16 : decode b_MD_type 16 = .ok (.getfield 252, 3) := by decide +kernel
theorem d_MD_type_19 : decode b_MD_type 19 = .ok (.bipush 12, 2) := by decide +kernel
theorem d_MD_type_2 : decode b_MD_type 2 = .ok (.putfield 90, 3) := by decide +kernel
theorem d_MD_type_21 : decode b_MD_type 21 = .ok (.if_icmp .ne (5), 3) := by decide +kernel
theorem d_MD_type_24 : decode b_MD_type 24 = .ok (.iconst 0, 1) := by decide +kernel
theorem d_MD_type_25 : decode b_MD_type 25 = .ok (.ireturn, 1) := by decide +kernel
theorem d_MD_type_26 : decode b_MD_type 26 = .ok (.aload_n 0, 1) := by decide +kernel
theorem d_MD_type_27 : decode b_MD_type 27 = .ok (.getfield 67, 3) := by decide +kernel
theorem d_MD_type_30 : decode b_MD_type 30 = .ok (.aload_n 0, 1) := by decide +kernel
theorem d_MD_type_31 : decode b_MD_type 31 = .ok (.getfield 252, 3) := by decide +kernel
theorem d_MD_type_34 : decode b_MD_type 34 = .ok (.iload_n 1, 1) := by decide +kernel
theorem d_MD_type_35 : decode b_MD_type 35 = .ok (.iastore, 1) := by decide +kernel
theorem d_MD_type_36 : decode b_MD_type 36 = .ok (.aload_n 0, 1) := by decide +kernel
theorem d_MD_type_37 : decode b_MD_type 37 = .ok (.dup, 1) := by decide +kernel
theorem d_MD_type_38 : decode b_MD_type 38 = .ok (.getfield 252, 3) := by decide +kernel
theorem d_MD_type_41 : decode b_MD_type 41 = .ok (.iconst 1, 1) := by decide +kernel
theorem d_MD_type_42 : decode b_MD_type 42 = .ok (.iadd, 1) := by decide +kernel
theorem d_MD_type_43 : decode b_MD_type 43 = .ok (.putfield 252, 3) := by decide +kernel
theorem d_MD_type_46 : decode b_MD_type 46 = .ok (.iconst 1, 1) := by decide +kernel
theorem d_MD_type_47 : decode b_MD_type 47 = .ok (.ireturn, 1) := by decide +kernel
theorem d_MD_type_5 : decode b_MD_type 5 = .ok (.iload_n 1, 1) := by decide +kernel
theorem d_MD_type_6 : decode b_MD_type 6 = .ok (.ifCond .lt (18), 3) := by decide +kernel
theorem d_MD_type_9 : decode b_MD_type 9 = .ok (.iload_n 1, 1) := by decide +kernel
theorem d_MD_wipe_0 : decode b_MD_wipe 0 = .ok (.aload_n 0, 1) := by decide +kernel
theorem d_MD_wipe_1 : decode b_MD_wipe 1 = .ok (.iconst 0, 1) := by decide +kernel
theorem d_MD_wipe_10 : decode b_MD_wipe 10 = .ok (.aload_n 0, 1) := by decide +kernel
theorem d_MD_wipe_11 : decode b_MD_wipe 11 = .ok (.iconst 0, 1) := by decide +kernel
theorem d_MD_wipe_12 : decode b_MD_wipe 12 = .ok (.putfield 252, 3) := by decide +kernel
theorem d_MD_wipe_15 : decode b_MD_wipe 15 = .ok (.iload_n 1, 1) := by decide +kernel
theorem d_MD_wipe_16 : decode b_MD_wipe 16 = .ok (.ireturn, 1) := by decide +kernel
theorem d_MD_wipe_2 : decode b_MD_wipe 2 = .ok (.putfield 90, 3) := by decide +kernel
theorem d_MD_wipe_5 : decode b_MD_wipe 5 = .ok (.aload_n 0, 1) := by decide +kernel
theorem d_MD_wipe_6 : decode b_MD_wipe 6 = .ok (.getfield 252, 3) := by decide +kernel
theorem d_MD_wipe_9 : decode b_MD_wipe 9 = .ok (.istore_n 1, 1) := by decide +kernel
set_option maxHeartbeats 4000000 in
set_option maxRecDepth 100000 in
/-- GlyphLinesModel.thrown -/
theorem c_MD_thrown (l : Launch) (dC : Nat → ClassId) (dI : Nat → Nat → Nat) (h1 m_file m_bytes m_places m_lengths m_glyphCount m_ems m_wides m_forms m_parts m_charts m_pointCount m_contourCount m_depths m_xs m_ys m_ons m_contours m_flags m_part m_text m_ringX m_ringY m_ringOn m_curves m_windings m_rows : Nat) (ft : Int32) (sz : Nat) : Met l y_MD_thrown s_MD_thrown ({ frames := 8, cells := 0, slots := 0, locals := 200 }) (va_Pc [.ref h1] (fun U => U.heap.size = sz ∧ va_P (dC, dI) cls_ [(h1, .inr (10, [.int ft, .int 0, .ref m_file, .int 0, .int 0, .ref m_bytes, .ref m_places, .ref m_lengths, .ref m_glyphCount, .ref m_ems, .ref m_wides, .ref m_forms, .ref m_parts, .ref m_charts, .ref m_pointCount, .ref m_contourCount, .ref m_depths, .ref m_xs, .ref m_ys, .ref m_ons, .ref m_contours, .int 0, .int 0, .int 0, .ref m_flags, .ref m_part, .int 0, .ref m_text, .int 0, .ref m_ringX, .ref m_ringY, .ref m_ringOn, .int 0, .ref m_curves, .ref m_windings, .ref m_rows]))] U.heap ∧ va_K (dC, dI) cls_ [] U ∧ va_D (fun _ => True) [(h1, .inr (10, [.int ft, .int 0, .ref m_file, .int 0, .int 0, .ref m_bytes, .ref m_places, .ref m_lengths, .ref m_glyphCount, .ref m_ems, .ref m_wides, .ref m_forms, .ref m_parts, .ref m_charts, .ref m_pointCount, .ref m_contourCount, .ref m_depths, .ref m_xs, .ref m_ys, .ref m_ons, .ref m_contours, .int 0, .int 0, .int 0, .ref m_flags, .ref m_part, .int 0, .ref m_text, .int 0, .ref m_ringX, .ref m_ringY, .ref m_ringOn, .int 0, .ref m_curves, .ref m_windings, .ref m_rows]))])) (va_Qi (fun (r : Int32) (_ : Unit) => r = ft) (fun (_ : Unit) (t : State) => True) (va_A [(h1, .inr (10, [.int ft, .int 0, .ref m_file, .int 0, .int 0, .ref m_bytes, .ref m_places, .ref m_lengths, .ref m_glyphCount, .ref m_ems, .ref m_wides, .ref m_forms, .ref m_parts, .ref m_charts, .ref m_pointCount, .ref m_contourCount, .ref m_depths, .ref m_xs, .ref m_ys, .ref m_ons, .ref m_contours, .int 0, .int 0, .int 0, .ref m_flags, .ref m_part, .int 0, .ref m_text, .int 0, .ref m_ringX, .ref m_ringY, .ref m_ringOn, .int 0, .ref m_curves, .ref m_windings, .ref m_rows]))] sz)) 0 0 (va_A [(h1, .inr (10, [.int ft, .int 0, .ref m_file, .int 0, .int 0, .ref m_bytes, .ref m_places, .ref m_lengths, .ref m_glyphCount, .ref m_ems, .ref m_wides, .ref m_forms, .ref m_parts, .ref m_charts, .ref m_pointCount, .ref m_contourCount, .ref m_depths, .ref m_xs, .ref m_ys, .ref m_ons, .ref m_contours, .int 0, .int 0, .int 0, .ref m_flags, .ref m_part, .int 0, .ref m_text, .int 0, .ref m_ringX, .ref m_ringY, .ref m_ringOn, .int 0, .ref m_curves, .ref m_windings, .ref m_rows]))] sz) := by
  refine Met.ofW (cc := b_MD_thrown) (maxL := 1) (ret := (some .int)) (by decide) rfl ?_
  intro p e s m args below meth c s₁ B hml hv
  obtain ⟨rfl, hsz, hP, hK, hD0⟩ := hv
  have hx := B.exec
  have hb := B.bytes
  have hr := B.returns
  have hts := atoms_spec (ws := s_MD_thrown) B.pre
  have hown : s.vm.findClass R_MD = some m.cls := findClass_of_methodNamed B.named
  have hlocks := B.notSynchronized
  subst hsz
  have hD := hD0.self (sz := s.heap.size)
  generalize hAe : va_A [(h1, .inr (10, [.int ft, .int 0, .ref m_file, .int 0, .int 0, .ref m_bytes, .ref m_places, .ref m_lengths, .ref m_glyphCount, .ref m_ems, .ref m_wides, .ref m_forms, .ref m_parts, .ref m_charts, .ref m_pointCount, .ref m_contourCount, .ref m_depths, .ref m_xs, .ref m_ys, .ref m_ons, .ref m_contours, .int 0, .int 0, .int 0, .ref m_flags, .ref m_part, .int 0, .ref m_text, .int 0, .ref m_ringX, .ref m_ringY, .ref m_ringOn, .int 0, .ref m_curves, .ref m_windings, .ref m_rows]))] s.heap.size = A at hD ⊢
  have hA : ∀ q : Nat, s.heap.size ≤ q → A q := fun q h => by rw [← hAe]; exact Or.inr h
  have hS : va_S A s.heap s.heap [] := va_S.rf
  have hP : va_P (dC, dI) cls_ [(h1, .inr (10, [.int ft, .int 0, .ref m_file, .int 0, .int 0, .ref m_bytes, .ref m_places, .ref m_lengths, .ref m_glyphCount, .ref m_ems, .ref m_wides, .ref m_forms, .ref m_parts, .ref m_charts, .ref m_pointCount, .ref m_contourCount, .ref m_depths, .ref m_xs, .ref m_ys, .ref m_ons, .ref m_contours, .int 0, .int 0, .int 0, .ref m_flags, .ref m_part, .int 0, .ref m_text, .int 0, .ref m_ringX, .ref m_ringY, .ref m_ringOn, .int 0, .ref m_curves, .ref m_windings, .ref m_rows]))] s.heap := hP
  have hl := lv_entry ([.ref h1]) (n := 1) (Nat.le_of_ble_eq_true rfl)
  rw [lg_entry_eq]
  generalize (lg_sl ([.ref h1]) ++ List.replicate (1 - (lg_sl ([.ref h1])).length) Slot.unset).toArray = ls at hl ⊢
  have hl : lv_has ls 1 [(0, .ref h1)] := hl
  refine lv_aload_n hx hb d_MD_thrown_0 rfl (lv_at hl 0 rfl) ?_
  refine va_get (D := (dC, dI)) (ci := 10) (v := .int ft) (C := R_MD) (T := F_MD) (N := 36) hx hb hts in_MD hown hK hP 0 rfl rfl 0 (by decide) (hts _ (List.mem_cons_of_mem _ w_852)) (fun _ h9 => h9) rfl d_MD_thrown_1 ?_
  refine W.widen (k := 0) (n := 0) (Nat.le_of_ble_eq_true rfl) (Nat.le_of_ble_eq_true rfl) ?_
  exact W.iret (v := ft) hx hb hr (fun t ht hW => ⟨⟨ft, (), rfl, rfl, trivial⟩, hS.F ht⟩) hS.2.2 d_MD_thrown_4
set_option maxHeartbeats 4000000 in
set_option maxRecDepth 100000 in
/-- GlyphLinesModel.refused -/
theorem c_MD_refused_0 (l : Launch) (dC : Nat → ClassId) (dI : Nat → Nat → Nat) (h1 m_file m_bytes m_places m_lengths m_glyphCount m_ems m_wides m_forms m_parts m_charts m_pointCount m_contourCount m_depths m_xs m_ys m_ons m_contours m_flags m_part m_text m_ringX m_ringY m_ringOn m_curves m_windings m_rows : Nat) (sz : Nat) : Met l y_MD_refused s_MD_refused ({ frames := 8, cells := 0, slots := 0, locals := 200 }) (va_Pc [.ref h1, .int 0] (fun U => U.heap.size = sz ∧ va_P (dC, dI) cls_ [(h1, .inr (10, [.int 0, .int 0, .ref m_file, .int 0, .int 0, .ref m_bytes, .ref m_places, .ref m_lengths, .ref m_glyphCount, .ref m_ems, .ref m_wides, .ref m_forms, .ref m_parts, .ref m_charts, .ref m_pointCount, .ref m_contourCount, .ref m_depths, .ref m_xs, .ref m_ys, .ref m_ons, .ref m_contours, .int 0, .int 0, .int 0, .ref m_flags, .ref m_part, .int 0, .ref m_text, .int 0, .ref m_ringX, .ref m_ringY, .ref m_ringOn, .int 0, .ref m_curves, .ref m_windings, .ref m_rows]))] U.heap ∧ va_K (dC, dI) cls_ [] U ∧ va_D (fun _ => True) [(h1, .inr (10, [.int 0, .int 0, .ref m_file, .int 0, .int 0, .ref m_bytes, .ref m_places, .ref m_lengths, .ref m_glyphCount, .ref m_ems, .ref m_wides, .ref m_forms, .ref m_parts, .ref m_charts, .ref m_pointCount, .ref m_contourCount, .ref m_depths, .ref m_xs, .ref m_ys, .ref m_ons, .ref m_contours, .int 0, .int 0, .int 0, .ref m_flags, .ref m_part, .int 0, .ref m_text, .int 0, .ref m_ringX, .ref m_ringY, .ref m_ringOn, .int 0, .ref m_curves, .ref m_windings, .ref m_rows]))])) (va_Qi (fun (r : Int32) (_ : Unit) => r = 0) (fun (_ : Unit) (t : State) => va_P (dC, dI) cls_ [(h1, .inr (10, [.int 0, .int 0, .ref m_file, .int 0, .int 0, .ref m_bytes, .ref m_places, .ref m_lengths, .ref m_glyphCount, .ref m_ems, .ref m_wides, .ref m_forms, .ref m_parts, .ref m_charts, .ref m_pointCount, .ref m_contourCount, .ref m_depths, .ref m_xs, .ref m_ys, .ref m_ons, .ref m_contours, .int 0, .int 0, .int 0, .ref m_flags, .ref m_part, .int 0, .ref m_text, .int 0, .ref m_ringX, .ref m_ringY, .ref m_ringOn, .int 0, .ref m_curves, .ref m_windings, .ref m_rows]))] t.heap ∧ va_K (dC, dI) cls_ [] t ∧ va_D (va_A [(h1, .inr (10, [.int 0, .int 0, .ref m_file, .int 0, .int 0, .ref m_bytes, .ref m_places, .ref m_lengths, .ref m_glyphCount, .ref m_ems, .ref m_wides, .ref m_forms, .ref m_parts, .ref m_charts, .ref m_pointCount, .ref m_contourCount, .ref m_depths, .ref m_xs, .ref m_ys, .ref m_ons, .ref m_contours, .int 0, .int 0, .int 0, .ref m_flags, .ref m_part, .int 0, .ref m_text, .int 0, .ref m_ringX, .ref m_ringY, .ref m_ringOn, .int 0, .ref m_curves, .ref m_windings, .ref m_rows]))] sz) [(h1, .inr (10, [.int 0, .int 0, .ref m_file, .int 0, .int 0, .ref m_bytes, .ref m_places, .ref m_lengths, .ref m_glyphCount, .ref m_ems, .ref m_wides, .ref m_forms, .ref m_parts, .ref m_charts, .ref m_pointCount, .ref m_contourCount, .ref m_depths, .ref m_xs, .ref m_ys, .ref m_ons, .ref m_contours, .int 0, .int 0, .int 0, .ref m_flags, .ref m_part, .int 0, .ref m_text, .int 0, .ref m_ringX, .ref m_ringY, .ref m_ringOn, .int 0, .ref m_curves, .ref m_windings, .ref m_rows]))]) (va_A [(h1, .inr (10, [.int 0, .int 0, .ref m_file, .int 0, .int 0, .ref m_bytes, .ref m_places, .ref m_lengths, .ref m_glyphCount, .ref m_ems, .ref m_wides, .ref m_forms, .ref m_parts, .ref m_charts, .ref m_pointCount, .ref m_contourCount, .ref m_depths, .ref m_xs, .ref m_ys, .ref m_ons, .ref m_contours, .int 0, .int 0, .int 0, .ref m_flags, .ref m_part, .int 0, .ref m_text, .int 0, .ref m_ringX, .ref m_ringY, .ref m_ringOn, .int 0, .ref m_curves, .ref m_windings, .ref m_rows]))] sz)) 0 0 (va_A [(h1, .inr (10, [.int 0, .int 0, .ref m_file, .int 0, .int 0, .ref m_bytes, .ref m_places, .ref m_lengths, .ref m_glyphCount, .ref m_ems, .ref m_wides, .ref m_forms, .ref m_parts, .ref m_charts, .ref m_pointCount, .ref m_contourCount, .ref m_depths, .ref m_xs, .ref m_ys, .ref m_ons, .ref m_contours, .int 0, .int 0, .int 0, .ref m_flags, .ref m_part, .int 0, .ref m_text, .int 0, .ref m_ringX, .ref m_ringY, .ref m_ringOn, .int 0, .ref m_curves, .ref m_windings, .ref m_rows]))] sz) := by
  refine Met.ofW (cc := b_MD_refused) (maxL := 2) (ret := (some .boolean)) (by decide) rfl ?_
  intro p e s m args below meth c s₁ B hml hv
  obtain ⟨rfl, hsz, hP, hK, hD0⟩ := hv
  have hx := B.exec
  have hb := B.bytes
  have hr := B.returns
  have hts := atoms_spec (ws := s_MD_refused) B.pre
  have hown : s.vm.findClass R_MD = some m.cls := findClass_of_methodNamed B.named
  have hlocks := B.notSynchronized
  subst hsz
  have hD := hD0.self (sz := s.heap.size)
  generalize hAe : va_A [(h1, .inr (10, [.int 0, .int 0, .ref m_file, .int 0, .int 0, .ref m_bytes, .ref m_places, .ref m_lengths, .ref m_glyphCount, .ref m_ems, .ref m_wides, .ref m_forms, .ref m_parts, .ref m_charts, .ref m_pointCount, .ref m_contourCount, .ref m_depths, .ref m_xs, .ref m_ys, .ref m_ons, .ref m_contours, .int 0, .int 0, .int 0, .ref m_flags, .ref m_part, .int 0, .ref m_text, .int 0, .ref m_ringX, .ref m_ringY, .ref m_ringOn, .int 0, .ref m_curves, .ref m_windings, .ref m_rows]))] s.heap.size = A at hD ⊢
  have hA : ∀ q : Nat, s.heap.size ≤ q → A q := fun q h => by rw [← hAe]; exact Or.inr h
  have hS : va_S A s.heap s.heap [] := va_S.rf
  have hP : va_P (dC, dI) cls_ [(h1, .inr (10, [.int 0, .int 0, .ref m_file, .int 0, .int 0, .ref m_bytes, .ref m_places, .ref m_lengths, .ref m_glyphCount, .ref m_ems, .ref m_wides, .ref m_forms, .ref m_parts, .ref m_charts, .ref m_pointCount, .ref m_contourCount, .ref m_depths, .ref m_xs, .ref m_ys, .ref m_ons, .ref m_contours, .int 0, .int 0, .int 0, .ref m_flags, .ref m_part, .int 0, .ref m_text, .int 0, .ref m_ringX, .ref m_ringY, .ref m_ringOn, .int 0, .ref m_curves, .ref m_windings, .ref m_rows]))] s.heap := hP
  have hl := lv_entry ([.ref h1, .int 0]) (n := 2) (Nat.le_of_ble_eq_true rfl)
  rw [lg_entry_eq]
  generalize (lg_sl ([.ref h1, .int 0]) ++ List.replicate (2 - (lg_sl ([.ref h1, .int 0])).length) Slot.unset).toArray = ls at hl ⊢
  have hl : lv_has ls 2 [(0, .ref h1), (1, .int 0)] := hl
  refine lv_aload_n hx hb d_MD_refused_0 rfl (lv_at hl 0 rfl) ?_
  refine lv_iload_n hx hb d_MD_refused_1 rfl (lv_at hl 1 rfl) ?_
  refine va_put (D := (dC, dI)) (ci := 10) (v := .int 0) (ty := .int) (C := R_MD) (T := F_MD) (N := 36) hx hb hts in_MD t_MD t_MD_ok n_MD hown hK hP hD hS 0 rfl rfl 0 (by decide) (hts _ (List.mem_cons_of_mem _ w_852)) (fun _ h9 => h9) rfl  (by decide +kernel) rfl rfl (Nat.le_of_ble_eq_true rfl) d_MD_refused_2 (fun H locs hP hD hS => ?_)
  have hP : va_P (dC, dI) cls_ [(h1, .inr (10, [.int 0, .int 0, .ref m_file, .int 0, .int 0, .ref m_bytes, .ref m_places, .ref m_lengths, .ref m_glyphCount, .ref m_ems, .ref m_wides, .ref m_forms, .ref m_parts, .ref m_charts, .ref m_pointCount, .ref m_contourCount, .ref m_depths, .ref m_xs, .ref m_ys, .ref m_ons, .ref m_contours, .int 0, .int 0, .int 0, .ref m_flags, .ref m_part, .int 0, .ref m_text, .int 0, .ref m_ringX, .ref m_ringY, .ref m_ringOn, .int 0, .ref m_curves, .ref m_windings, .ref m_rows]))] H := hP
  have hD : va_D A [(h1, .inr (10, [.int 0, .int 0, .ref m_file, .int 0, .int 0, .ref m_bytes, .ref m_places, .ref m_lengths, .ref m_glyphCount, .ref m_ems, .ref m_wides, .ref m_forms, .ref m_parts, .ref m_charts, .ref m_pointCount, .ref m_contourCount, .ref m_depths, .ref m_xs, .ref m_ys, .ref m_ons, .ref m_contours, .int 0, .int 0, .int 0, .ref m_flags, .ref m_part, .int 0, .ref m_text, .int 0, .ref m_ringX, .ref m_ringY, .ref m_ringOn, .int 0, .ref m_curves, .ref m_windings, .ref m_rows]))] := hD
  refine lv_iload_n hx hb d_MD_refused_5 rfl (lv_at hl 1 rfl) ?_
  refine lv_if_le (tgt := 13) hx hb d_MD_refused_6 (by decide) (fun _ => ?_) (fun hc => absurd hc (by decide +kernel))
  refine lv_iconst (v := 0) hx hb d_MD_refused_13 (by decide) ?_
  refine W.widen (k := 0) (n := 0) (Nat.le_of_ble_eq_true rfl) (Nat.le_of_ble_eq_true rfl) ?_
  have hP9 := hP.sub (ws' := [(h1, .inr (10, [.int 0, .int 0, .ref m_file, .int 0, .int 0, .ref m_bytes, .ref m_places, .ref m_lengths, .ref m_glyphCount, .ref m_ems, .ref m_wides, .ref m_forms, .ref m_parts, .ref m_charts, .ref m_pointCount, .ref m_contourCount, .ref m_depths, .ref m_xs, .ref m_ys, .ref m_ons, .ref m_contours, .int 0, .int 0, .int 0, .ref m_flags, .ref m_part, .int 0, .ref m_text, .int 0, .ref m_ringX, .ref m_ringY, .ref m_ringOn, .int 0, .ref m_curves, .ref m_windings, .ref m_rows]))]) [0] rfl
  have hD9 := hD.sub (ws' := [(h1, .inr (10, [.int 0, .int 0, .ref m_file, .int 0, .int 0, .ref m_bytes, .ref m_places, .ref m_lengths, .ref m_glyphCount, .ref m_ems, .ref m_wides, .ref m_forms, .ref m_parts, .ref m_charts, .ref m_pointCount, .ref m_contourCount, .ref m_depths, .ref m_xs, .ref m_ys, .ref m_ons, .ref m_contours, .int 0, .int 0, .int 0, .ref m_flags, .ref m_part, .int 0, .ref m_text, .int 0, .ref m_ringX, .ref m_ringY, .ref m_ringOn, .int 0, .ref m_curves, .ref m_windings, .ref m_rows]))]) [0] (by decide) rfl
  have hK9 := hK.sub (tys' := []) [] rfl
  exact W.zret (v := 0) (ty := .boolean) hx hb hr (by decide +kernel) (fun t ht hW => ⟨⟨0, (), rfl, rfl, by rw [ht]; exact hP9, va_K.moved hW.alike hK9, hD9⟩, hS.F ht⟩) hS.2.2 d_MD_refused_14
set_option maxHeartbeats 4000000 in
set_option maxRecDepth 100000 in
/-- GlyphLinesModel.refused -/
theorem c_MD_refused_1 (l : Launch) (dC : Nat → ClassId) (dI : Nat → Nat → Nat) (h1 m_file m_bytes m_places m_lengths m_glyphCount m_ems m_wides m_forms m_parts m_charts m_pointCount m_contourCount m_depths m_xs m_ys m_ons m_contours m_flags m_part m_text m_ringX m_ringY m_ringOn m_curves m_windings m_rows : Nat) (sz : Nat) : Met l y_MD_refused s_MD_refused ({ frames := 8, cells := 0, slots := 0, locals := 200 }) (va_Pc [.ref h1, .int 1] (fun U => U.heap.size = sz ∧ va_P (dC, dI) cls_ [(h1, .inr (10, [.int 0, .int 0, .ref m_file, .int 0, .int 0, .ref m_bytes, .ref m_places, .ref m_lengths, .ref m_glyphCount, .ref m_ems, .ref m_wides, .ref m_forms, .ref m_parts, .ref m_charts, .ref m_pointCount, .ref m_contourCount, .ref m_depths, .ref m_xs, .ref m_ys, .ref m_ons, .ref m_contours, .int 0, .int 0, .int 0, .ref m_flags, .ref m_part, .int 0, .ref m_text, .int 0, .ref m_ringX, .ref m_ringY, .ref m_ringOn, .int 0, .ref m_curves, .ref m_windings, .ref m_rows]))] U.heap ∧ va_K (dC, dI) cls_ [] U ∧ va_D (fun _ => True) [(h1, .inr (10, [.int 0, .int 0, .ref m_file, .int 0, .int 0, .ref m_bytes, .ref m_places, .ref m_lengths, .ref m_glyphCount, .ref m_ems, .ref m_wides, .ref m_forms, .ref m_parts, .ref m_charts, .ref m_pointCount, .ref m_contourCount, .ref m_depths, .ref m_xs, .ref m_ys, .ref m_ons, .ref m_contours, .int 0, .int 0, .int 0, .ref m_flags, .ref m_part, .int 0, .ref m_text, .int 0, .ref m_ringX, .ref m_ringY, .ref m_ringOn, .int 0, .ref m_curves, .ref m_windings, .ref m_rows]))])) (va_Qi (fun (r : Int32) (_ : Unit) => r = 1) (fun (_ : Unit) (t : State) => va_P (dC, dI) cls_ [(h1, .inr (10, [.int 1, .int 0, .ref m_file, .int 0, .int 0, .ref m_bytes, .ref m_places, .ref m_lengths, .ref m_glyphCount, .ref m_ems, .ref m_wides, .ref m_forms, .ref m_parts, .ref m_charts, .ref m_pointCount, .ref m_contourCount, .ref m_depths, .ref m_xs, .ref m_ys, .ref m_ons, .ref m_contours, .int 0, .int 0, .int 0, .ref m_flags, .ref m_part, .int 0, .ref m_text, .int 0, .ref m_ringX, .ref m_ringY, .ref m_ringOn, .int 0, .ref m_curves, .ref m_windings, .ref m_rows]))] t.heap ∧ va_K (dC, dI) cls_ [] t ∧ va_D (va_A [(h1, .inr (10, [.int 0, .int 0, .ref m_file, .int 0, .int 0, .ref m_bytes, .ref m_places, .ref m_lengths, .ref m_glyphCount, .ref m_ems, .ref m_wides, .ref m_forms, .ref m_parts, .ref m_charts, .ref m_pointCount, .ref m_contourCount, .ref m_depths, .ref m_xs, .ref m_ys, .ref m_ons, .ref m_contours, .int 0, .int 0, .int 0, .ref m_flags, .ref m_part, .int 0, .ref m_text, .int 0, .ref m_ringX, .ref m_ringY, .ref m_ringOn, .int 0, .ref m_curves, .ref m_windings, .ref m_rows]))] sz) [(h1, .inr (10, [.int 1, .int 0, .ref m_file, .int 0, .int 0, .ref m_bytes, .ref m_places, .ref m_lengths, .ref m_glyphCount, .ref m_ems, .ref m_wides, .ref m_forms, .ref m_parts, .ref m_charts, .ref m_pointCount, .ref m_contourCount, .ref m_depths, .ref m_xs, .ref m_ys, .ref m_ons, .ref m_contours, .int 0, .int 0, .int 0, .ref m_flags, .ref m_part, .int 0, .ref m_text, .int 0, .ref m_ringX, .ref m_ringY, .ref m_ringOn, .int 0, .ref m_curves, .ref m_windings, .ref m_rows]))]) (va_A [(h1, .inr (10, [.int 0, .int 0, .ref m_file, .int 0, .int 0, .ref m_bytes, .ref m_places, .ref m_lengths, .ref m_glyphCount, .ref m_ems, .ref m_wides, .ref m_forms, .ref m_parts, .ref m_charts, .ref m_pointCount, .ref m_contourCount, .ref m_depths, .ref m_xs, .ref m_ys, .ref m_ons, .ref m_contours, .int 0, .int 0, .int 0, .ref m_flags, .ref m_part, .int 0, .ref m_text, .int 0, .ref m_ringX, .ref m_ringY, .ref m_ringOn, .int 0, .ref m_curves, .ref m_windings, .ref m_rows]))] sz)) 0 0 (va_A [(h1, .inr (10, [.int 0, .int 0, .ref m_file, .int 0, .int 0, .ref m_bytes, .ref m_places, .ref m_lengths, .ref m_glyphCount, .ref m_ems, .ref m_wides, .ref m_forms, .ref m_parts, .ref m_charts, .ref m_pointCount, .ref m_contourCount, .ref m_depths, .ref m_xs, .ref m_ys, .ref m_ons, .ref m_contours, .int 0, .int 0, .int 0, .ref m_flags, .ref m_part, .int 0, .ref m_text, .int 0, .ref m_ringX, .ref m_ringY, .ref m_ringOn, .int 0, .ref m_curves, .ref m_windings, .ref m_rows]))] sz) := by
  refine Met.ofW (cc := b_MD_refused) (maxL := 2) (ret := (some .boolean)) (by decide) rfl ?_
  intro p e s m args below meth c s₁ B hml hv
  obtain ⟨rfl, hsz, hP, hK, hD0⟩ := hv
  have hx := B.exec
  have hb := B.bytes
  have hr := B.returns
  have hts := atoms_spec (ws := s_MD_refused) B.pre
  have hown : s.vm.findClass R_MD = some m.cls := findClass_of_methodNamed B.named
  have hlocks := B.notSynchronized
  subst hsz
  have hD := hD0.self (sz := s.heap.size)
  generalize hAe : va_A [(h1, .inr (10, [.int 0, .int 0, .ref m_file, .int 0, .int 0, .ref m_bytes, .ref m_places, .ref m_lengths, .ref m_glyphCount, .ref m_ems, .ref m_wides, .ref m_forms, .ref m_parts, .ref m_charts, .ref m_pointCount, .ref m_contourCount, .ref m_depths, .ref m_xs, .ref m_ys, .ref m_ons, .ref m_contours, .int 0, .int 0, .int 0, .ref m_flags, .ref m_part, .int 0, .ref m_text, .int 0, .ref m_ringX, .ref m_ringY, .ref m_ringOn, .int 0, .ref m_curves, .ref m_windings, .ref m_rows]))] s.heap.size = A at hD ⊢
  have hA : ∀ q : Nat, s.heap.size ≤ q → A q := fun q h => by rw [← hAe]; exact Or.inr h
  have hS : va_S A s.heap s.heap [] := va_S.rf
  have hP : va_P (dC, dI) cls_ [(h1, .inr (10, [.int 0, .int 0, .ref m_file, .int 0, .int 0, .ref m_bytes, .ref m_places, .ref m_lengths, .ref m_glyphCount, .ref m_ems, .ref m_wides, .ref m_forms, .ref m_parts, .ref m_charts, .ref m_pointCount, .ref m_contourCount, .ref m_depths, .ref m_xs, .ref m_ys, .ref m_ons, .ref m_contours, .int 0, .int 0, .int 0, .ref m_flags, .ref m_part, .int 0, .ref m_text, .int 0, .ref m_ringX, .ref m_ringY, .ref m_ringOn, .int 0, .ref m_curves, .ref m_windings, .ref m_rows]))] s.heap := hP
  have hl := lv_entry ([.ref h1, .int 1]) (n := 2) (Nat.le_of_ble_eq_true rfl)
  rw [lg_entry_eq]
  generalize (lg_sl ([.ref h1, .int 1]) ++ List.replicate (2 - (lg_sl ([.ref h1, .int 1])).length) Slot.unset).toArray = ls at hl ⊢
  have hl : lv_has ls 2 [(0, .ref h1), (1, .int 1)] := hl
  refine lv_aload_n hx hb d_MD_refused_0 rfl (lv_at hl 0 rfl) ?_
  refine lv_iload_n hx hb d_MD_refused_1 rfl (lv_at hl 1 rfl) ?_
  refine va_put (D := (dC, dI)) (ci := 10) (v := .int 1) (ty := .int) (C := R_MD) (T := F_MD) (N := 36) hx hb hts in_MD t_MD t_MD_ok n_MD hown hK hP hD hS 0 rfl rfl 0 (by decide) (hts _ (List.mem_cons_of_mem _ w_852)) (fun _ h9 => h9) rfl  (by decide +kernel) rfl rfl (Nat.le_of_ble_eq_true rfl) d_MD_refused_2 (fun H locs hP hD hS => ?_)
  have hP : va_P (dC, dI) cls_ [(h1, .inr (10, [.int 1, .int 0, .ref m_file, .int 0, .int 0, .ref m_bytes, .ref m_places, .ref m_lengths, .ref m_glyphCount, .ref m_ems, .ref m_wides, .ref m_forms, .ref m_parts, .ref m_charts, .ref m_pointCount, .ref m_contourCount, .ref m_depths, .ref m_xs, .ref m_ys, .ref m_ons, .ref m_contours, .int 0, .int 0, .int 0, .ref m_flags, .ref m_part, .int 0, .ref m_text, .int 0, .ref m_ringX, .ref m_ringY, .ref m_ringOn, .int 0, .ref m_curves, .ref m_windings, .ref m_rows]))] H := hP
  have hD : va_D A [(h1, .inr (10, [.int 1, .int 0, .ref m_file, .int 0, .int 0, .ref m_bytes, .ref m_places, .ref m_lengths, .ref m_glyphCount, .ref m_ems, .ref m_wides, .ref m_forms, .ref m_parts, .ref m_charts, .ref m_pointCount, .ref m_contourCount, .ref m_depths, .ref m_xs, .ref m_ys, .ref m_ons, .ref m_contours, .int 0, .int 0, .int 0, .ref m_flags, .ref m_part, .int 0, .ref m_text, .int 0, .ref m_ringX, .ref m_ringY, .ref m_ringOn, .int 0, .ref m_curves, .ref m_windings, .ref m_rows]))] := hD
  refine lv_iload_n hx hb d_MD_refused_5 rfl (lv_at hl 1 rfl) ?_
  refine lv_if_le (tgt := 13) hx hb d_MD_refused_6 (by decide) (fun hc => absurd hc (by decide +kernel)) (fun _ => ?_)
  refine lv_iconst (v := 1) hx hb d_MD_refused_9 (by decide) ?_
  refine lv_goto (tgt := 14) hx hb d_MD_refused_10 (by decide) ?_
  refine W.widen (k := 0) (n := 0) (Nat.le_of_ble_eq_true rfl) (Nat.le_of_ble_eq_true rfl) ?_
  have hP9 := hP.sub (ws' := [(h1, .inr (10, [.int 1, .int 0, .ref m_file, .int 0, .int 0, .ref m_bytes, .ref m_places, .ref m_lengths, .ref m_glyphCount, .ref m_ems, .ref m_wides, .ref m_forms, .ref m_parts, .ref m_charts, .ref m_pointCount, .ref m_contourCount, .ref m_depths, .ref m_xs, .ref m_ys, .ref m_ons, .ref m_contours, .int 0, .int 0, .int 0, .ref m_flags, .ref m_part, .int 0, .ref m_text, .int 0, .ref m_ringX, .ref m_ringY, .ref m_ringOn, .int 0, .ref m_curves, .ref m_windings, .ref m_rows]))]) [0] rfl
  have hD9 := hD.sub (ws' := [(h1, .inr (10, [.int 1, .int 0, .ref m_file, .int 0, .int 0, .ref m_bytes, .ref m_places, .ref m_lengths, .ref m_glyphCount, .ref m_ems, .ref m_wides, .ref m_forms, .ref m_parts, .ref m_charts, .ref m_pointCount, .ref m_contourCount, .ref m_depths, .ref m_xs, .ref m_ys, .ref m_ons, .ref m_contours, .int 0, .int 0, .int 0, .ref m_flags, .ref m_part, .int 0, .ref m_text, .int 0, .ref m_ringX, .ref m_ringY, .ref m_ringOn, .int 0, .ref m_curves, .ref m_windings, .ref m_rows]))]) [0] (by decide) rfl
  have hK9 := hK.sub (tys' := []) [] rfl
  exact W.zret (v := 1) (ty := .boolean) hx hb hr (by decide +kernel) (fun t ht hW => ⟨⟨1, (), rfl, rfl, by rw [ht]; exact hP9, va_K.moved hW.alike hK9, hD9⟩, hS.F ht⟩) hS.2.2 d_MD_refused_14
set_option maxHeartbeats 4000000 in
set_option maxRecDepth 100000 in
/-- GlyphLinesModel.isGlyph -/
theorem c_MD_isGlyph (l : Launch) (dC : Nat → ClassId) (dI : Nat → Nat → Nat) (h1 m_file m_bytes m_places m_lengths m_glyphCount m_ems m_wides m_forms m_parts m_charts m_pointCount m_contourCount m_depths m_xs m_ys m_ons m_contours m_flags m_part m_text m_ringX m_ringY m_ringOn m_curves m_windings m_rows : Nat) (gl : Int32) (sz : Nat) : Met l y_MD_isGlyph s_MD_isGlyph ({ frames := 8, cells := 0, slots := 0, locals := 200 }) (va_Pc [.ref h1, .int gl] (fun U => U.heap.size = sz ∧ va_P (dC, dI) cls_ [(h1, .inr (10, [.int 0, .int 0, .ref m_file, .int 0, .int 0, .ref m_bytes, .ref m_places, .ref m_lengths, .ref m_glyphCount, .ref m_ems, .ref m_wides, .ref m_forms, .ref m_parts, .ref m_charts, .ref m_pointCount, .ref m_contourCount, .ref m_depths, .ref m_xs, .ref m_ys, .ref m_ons, .ref m_contours, .int 0, .int 0, .int 0, .ref m_flags, .ref m_part, .int 0, .ref m_text, .int 0, .ref m_ringX, .ref m_ringY, .ref m_ringOn, .int 0, .ref m_curves, .ref m_windings, .ref m_rows]))] U.heap ∧ va_K (dC, dI) cls_ [] U ∧ va_D (fun _ => True) [(h1, .inr (10, [.int 0, .int 0, .ref m_file, .int 0, .int 0, .ref m_bytes, .ref m_places, .ref m_lengths, .ref m_glyphCount, .ref m_ems, .ref m_wides, .ref m_forms, .ref m_parts, .ref m_charts, .ref m_pointCount, .ref m_contourCount, .ref m_depths, .ref m_xs, .ref m_ys, .ref m_ons, .ref m_contours, .int 0, .int 0, .int 0, .ref m_flags, .ref m_part, .int 0, .ref m_text, .int 0, .ref m_ringX, .ref m_ringY, .ref m_ringOn, .int 0, .ref m_curves, .ref m_windings, .ref m_rows]))])) (va_Qi (fun (r : Int32) (_ : Unit) => r = 0) (fun (_ : Unit) (t : State) => va_P (dC, dI) cls_ [(h1, .inr (10, [.int 0, .int 0, .ref m_file, .int 0, .int 0, .ref m_bytes, .ref m_places, .ref m_lengths, .ref m_glyphCount, .ref m_ems, .ref m_wides, .ref m_forms, .ref m_parts, .ref m_charts, .ref m_pointCount, .ref m_contourCount, .ref m_depths, .ref m_xs, .ref m_ys, .ref m_ons, .ref m_contours, .int 0, .int 0, .int 0, .ref m_flags, .ref m_part, .int 0, .ref m_text, .int 0, .ref m_ringX, .ref m_ringY, .ref m_ringOn, .int 0, .ref m_curves, .ref m_windings, .ref m_rows]))] t.heap ∧ va_K (dC, dI) cls_ [] t ∧ va_D (va_A [(h1, .inr (10, [.int 0, .int 0, .ref m_file, .int 0, .int 0, .ref m_bytes, .ref m_places, .ref m_lengths, .ref m_glyphCount, .ref m_ems, .ref m_wides, .ref m_forms, .ref m_parts, .ref m_charts, .ref m_pointCount, .ref m_contourCount, .ref m_depths, .ref m_xs, .ref m_ys, .ref m_ons, .ref m_contours, .int 0, .int 0, .int 0, .ref m_flags, .ref m_part, .int 0, .ref m_text, .int 0, .ref m_ringX, .ref m_ringY, .ref m_ringOn, .int 0, .ref m_curves, .ref m_windings, .ref m_rows]))] sz) [(h1, .inr (10, [.int 0, .int 0, .ref m_file, .int 0, .int 0, .ref m_bytes, .ref m_places, .ref m_lengths, .ref m_glyphCount, .ref m_ems, .ref m_wides, .ref m_forms, .ref m_parts, .ref m_charts, .ref m_pointCount, .ref m_contourCount, .ref m_depths, .ref m_xs, .ref m_ys, .ref m_ons, .ref m_contours, .int 0, .int 0, .int 0, .ref m_flags, .ref m_part, .int 0, .ref m_text, .int 0, .ref m_ringX, .ref m_ringY, .ref m_ringOn, .int 0, .ref m_curves, .ref m_windings, .ref m_rows]))]) (va_A [(h1, .inr (10, [.int 0, .int 0, .ref m_file, .int 0, .int 0, .ref m_bytes, .ref m_places, .ref m_lengths, .ref m_glyphCount, .ref m_ems, .ref m_wides, .ref m_forms, .ref m_parts, .ref m_charts, .ref m_pointCount, .ref m_contourCount, .ref m_depths, .ref m_xs, .ref m_ys, .ref m_ons, .ref m_contours, .int 0, .int 0, .int 0, .ref m_flags, .ref m_part, .int 0, .ref m_text, .int 0, .ref m_ringX, .ref m_ringY, .ref m_ringOn, .int 0, .ref m_curves, .ref m_windings, .ref m_rows]))] sz)) 0 0 (va_A [(h1, .inr (10, [.int 0, .int 0, .ref m_file, .int 0, .int 0, .ref m_bytes, .ref m_places, .ref m_lengths, .ref m_glyphCount, .ref m_ems, .ref m_wides, .ref m_forms, .ref m_parts, .ref m_charts, .ref m_pointCount, .ref m_contourCount, .ref m_depths, .ref m_xs, .ref m_ys, .ref m_ons, .ref m_contours, .int 0, .int 0, .int 0, .ref m_flags, .ref m_part, .int 0, .ref m_text, .int 0, .ref m_ringX, .ref m_ringY, .ref m_ringOn, .int 0, .ref m_curves, .ref m_windings, .ref m_rows]))] sz) := by
  refine Met.ofW (cc := b_MD_isGlyph) (maxL := 2) (ret := (some .boolean)) (by decide) rfl ?_
  intro p e s m args below meth c s₁ B hml hv
  obtain ⟨rfl, hsz, hP, hK, hD0⟩ := hv
  have hx := B.exec
  have hb := B.bytes
  have hr := B.returns
  have hts := atoms_spec (ws := s_MD_isGlyph) B.pre
  have hown : s.vm.findClass R_MD = some m.cls := findClass_of_methodNamed B.named
  have hlocks := B.notSynchronized
  subst hsz
  have hD := hD0.self (sz := s.heap.size)
  generalize hAe : va_A [(h1, .inr (10, [.int 0, .int 0, .ref m_file, .int 0, .int 0, .ref m_bytes, .ref m_places, .ref m_lengths, .ref m_glyphCount, .ref m_ems, .ref m_wides, .ref m_forms, .ref m_parts, .ref m_charts, .ref m_pointCount, .ref m_contourCount, .ref m_depths, .ref m_xs, .ref m_ys, .ref m_ons, .ref m_contours, .int 0, .int 0, .int 0, .ref m_flags, .ref m_part, .int 0, .ref m_text, .int 0, .ref m_ringX, .ref m_ringY, .ref m_ringOn, .int 0, .ref m_curves, .ref m_windings, .ref m_rows]))] s.heap.size = A at hD ⊢
  have hA : ∀ q : Nat, s.heap.size ≤ q → A q := fun q h => by rw [← hAe]; exact Or.inr h
  have hS : va_S A s.heap s.heap [] := va_S.rf
  have hP : va_P (dC, dI) cls_ [(h1, .inr (10, [.int 0, .int 0, .ref m_file, .int 0, .int 0, .ref m_bytes, .ref m_places, .ref m_lengths, .ref m_glyphCount, .ref m_ems, .ref m_wides, .ref m_forms, .ref m_parts, .ref m_charts, .ref m_pointCount, .ref m_contourCount, .ref m_depths, .ref m_xs, .ref m_ys, .ref m_ons, .ref m_contours, .int 0, .int 0, .int 0, .ref m_flags, .ref m_part, .int 0, .ref m_text, .int 0, .ref m_ringX, .ref m_ringY, .ref m_ringOn, .int 0, .ref m_curves, .ref m_windings, .ref m_rows]))] s.heap := hP
  have hl := lv_entry ([.ref h1, .int gl]) (n := 2) (Nat.le_of_ble_eq_true rfl)
  rw [lg_entry_eq]
  generalize (lg_sl ([.ref h1, .int gl]) ++ List.replicate (2 - (lg_sl ([.ref h1, .int gl])).length) Slot.unset).toArray = ls at hl ⊢
  have hl : lv_has ls 2 [(0, .ref h1), (1, .int gl)] := hl
  refine lv_aload_n hx hb d_MD_isGlyph_0 rfl (lv_at hl 0 rfl) ?_
  refine va_get (D := (dC, dI)) (ci := 10) (v := .int 0) (C := R_MD) (T := F_MD) (N := 36) hx hb hts in_MD hown hK hP 0 rfl rfl 4 (by decide) (hts _ (List.mem_cons_of_mem _ w_856)) (fun _ h9 => h9) rfl d_MD_isGlyph_1 ?_
  refine lv_if_eq (tgt := 28) hx hb d_MD_isGlyph_4 (by decide) (fun _ => ?_) (fun hc => absurd hc (by decide +kernel))
  refine lv_iconst (v := 0) hx hb d_MD_isGlyph_28 (by decide) ?_
  refine W.widen (k := 0) (n := 0) (Nat.le_of_ble_eq_true rfl) (Nat.le_of_ble_eq_true rfl) ?_
  have hP9 := hP.sub (ws' := [(h1, .inr (10, [.int 0, .int 0, .ref m_file, .int 0, .int 0, .ref m_bytes, .ref m_places, .ref m_lengths, .ref m_glyphCount, .ref m_ems, .ref m_wides, .ref m_forms, .ref m_parts, .ref m_charts, .ref m_pointCount, .ref m_contourCount, .ref m_depths, .ref m_xs, .ref m_ys, .ref m_ons, .ref m_contours, .int 0, .int 0, .int 0, .ref m_flags, .ref m_part, .int 0, .ref m_text, .int 0, .ref m_ringX, .ref m_ringY, .ref m_ringOn, .int 0, .ref m_curves, .ref m_windings, .ref m_rows]))]) [0] rfl
  have hD9 := hD.sub (ws' := [(h1, .inr (10, [.int 0, .int 0, .ref m_file, .int 0, .int 0, .ref m_bytes, .ref m_places, .ref m_lengths, .ref m_glyphCount, .ref m_ems, .ref m_wides, .ref m_forms, .ref m_parts, .ref m_charts, .ref m_pointCount, .ref m_contourCount, .ref m_depths, .ref m_xs, .ref m_ys, .ref m_ons, .ref m_contours, .int 0, .int 0, .int 0, .ref m_flags, .ref m_part, .int 0, .ref m_text, .int 0, .ref m_ringX, .ref m_ringY, .ref m_ringOn, .int 0, .ref m_curves, .ref m_windings, .ref m_rows]))]) [0] (by decide) rfl
  have hK9 := hK.sub (tys' := []) [] rfl
  exact W.zret (v := 0) (ty := .boolean) hx hb hr (by decide +kernel) (fun t ht hW => ⟨⟨0, (), rfl, rfl, by rw [ht]; exact hP9, va_K.moved hW.alike hK9, hD9⟩, hS.F ht⟩) hS.2.2 d_MD_isGlyph_29
set_option maxHeartbeats 4000000 in
set_option maxRecDepth 100000 in
/-- GlyphLinesModel.put -/
theorem c_MD_put (l : Launch) (dC : Nat → ClassId) (dI : Nat → Nat → Nat) (h1 m_file m_bytes m_places m_lengths m_glyphCount m_ems m_wides m_forms m_parts m_charts m_pointCount m_contourCount m_depths m_xs m_ys m_ons m_contours m_flags m_part m_text m_ringX m_ringY m_ringOn m_curves m_windings m_rows : Nat) (i b : Int32) (sz : Nat) : Met l y_MD_put s_MD_put ({ frames := 10, cells := 0, slots := 0, locals := 300 }) (va_Pc [.ref h1, .int i, .int b] (fun U => U.heap.size = sz ∧ va_P (dC, dI) cls_ [(h1, .inr (10, [.int 0, .int 0, .ref m_file, .int 0, .int 0, .ref m_bytes, .ref m_places, .ref m_lengths, .ref m_glyphCount, .ref m_ems, .ref m_wides, .ref m_forms, .ref m_parts, .ref m_charts, .ref m_pointCount, .ref m_contourCount, .ref m_depths, .ref m_xs, .ref m_ys, .ref m_ons, .ref m_contours, .int 0, .int 0, .int 0, .ref m_flags, .ref m_part, .int 0, .ref m_text, .int 0, .ref m_ringX, .ref m_ringY, .ref m_ringOn, .int 0, .ref m_curves, .ref m_windings, .ref m_rows]))] U.heap ∧ va_K (dC, dI) cls_ [] U ∧ va_D (fun _ => True) [(h1, .inr (10, [.int 0, .int 0, .ref m_file, .int 0, .int 0, .ref m_bytes, .ref m_places, .ref m_lengths, .ref m_glyphCount, .ref m_ems, .ref m_wides, .ref m_forms, .ref m_parts, .ref m_charts, .ref m_pointCount, .ref m_contourCount, .ref m_depths, .ref m_xs, .ref m_ys, .ref m_ons, .ref m_contours, .int 0, .int 0, .int 0, .ref m_flags, .ref m_part, .int 0, .ref m_text, .int 0, .ref m_ringX, .ref m_ringY, .ref m_ringOn, .int 0, .ref m_curves, .ref m_windings, .ref m_rows]))])) (va_Qi (fun (r : Int32) (_ : Unit) => True) (fun (_ : Unit) (t : State) => va_P (dC, dI) cls_ [(h1, .inr (10, [.int 1, .int 0, .ref m_file, .int 0, .int 0, .ref m_bytes, .ref m_places, .ref m_lengths, .ref m_glyphCount, .ref m_ems, .ref m_wides, .ref m_forms, .ref m_parts, .ref m_charts, .ref m_pointCount, .ref m_contourCount, .ref m_depths, .ref m_xs, .ref m_ys, .ref m_ons, .ref m_contours, .int 0, .int 0, .int 0, .ref m_flags, .ref m_part, .int 0, .ref m_text, .int 0, .ref m_ringX, .ref m_ringY, .ref m_ringOn, .int 0, .ref m_curves, .ref m_windings, .ref m_rows]))] t.heap ∧ va_K (dC, dI) cls_ [] t ∧ va_D (va_A [(h1, .inr (10, [.int 0, .int 0, .ref m_file, .int 0, .int 0, .ref m_bytes, .ref m_places, .ref m_lengths, .ref m_glyphCount, .ref m_ems, .ref m_wides, .ref m_forms, .ref m_parts, .ref m_charts, .ref m_pointCount, .ref m_contourCount, .ref m_depths, .ref m_xs, .ref m_ys, .ref m_ons, .ref m_contours, .int 0, .int 0, .int 0, .ref m_flags, .ref m_part, .int 0, .ref m_text, .int 0, .ref m_ringX, .ref m_ringY, .ref m_ringOn, .int 0, .ref m_curves, .ref m_windings, .ref m_rows]))] sz) [(h1, .inr (10, [.int 1, .int 0, .ref m_file, .int 0, .int 0, .ref m_bytes, .ref m_places, .ref m_lengths, .ref m_glyphCount, .ref m_ems, .ref m_wides, .ref m_forms, .ref m_parts, .ref m_charts, .ref m_pointCount, .ref m_contourCount, .ref m_depths, .ref m_xs, .ref m_ys, .ref m_ons, .ref m_contours, .int 0, .int 0, .int 0, .ref m_flags, .ref m_part, .int 0, .ref m_text, .int 0, .ref m_ringX, .ref m_ringY, .ref m_ringOn, .int 0, .ref m_curves, .ref m_windings, .ref m_rows]))]) (va_A [(h1, .inr (10, [.int 0, .int 0, .ref m_file, .int 0, .int 0, .ref m_bytes, .ref m_places, .ref m_lengths, .ref m_glyphCount, .ref m_ems, .ref m_wides, .ref m_forms, .ref m_parts, .ref m_charts, .ref m_pointCount, .ref m_contourCount, .ref m_depths, .ref m_xs, .ref m_ys, .ref m_ons, .ref m_contours, .int 0, .int 0, .int 0, .ref m_flags, .ref m_part, .int 0, .ref m_text, .int 0, .ref m_ringX, .ref m_ringY, .ref m_ringOn, .int 0, .ref m_curves, .ref m_windings, .ref m_rows]))] sz)) 0 0 (va_A [(h1, .inr (10, [.int 0, .int 0, .ref m_file, .int 0, .int 0, .ref m_bytes, .ref m_places, .ref m_lengths, .ref m_glyphCount, .ref m_ems, .ref m_wides, .ref m_forms, .ref m_parts, .ref m_charts, .ref m_pointCount, .ref m_contourCount, .ref m_depths, .ref m_xs, .ref m_ys, .ref m_ons, .ref m_contours, .int 0, .int 0, .int 0, .ref m_flags, .ref m_part, .int 0, .ref m_text, .int 0, .ref m_ringX, .ref m_ringY, .ref m_ringOn, .int 0, .ref m_curves, .ref m_windings, .ref m_rows]))] sz) := by
  refine Met.ofW (cc := b_MD_put) (maxL := 5) (ret := (some .int)) (by decide) rfl ?_
  intro p e s m args below meth c s₁ B hml hv
  obtain ⟨rfl, hsz, hP, hK, hD0⟩ := hv
  have hx := B.exec
  have hb := B.bytes
  have hr := B.returns
  have hts := atoms_spec (ws := s_MD_put) B.pre
  have hown : s.vm.findClass R_MD = some m.cls := findClass_of_methodNamed B.named
  have hlocks := B.notSynchronized
  subst hsz
  have hD := hD0.self (sz := s.heap.size)
  generalize hAe : va_A [(h1, .inr (10, [.int 0, .int 0, .ref m_file, .int 0, .int 0, .ref m_bytes, .ref m_places, .ref m_lengths, .ref m_glyphCount, .ref m_ems, .ref m_wides, .ref m_forms, .ref m_parts, .ref m_charts, .ref m_pointCount, .ref m_contourCount, .ref m_depths, .ref m_xs, .ref m_ys, .ref m_ons, .ref m_contours, .int 0, .int 0, .int 0, .ref m_flags, .ref m_part, .int 0, .ref m_text, .int 0, .ref m_ringX, .ref m_ringY, .ref m_ringOn, .int 0, .ref m_curves, .ref m_windings, .ref m_rows]))] s.heap.size = A at hD ⊢
  have hA : ∀ q : Nat, s.heap.size ≤ q → A q := fun q h => by rw [← hAe]; exact Or.inr h
  have hS : va_S A s.heap s.heap [] := va_S.rf
  have hP : va_P (dC, dI) cls_ [(h1, .inr (10, [.int 0, .int 0, .ref m_file, .int 0, .int 0, .ref m_bytes, .ref m_places, .ref m_lengths, .ref m_glyphCount, .ref m_ems, .ref m_wides, .ref m_forms, .ref m_parts, .ref m_charts, .ref m_pointCount, .ref m_contourCount, .ref m_depths, .ref m_xs, .ref m_ys, .ref m_ons, .ref m_contours, .int 0, .int 0, .int 0, .ref m_flags, .ref m_part, .int 0, .ref m_text, .int 0, .ref m_ringX, .ref m_ringY, .ref m_ringOn, .int 0, .ref m_curves, .ref m_windings, .ref m_rows]))] s.heap := hP
  have hl := lv_entry ([.ref h1, .int i, .int b]) (n := 5) (Nat.le_of_ble_eq_true rfl)
  rw [lg_entry_eq]
  generalize (lg_sl ([.ref h1, .int i, .int b]) ++ List.replicate (5 - (lg_sl ([.ref h1, .int i, .int b])).length) Slot.unset).toArray = ls at hl ⊢
  have hl : lv_has ls 5 [(0, .ref h1), (1, .int i), (2, .int b)] := hl
  refine lv_iload_n hx hb d_MD_put_0 rfl (lv_at hl 1 rfl) ?_
  refine lv_if_lt (tgt := 16) hx hb d_MD_put_1 (by decide) (fun hc154 => ?_) (fun hc154 => ?_)
  · skip
    refine lv_iconst (v := 0) hx hb d_MD_put_16 (by decide) ?_
    refine lv_istore_n (lv' := [(3, .int 0), (0, .ref h1), (1, .int i), (2, .int b)]) hx hb d_MD_put_17 rfl hl (by decide) rfl (fun ls hl => ?_)
    refine lv_aload_n hx hb d_MD_put_18 rfl (lv_at hl 1 rfl) ?_
    refine lv_iload_n hx hb d_MD_put_19 rfl (lv_at hl 0 rfl) ?_
    refine lv_if_ne (tgt := 27) hx hb d_MD_put_20 (by decide) (fun hc => absurd hc (by decide +kernel)) (fun _ => ?_)
    refine lv_iconst (v := 1) hx hb d_MD_put_23 (by decide) ?_
    refine lv_goto (tgt := 43) hx hb d_MD_put_24 (by decide) ?_
    have hPc := hP.sub (ws' := [(h1, .inr (10, [.int 0, .int 0, .ref m_file, .int 0, .int 0, .ref m_bytes, .ref m_places, .ref m_lengths, .ref m_glyphCount, .ref m_ems, .ref m_wides, .ref m_forms, .ref m_parts, .ref m_charts, .ref m_pointCount, .ref m_contourCount, .ref m_depths, .ref m_xs, .ref m_ys, .ref m_ons, .ref m_contours, .int 0, .int 0, .int 0, .ref m_flags, .ref m_part, .int 0, .ref m_text, .int 0, .ref m_ringX, .ref m_ringY, .ref m_ringOn, .int 0, .ref m_curves, .ref m_windings, .ref m_rows]))]) [0] rfl
    have hDc := hD.sub (ws' := [(h1, .inr (10, [.int 0, .int 0, .ref m_file, .int 0, .int 0, .ref m_bytes, .ref m_places, .ref m_lengths, .ref m_glyphCount, .ref m_ems, .ref m_wides, .ref m_forms, .ref m_parts, .ref m_charts, .ref m_pointCount, .ref m_contourCount, .ref m_depths, .ref m_xs, .ref m_ys, .ref m_ons, .ref m_contours, .int 0, .int 0, .int 0, .ref m_flags, .ref m_part, .int 0, .ref m_text, .int 0, .ref m_ringX, .ref m_ringY, .ref m_ringOn, .int 0, .ref m_curves, .ref m_windings, .ref m_rows]))]) [0] (by decide) rfl
    have hKc := hK.sub (tys' := []) [] rfl
    have hFc := va_free (wc := [(h1, .inr (10, [.int 0, .int 0, .ref m_file, .int 0, .int 0, .ref m_bytes, .ref m_places, .ref m_lengths, .ref m_glyphCount, .ref m_ems, .ref m_wides, .ref m_forms, .ref m_parts, .ref m_charts, .ref m_pointCount, .ref m_contourCount, .ref m_depths, .ref m_xs, .ref m_ys, .ref m_ons, .ref m_contours, .int 0, .int 0, .int 0, .ref m_flags, .ref m_part, .int 0, .ref m_text, .int 0, .ref m_ringX, .ref m_ringY, .ref m_ringOn, .int 0, .ref m_curves, .ref m_windings, .ref m_rows]))]) hD hS hA [0] rfl
    refine va_calli (va_runV (As := [.int 1]) (rest := []) ⟨hx, hb, hml, hown, hts⟩ (c_MD_refused_1 l dC dI h1 m_file m_bytes m_places m_lengths m_glyphCount m_ems m_wides m_forms m_parts m_charts m_pointCount m_contourCount m_depths m_xs m_ys m_ons m_contours m_flags m_part m_text m_ringX m_ringY m_ringOn m_curves m_windings m_rows s.heap.size) (cwV 1 hts (tw_inV w_973 w_975 wp_34 w_11 w_976) rfl rfl rfl (by decide +kernel) ⟨Nat.le_of_ble_eq_true rfl, Nat.le_of_ble_eq_true rfl⟩) ⟨fun a U g mk q => by obtain ⟨q0, q1, qP, qK, qD⟩ := q; exact ⟨q0, q1, qP, va_K.moved (u := U) (U := U.calling g mk a) (Vm.Alike.refl U.vm) qK, qD⟩, va_recv (hK := hK) (hP := hP) (q0 := 0) (ci := 10) rfl rfl, fun U hU hW => ⟨rfl, by rw [hU], by rw [hU]; exact hPc, va_K.moved hW.alike hKc, hDc.weaken (fun _ _ _ _ => trivial)⟩⟩ rfl rfl hl.1 rfl (lv_room (Nat.le_of_ble_eq_true rfl)) d_MD_put_43 ⟨Nat.le_of_ble_eq_true rfl, Nat.le_of_ble_eq_true rfl⟩) hS (fun q _ h => hFc q h) hFc (fun r155 u t H1 locs ht hvm hw hB hz1 hk1 hS => ?_)
    obtain ⟨hP1, hK1, hD1⟩ := hB
    rw [ht] at hP1
    have hK1 := va_K.moved hvm.symm hK1
    obtain ⟨hP, hD⟩ := va_join (wr := []) (w1 := [(h1, .inr (10, [.int 1, .int 0, .ref m_file, .int 0, .int 0, .ref m_bytes, .ref m_places, .ref m_lengths, .ref m_glyphCount, .ref m_ems, .ref m_wides, .ref m_forms, .ref m_parts, .ref m_charts, .ref m_pointCount, .ref m_contourCount, .ref m_depths, .ref m_xs, .ref m_ys, .ref m_ons, .ref m_contours, .int 0, .int 0, .int 0, .ref m_flags, .ref m_part, .int 0, .ref m_text, .int 0, .ref m_ringX, .ref m_ringY, .ref m_ringOn, .int 0, .ref m_curves, .ref m_windings, .ref m_rows]))]) hP hD [0] [] rfl rfl (by decide) (by decide) hk1 hFc hP1 hD1
    have hK := (hK.sub (tys' := []) [] rfl).app hK1
    generalize H1 = H at hP hS ⊢
    have hP : va_P (dC, dI) cls_ [(h1, .inr (10, [.int 1, .int 0, .ref m_file, .int 0, .int 0, .ref m_bytes, .ref m_places, .ref m_lengths, .ref m_glyphCount, .ref m_ems, .ref m_wides, .ref m_forms, .ref m_parts, .ref m_charts, .ref m_pointCount, .ref m_contourCount, .ref m_depths, .ref m_xs, .ref m_ys, .ref m_ons, .ref m_contours, .int 0, .int 0, .int 0, .ref m_flags, .ref m_part, .int 0, .ref m_text, .int 0, .ref m_ringX, .ref m_ringY, .ref m_ringOn, .int 0, .ref m_curves, .ref m_windings, .ref m_rows]))] H := hP
    have hD : va_D A [(h1, .inr (10, [.int 1, .int 0, .ref m_file, .int 0, .int 0, .ref m_bytes, .ref m_places, .ref m_lengths, .ref m_glyphCount, .ref m_ems, .ref m_wides, .ref m_forms, .ref m_parts, .ref m_charts, .ref m_pointCount, .ref m_contourCount, .ref m_depths, .ref m_xs, .ref m_ys, .ref m_ons, .ref m_contours, .int 0, .int 0, .int 0, .ref m_flags, .ref m_part, .int 0, .ref m_text, .int 0, .ref m_ringX, .ref m_ringY, .ref m_ringOn, .int 0, .ref m_curves, .ref m_windings, .ref m_rows]))] := hD
    have hK : va_K (dC, dI) cls_ [] s := hK
    have hw : r155 = 1 := hw
    subst hw
    refine lv_if_eq (tgt := 51) hx hb d_MD_put_46 (by decide) (fun hc => absurd hc (by decide +kernel)) (fun _ => ?_)
    refine lv_iconst (v := 0) hx hb d_MD_put_49 (by decide) ?_
    refine W.widen (k := 0) (n := 0) (Nat.le_of_ble_eq_true rfl) (Nat.le_of_ble_eq_true rfl) ?_
    have hP9 := hP.sub (ws' := [(h1, .inr (10, [.int 1, .int 0, .ref m_file, .int 0, .int 0, .ref m_bytes, .ref m_places, .ref m_lengths, .ref m_glyphCount, .ref m_ems, .ref m_wides, .ref m_forms, .ref m_parts, .ref m_charts, .ref m_pointCount, .ref m_contourCount, .ref m_depths, .ref m_xs, .ref m_ys, .ref m_ons, .ref m_contours, .int 0, .int 0, .int 0, .ref m_flags, .ref m_part, .int 0, .ref m_text, .int 0, .ref m_ringX, .ref m_ringY, .ref m_ringOn, .int 0, .ref m_curves, .ref m_windings, .ref m_rows]))]) [0] rfl
    have hD9 := hD.sub (ws' := [(h1, .inr (10, [.int 1, .int 0, .ref m_file, .int 0, .int 0, .ref m_bytes, .ref m_places, .ref m_lengths, .ref m_glyphCount, .ref m_ems, .ref m_wides, .ref m_forms, .ref m_parts, .ref m_charts, .ref m_pointCount, .ref m_contourCount, .ref m_depths, .ref m_xs, .ref m_ys, .ref m_ons, .ref m_contours, .int 0, .int 0, .int 0, .ref m_flags, .ref m_part, .int 0, .ref m_text, .int 0, .ref m_ringX, .ref m_ringY, .ref m_ringOn, .int 0, .ref m_curves, .ref m_windings, .ref m_rows]))]) [0] (by decide) rfl
    have hK9 := hK.sub (tys' := []) [] rfl
    exact W.iret (v := 0) hx hb hr (fun t ht hW => ⟨⟨0, (), rfl, trivial, by rw [ht]; exact hP9, va_K.moved hW.alike hK9, hD9⟩, hS.F ht⟩) hS.2.2 d_MD_put_50
  · skip
    refine lv_iload_n hx hb d_MD_put_4 rfl (lv_at hl 1 rfl) ?_
    refine lv_aload_n hx hb d_MD_put_5 rfl (lv_at hl 0 rfl) ?_
    refine va_get (D := (dC, dI)) (ci := 10) (v := .int 0) (C := R_MD) (T := F_MD) (N := 36) hx hb hts in_MD hown hK hP 0 rfl rfl 1 (by decide) (hts _ (List.mem_cons_of_mem _ w_853)) (fun _ h9 => h9) rfl d_MD_put_6 ?_
    refine lv_icmp_ge (tgt := 16) hx hb d_MD_put_9 (by decide) (fun hc156 => ?_) (fun hc156 => ?_)
    · skip
      refine lv_iconst (v := 0) hx hb d_MD_put_16 (by decide) ?_
      refine lv_istore_n (lv' := [(3, .int 0), (0, .ref h1), (1, .int i), (2, .int b)]) hx hb d_MD_put_17 rfl hl (by decide) rfl (fun ls hl => ?_)
      refine lv_aload_n hx hb d_MD_put_18 rfl (lv_at hl 1 rfl) ?_
      refine lv_iload_n hx hb d_MD_put_19 rfl (lv_at hl 0 rfl) ?_
      refine lv_if_ne (tgt := 27) hx hb d_MD_put_20 (by decide) (fun hc => absurd hc (by decide +kernel)) (fun _ => ?_)
      refine lv_iconst (v := 1) hx hb d_MD_put_23 (by decide) ?_
      refine lv_goto (tgt := 43) hx hb d_MD_put_24 (by decide) ?_
      have hPc := hP.sub (ws' := [(h1, .inr (10, [.int 0, .int 0, .ref m_file, .int 0, .int 0, .ref m_bytes, .ref m_places, .ref m_lengths, .ref m_glyphCount, .ref m_ems, .ref m_wides, .ref m_forms, .ref m_parts, .ref m_charts, .ref m_pointCount, .ref m_contourCount, .ref m_depths, .ref m_xs, .ref m_ys, .ref m_ons, .ref m_contours, .int 0, .int 0, .int 0, .ref m_flags, .ref m_part, .int 0, .ref m_text, .int 0, .ref m_ringX, .ref m_ringY, .ref m_ringOn, .int 0, .ref m_curves, .ref m_windings, .ref m_rows]))]) [0] rfl
      have hDc := hD.sub (ws' := [(h1, .inr (10, [.int 0, .int 0, .ref m_file, .int 0, .int 0, .ref m_bytes, .ref m_places, .ref m_lengths, .ref m_glyphCount, .ref m_ems, .ref m_wides, .ref m_forms, .ref m_parts, .ref m_charts, .ref m_pointCount, .ref m_contourCount, .ref m_depths, .ref m_xs, .ref m_ys, .ref m_ons, .ref m_contours, .int 0, .int 0, .int 0, .ref m_flags, .ref m_part, .int 0, .ref m_text, .int 0, .ref m_ringX, .ref m_ringY, .ref m_ringOn, .int 0, .ref m_curves, .ref m_windings, .ref m_rows]))]) [0] (by decide) rfl
      have hKc := hK.sub (tys' := []) [] rfl
      have hFc := va_free (wc := [(h1, .inr (10, [.int 0, .int 0, .ref m_file, .int 0, .int 0, .ref m_bytes, .ref m_places, .ref m_lengths, .ref m_glyphCount, .ref m_ems, .ref m_wides, .ref m_forms, .ref m_parts, .ref m_charts, .ref m_pointCount, .ref m_contourCount, .ref m_depths, .ref m_xs, .ref m_ys, .ref m_ons, .ref m_contours, .int 0, .int 0, .int 0, .ref m_flags, .ref m_part, .int 0, .ref m_text, .int 0, .ref m_ringX, .ref m_ringY, .ref m_ringOn, .int 0, .ref m_curves, .ref m_windings, .ref m_rows]))]) hD hS hA [0] rfl
      refine va_calli (va_runV (As := [.int 1]) (rest := []) ⟨hx, hb, hml, hown, hts⟩ (c_MD_refused_1 l dC dI h1 m_file m_bytes m_places m_lengths m_glyphCount m_ems m_wides m_forms m_parts m_charts m_pointCount m_contourCount m_depths m_xs m_ys m_ons m_contours m_flags m_part m_text m_ringX m_ringY m_ringOn m_curves m_windings m_rows s.heap.size) (cwV 1 hts (tw_inV w_973 w_975 wp_34 w_11 w_976) rfl rfl rfl (by decide +kernel) ⟨Nat.le_of_ble_eq_true rfl, Nat.le_of_ble_eq_true rfl⟩) ⟨fun a U g mk q => by obtain ⟨q0, q1, qP, qK, qD⟩ := q; exact ⟨q0, q1, qP, va_K.moved (u := U) (U := U.calling g mk a) (Vm.Alike.refl U.vm) qK, qD⟩, va_recv (hK := hK) (hP := hP) (q0 := 0) (ci := 10) rfl rfl, fun U hU hW => ⟨rfl, by rw [hU], by rw [hU]; exact hPc, va_K.moved hW.alike hKc, hDc.weaken (fun _ _ _ _ => trivial)⟩⟩ rfl rfl hl.1 rfl (lv_room (Nat.le_of_ble_eq_true rfl)) d_MD_put_43 ⟨Nat.le_of_ble_eq_true rfl, Nat.le_of_ble_eq_true rfl⟩) hS (fun q _ h => hFc q h) hFc (fun r157 u t H1 locs ht hvm hw hB hz1 hk1 hS => ?_)
      obtain ⟨hP1, hK1, hD1⟩ := hB
      rw [ht] at hP1
      have hK1 := va_K.moved hvm.symm hK1
      obtain ⟨hP, hD⟩ := va_join (wr := []) (w1 := [(h1, .inr (10, [.int 1, .int 0, .ref m_file, .int 0, .int 0, .ref m_bytes, .ref m_places, .ref m_lengths, .ref m_glyphCount, .ref m_ems, .ref m_wides, .ref m_forms, .ref m_parts, .ref m_charts, .ref m_pointCount, .ref m_contourCount, .ref m_depths, .ref m_xs, .ref m_ys, .ref m_ons, .ref m_contours, .int 0, .int 0, .int 0, .ref m_flags, .ref m_part, .int 0, .ref m_text, .int 0, .ref m_ringX, .ref m_ringY, .ref m_ringOn, .int 0, .ref m_curves, .ref m_windings, .ref m_rows]))]) hP hD [0] [] rfl rfl (by decide) (by decide) hk1 hFc hP1 hD1
      have hK := (hK.sub (tys' := []) [] rfl).app hK1
      generalize H1 = H at hP hS ⊢
      have hP : va_P (dC, dI) cls_ [(h1, .inr (10, [.int 1, .int 0, .ref m_file, .int 0, .int 0, .ref m_bytes, .ref m_places, .ref m_lengths, .ref m_glyphCount, .ref m_ems, .ref m_wides, .ref m_forms, .ref m_parts, .ref m_charts, .ref m_pointCount, .ref m_contourCount, .ref m_depths, .ref m_xs, .ref m_ys, .ref m_ons, .ref m_contours, .int 0, .int 0, .int 0, .ref m_flags, .ref m_part, .int 0, .ref m_text, .int 0, .ref m_ringX, .ref m_ringY, .ref m_ringOn, .int 0, .ref m_curves, .ref m_windings, .ref m_rows]))] H := hP
      have hD : va_D A [(h1, .inr (10, [.int 1, .int 0, .ref m_file, .int 0, .int 0, .ref m_bytes, .ref m_places, .ref m_lengths, .ref m_glyphCount, .ref m_ems, .ref m_wides, .ref m_forms, .ref m_parts, .ref m_charts, .ref m_pointCount, .ref m_contourCount, .ref m_depths, .ref m_xs, .ref m_ys, .ref m_ons, .ref m_contours, .int 0, .int 0, .int 0, .ref m_flags, .ref m_part, .int 0, .ref m_text, .int 0, .ref m_ringX, .ref m_ringY, .ref m_ringOn, .int 0, .ref m_curves, .ref m_windings, .ref m_rows]))] := hD
      have hK : va_K (dC, dI) cls_ [] s := hK
      have hw : r157 = 1 := hw
      subst hw
      refine lv_if_eq (tgt := 51) hx hb d_MD_put_46 (by decide) (fun hc => absurd hc (by decide +kernel)) (fun _ => ?_)
      refine lv_iconst (v := 0) hx hb d_MD_put_49 (by decide) ?_
      refine W.widen (k := 0) (n := 0) (Nat.le_of_ble_eq_true rfl) (Nat.le_of_ble_eq_true rfl) ?_
      have hP9 := hP.sub (ws' := [(h1, .inr (10, [.int 1, .int 0, .ref m_file, .int 0, .int 0, .ref m_bytes, .ref m_places, .ref m_lengths, .ref m_glyphCount, .ref m_ems, .ref m_wides, .ref m_forms, .ref m_parts, .ref m_charts, .ref m_pointCount, .ref m_contourCount, .ref m_depths, .ref m_xs, .ref m_ys, .ref m_ons, .ref m_contours, .int 0, .int 0, .int 0, .ref m_flags, .ref m_part, .int 0, .ref m_text, .int 0, .ref m_ringX, .ref m_ringY, .ref m_ringOn, .int 0, .ref m_curves, .ref m_windings, .ref m_rows]))]) [0] rfl
      have hD9 := hD.sub (ws' := [(h1, .inr (10, [.int 1, .int 0, .ref m_file, .int 0, .int 0, .ref m_bytes, .ref m_places, .ref m_lengths, .ref m_glyphCount, .ref m_ems, .ref m_wides, .ref m_forms, .ref m_parts, .ref m_charts, .ref m_pointCount, .ref m_contourCount, .ref m_depths, .ref m_xs, .ref m_ys, .ref m_ons, .ref m_contours, .int 0, .int 0, .int 0, .ref m_flags, .ref m_part, .int 0, .ref m_text, .int 0, .ref m_ringX, .ref m_ringY, .ref m_ringOn, .int 0, .ref m_curves, .ref m_windings, .ref m_rows]))]) [0] (by decide) rfl
      have hK9 := hK.sub (tys' := []) [] rfl
      exact W.iret (v := 0) hx hb hr (fun t ht hW => ⟨⟨0, (), rfl, trivial, by rw [ht]; exact hP9, va_K.moved hW.alike hK9, hD9⟩, hS.F ht⟩) hS.2.2 d_MD_put_50
    · skip
      exact absurd (Int32.not_lt.mp hc154) hc156
set_option maxHeartbeats 4000000 in
set_option maxRecDepth 100000 in
/-- GlyphLinesModel.cut -/
theorem c_MD_cut_t (l : Launch) (dC : Nat → ClassId) (dI : Nat → Nat → Nat) (h1 m_file m_bytes m_places m_lengths m_glyphCount m_ems m_wides m_forms m_parts m_charts m_pointCount m_contourCount m_depths m_xs m_ys m_ons m_contours m_flags m_part m_text m_ringX m_ringY m_ringOn m_curves m_windings m_rows : Nat) (many : Int32) (sz : Nat) (hm : many < 0) : Met l y_MD_cut s_MD_cut ({ frames := 10, cells := 0, slots := 0, locals := 300 }) (va_Pc [.ref h1, .int many] (fun U => U.heap.size = sz ∧ va_P (dC, dI) cls_ [(h1, .inr (10, [.int 0, .int 0, .ref m_file, .int 0, .int 0, .ref m_bytes, .ref m_places, .ref m_lengths, .ref m_glyphCount, .ref m_ems, .ref m_wides, .ref m_forms, .ref m_parts, .ref m_charts, .ref m_pointCount, .ref m_contourCount, .ref m_depths, .ref m_xs, .ref m_ys, .ref m_ons, .ref m_contours, .int 0, .int 0, .int 0, .ref m_flags, .ref m_part, .int 0, .ref m_text, .int 0, .ref m_ringX, .ref m_ringY, .ref m_ringOn, .int 0, .ref m_curves, .ref m_windings, .ref m_rows]))] U.heap ∧ va_K (dC, dI) cls_ [] U ∧ va_D (fun _ => True) [(h1, .inr (10, [.int 0, .int 0, .ref m_file, .int 0, .int 0, .ref m_bytes, .ref m_places, .ref m_lengths, .ref m_glyphCount, .ref m_ems, .ref m_wides, .ref m_forms, .ref m_parts, .ref m_charts, .ref m_pointCount, .ref m_contourCount, .ref m_depths, .ref m_xs, .ref m_ys, .ref m_ons, .ref m_contours, .int 0, .int 0, .int 0, .ref m_flags, .ref m_part, .int 0, .ref m_text, .int 0, .ref m_ringX, .ref m_ringY, .ref m_ringOn, .int 0, .ref m_curves, .ref m_windings, .ref m_rows]))])) (va_Qi (fun (r : Int32) (_ : Unit) => True) (fun (_ : Unit) (t : State) => va_P (dC, dI) cls_ [(h1, .inr (10, [.int 1, .int 0, .ref m_file, .int 0, .int 0, .ref m_bytes, .ref m_places, .ref m_lengths, .ref m_glyphCount, .ref m_ems, .ref m_wides, .ref m_forms, .ref m_parts, .ref m_charts, .ref m_pointCount, .ref m_contourCount, .ref m_depths, .ref m_xs, .ref m_ys, .ref m_ons, .ref m_contours, .int 0, .int 0, .int 0, .ref m_flags, .ref m_part, .int 0, .ref m_text, .int 0, .ref m_ringX, .ref m_ringY, .ref m_ringOn, .int 0, .ref m_curves, .ref m_windings, .ref m_rows]))] t.heap ∧ va_K (dC, dI) cls_ [] t ∧ va_D (va_A [(h1, .inr (10, [.int 0, .int 0, .ref m_file, .int 0, .int 0, .ref m_bytes, .ref m_places, .ref m_lengths, .ref m_glyphCount, .ref m_ems, .ref m_wides, .ref m_forms, .ref m_parts, .ref m_charts, .ref m_pointCount, .ref m_contourCount, .ref m_depths, .ref m_xs, .ref m_ys, .ref m_ons, .ref m_contours, .int 0, .int 0, .int 0, .ref m_flags, .ref m_part, .int 0, .ref m_text, .int 0, .ref m_ringX, .ref m_ringY, .ref m_ringOn, .int 0, .ref m_curves, .ref m_windings, .ref m_rows]))] sz) [(h1, .inr (10, [.int 1, .int 0, .ref m_file, .int 0, .int 0, .ref m_bytes, .ref m_places, .ref m_lengths, .ref m_glyphCount, .ref m_ems, .ref m_wides, .ref m_forms, .ref m_parts, .ref m_charts, .ref m_pointCount, .ref m_contourCount, .ref m_depths, .ref m_xs, .ref m_ys, .ref m_ons, .ref m_contours, .int 0, .int 0, .int 0, .ref m_flags, .ref m_part, .int 0, .ref m_text, .int 0, .ref m_ringX, .ref m_ringY, .ref m_ringOn, .int 0, .ref m_curves, .ref m_windings, .ref m_rows]))]) (va_A [(h1, .inr (10, [.int 0, .int 0, .ref m_file, .int 0, .int 0, .ref m_bytes, .ref m_places, .ref m_lengths, .ref m_glyphCount, .ref m_ems, .ref m_wides, .ref m_forms, .ref m_parts, .ref m_charts, .ref m_pointCount, .ref m_contourCount, .ref m_depths, .ref m_xs, .ref m_ys, .ref m_ons, .ref m_contours, .int 0, .int 0, .int 0, .ref m_flags, .ref m_part, .int 0, .ref m_text, .int 0, .ref m_ringX, .ref m_ringY, .ref m_ringOn, .int 0, .ref m_curves, .ref m_windings, .ref m_rows]))] sz)) 0 0 (va_A [(h1, .inr (10, [.int 0, .int 0, .ref m_file, .int 0, .int 0, .ref m_bytes, .ref m_places, .ref m_lengths, .ref m_glyphCount, .ref m_ems, .ref m_wides, .ref m_forms, .ref m_parts, .ref m_charts, .ref m_pointCount, .ref m_contourCount, .ref m_depths, .ref m_xs, .ref m_ys, .ref m_ons, .ref m_contours, .int 0, .int 0, .int 0, .ref m_flags, .ref m_part, .int 0, .ref m_text, .int 0, .ref m_ringX, .ref m_ringY, .ref m_ringOn, .int 0, .ref m_curves, .ref m_windings, .ref m_rows]))] sz) := by
  refine Met.ofW (cc := b_MD_cut) (maxL := 3) (ret := (some .int)) (by decide) rfl ?_
  intro p e s m args below meth c s₁ B hml hv
  obtain ⟨rfl, hsz, hP, hK, hD0⟩ := hv
  have hx := B.exec
  have hb := B.bytes
  have hr := B.returns
  have hts := atoms_spec (ws := s_MD_cut) B.pre
  have hown : s.vm.findClass R_MD = some m.cls := findClass_of_methodNamed B.named
  have hlocks := B.notSynchronized
  subst hsz
  have hD := hD0.self (sz := s.heap.size)
  generalize hAe : va_A [(h1, .inr (10, [.int 0, .int 0, .ref m_file, .int 0, .int 0, .ref m_bytes, .ref m_places, .ref m_lengths, .ref m_glyphCount, .ref m_ems, .ref m_wides, .ref m_forms, .ref m_parts, .ref m_charts, .ref m_pointCount, .ref m_contourCount, .ref m_depths, .ref m_xs, .ref m_ys, .ref m_ons, .ref m_contours, .int 0, .int 0, .int 0, .ref m_flags, .ref m_part, .int 0, .ref m_text, .int 0, .ref m_ringX, .ref m_ringY, .ref m_ringOn, .int 0, .ref m_curves, .ref m_windings, .ref m_rows]))] s.heap.size = A at hD ⊢
  have hA : ∀ q : Nat, s.heap.size ≤ q → A q := fun q h => by rw [← hAe]; exact Or.inr h
  have hS : va_S A s.heap s.heap [] := va_S.rf
  have hP : va_P (dC, dI) cls_ [(h1, .inr (10, [.int 0, .int 0, .ref m_file, .int 0, .int 0, .ref m_bytes, .ref m_places, .ref m_lengths, .ref m_glyphCount, .ref m_ems, .ref m_wides, .ref m_forms, .ref m_parts, .ref m_charts, .ref m_pointCount, .ref m_contourCount, .ref m_depths, .ref m_xs, .ref m_ys, .ref m_ons, .ref m_contours, .int 0, .int 0, .int 0, .ref m_flags, .ref m_part, .int 0, .ref m_text, .int 0, .ref m_ringX, .ref m_ringY, .ref m_ringOn, .int 0, .ref m_curves, .ref m_windings, .ref m_rows]))] s.heap := hP
  have hl := lv_entry ([.ref h1, .int many]) (n := 3) (Nat.le_of_ble_eq_true rfl)
  rw [lg_entry_eq]
  generalize (lg_sl ([.ref h1, .int many]) ++ List.replicate (3 - (lg_sl ([.ref h1, .int many])).length) Slot.unset).toArray = ls at hl ⊢
  have hl : lv_has ls 3 [(0, .ref h1), (1, .int many)] := hl
  refine lv_aload_n hx hb d_MD_cut_0 rfl (lv_at hl 0 rfl) ?_
  refine lv_iload_n hx hb d_MD_cut_1 rfl (lv_at hl 1 rfl) ?_
  refine lv_if_ge (tgt := 9) hx hb d_MD_cut_2 (by decide) (fun hc158 => ?_) (fun hc158 => ?_)
  · skip
    exact absurd hm (Int32.not_lt.mpr hc158)
  · skip
    refine lv_iconst (v := 1) hx hb d_MD_cut_5 (by decide) ?_
    refine lv_goto (tgt := 10) hx hb d_MD_cut_6 (by decide) ?_
    have hPc := hP.sub (ws' := [(h1, .inr (10, [.int 0, .int 0, .ref m_file, .int 0, .int 0, .ref m_bytes, .ref m_places, .ref m_lengths, .ref m_glyphCount, .ref m_ems, .ref m_wides, .ref m_forms, .ref m_parts, .ref m_charts, .ref m_pointCount, .ref m_contourCount, .ref m_depths, .ref m_xs, .ref m_ys, .ref m_ons, .ref m_contours, .int 0, .int 0, .int 0, .ref m_flags, .ref m_part, .int 0, .ref m_text, .int 0, .ref m_ringX, .ref m_ringY, .ref m_ringOn, .int 0, .ref m_curves, .ref m_windings, .ref m_rows]))]) [0] rfl
    have hDc := hD.sub (ws' := [(h1, .inr (10, [.int 0, .int 0, .ref m_file, .int 0, .int 0, .ref m_bytes, .ref m_places, .ref m_lengths, .ref m_glyphCount, .ref m_ems, .ref m_wides, .ref m_forms, .ref m_parts, .ref m_charts, .ref m_pointCount, .ref m_contourCount, .ref m_depths, .ref m_xs, .ref m_ys, .ref m_ons, .ref m_contours, .int 0, .int 0, .int 0, .ref m_flags, .ref m_part, .int 0, .ref m_text, .int 0, .ref m_ringX, .ref m_ringY, .ref m_ringOn, .int 0, .ref m_curves, .ref m_windings, .ref m_rows]))]) [0] (by decide) rfl
    have hKc := hK.sub (tys' := []) [] rfl
    have hFc := va_free (wc := [(h1, .inr (10, [.int 0, .int 0, .ref m_file, .int 0, .int 0, .ref m_bytes, .ref m_places, .ref m_lengths, .ref m_glyphCount, .ref m_ems, .ref m_wides, .ref m_forms, .ref m_parts, .ref m_charts, .ref m_pointCount, .ref m_contourCount, .ref m_depths, .ref m_xs, .ref m_ys, .ref m_ons, .ref m_contours, .int 0, .int 0, .int 0, .ref m_flags, .ref m_part, .int 0, .ref m_text, .int 0, .ref m_ringX, .ref m_ringY, .ref m_ringOn, .int 0, .ref m_curves, .ref m_windings, .ref m_rows]))]) hD hS hA [0] rfl
    refine va_calli (va_runV (As := [.int 1]) (rest := []) ⟨hx, hb, hml, hown, hts⟩ (c_MD_refused_1 l dC dI h1 m_file m_bytes m_places m_lengths m_glyphCount m_ems m_wides m_forms m_parts m_charts m_pointCount m_contourCount m_depths m_xs m_ys m_ons m_contours m_flags m_part m_text m_ringX m_ringY m_ringOn m_curves m_windings m_rows s.heap.size) (cwV 1 hts (tw_inV w_973 w_975 wp_34 w_11 w_976) rfl rfl rfl (by decide +kernel) ⟨Nat.le_of_ble_eq_true rfl, Nat.le_of_ble_eq_true rfl⟩) ⟨fun a U g mk q => by obtain ⟨q0, q1, qP, qK, qD⟩ := q; exact ⟨q0, q1, qP, va_K.moved (u := U) (U := U.calling g mk a) (Vm.Alike.refl U.vm) qK, qD⟩, va_recv (hK := hK) (hP := hP) (q0 := 0) (ci := 10) rfl rfl, fun U hU hW => ⟨rfl, by rw [hU], by rw [hU]; exact hPc, va_K.moved hW.alike hKc, hDc.weaken (fun _ _ _ _ => trivial)⟩⟩ rfl rfl hl.1 rfl (lv_room (Nat.le_of_ble_eq_true rfl)) d_MD_cut_10 ⟨Nat.le_of_ble_eq_true rfl, Nat.le_of_ble_eq_true rfl⟩) hS (fun q _ h => hFc q h) hFc (fun r159 u t H1 locs ht hvm hw hB hz1 hk1 hS => ?_)
    obtain ⟨hP1, hK1, hD1⟩ := hB
    rw [ht] at hP1
    have hK1 := va_K.moved hvm.symm hK1
    obtain ⟨hP, hD⟩ := va_join (wr := []) (w1 := [(h1, .inr (10, [.int 1, .int 0, .ref m_file, .int 0, .int 0, .ref m_bytes, .ref m_places, .ref m_lengths, .ref m_glyphCount, .ref m_ems, .ref m_wides, .ref m_forms, .ref m_parts, .ref m_charts, .ref m_pointCount, .ref m_contourCount, .ref m_depths, .ref m_xs, .ref m_ys, .ref m_ons, .ref m_contours, .int 0, .int 0, .int 0, .ref m_flags, .ref m_part, .int 0, .ref m_text, .int 0, .ref m_ringX, .ref m_ringY, .ref m_ringOn, .int 0, .ref m_curves, .ref m_windings, .ref m_rows]))]) hP hD [0] [] rfl rfl (by decide) (by decide) hk1 hFc hP1 hD1
    have hK := (hK.sub (tys' := []) [] rfl).app hK1
    generalize H1 = H at hP hS ⊢
    have hP : va_P (dC, dI) cls_ [(h1, .inr (10, [.int 1, .int 0, .ref m_file, .int 0, .int 0, .ref m_bytes, .ref m_places, .ref m_lengths, .ref m_glyphCount, .ref m_ems, .ref m_wides, .ref m_forms, .ref m_parts, .ref m_charts, .ref m_pointCount, .ref m_contourCount, .ref m_depths, .ref m_xs, .ref m_ys, .ref m_ons, .ref m_contours, .int 0, .int 0, .int 0, .ref m_flags, .ref m_part, .int 0, .ref m_text, .int 0, .ref m_ringX, .ref m_ringY, .ref m_ringOn, .int 0, .ref m_curves, .ref m_windings, .ref m_rows]))] H := hP
    have hD : va_D A [(h1, .inr (10, [.int 1, .int 0, .ref m_file, .int 0, .int 0, .ref m_bytes, .ref m_places, .ref m_lengths, .ref m_glyphCount, .ref m_ems, .ref m_wides, .ref m_forms, .ref m_parts, .ref m_charts, .ref m_pointCount, .ref m_contourCount, .ref m_depths, .ref m_xs, .ref m_ys, .ref m_ons, .ref m_contours, .int 0, .int 0, .int 0, .ref m_flags, .ref m_part, .int 0, .ref m_text, .int 0, .ref m_ringX, .ref m_ringY, .ref m_ringOn, .int 0, .ref m_curves, .ref m_windings, .ref m_rows]))] := hD
    have hK : va_K (dC, dI) cls_ [] s := hK
    have hw : r159 = 1 := hw
    subst hw
    refine lv_if_eq (tgt := 18) hx hb d_MD_cut_13 (by decide) (fun hc => absurd hc (by decide +kernel)) (fun _ => ?_)
    refine lv_iconst (v := 0) hx hb d_MD_cut_16 (by decide) ?_
    refine W.widen (k := 0) (n := 0) (Nat.le_of_ble_eq_true rfl) (Nat.le_of_ble_eq_true rfl) ?_
    have hP9 := hP.sub (ws' := [(h1, .inr (10, [.int 1, .int 0, .ref m_file, .int 0, .int 0, .ref m_bytes, .ref m_places, .ref m_lengths, .ref m_glyphCount, .ref m_ems, .ref m_wides, .ref m_forms, .ref m_parts, .ref m_charts, .ref m_pointCount, .ref m_contourCount, .ref m_depths, .ref m_xs, .ref m_ys, .ref m_ons, .ref m_contours, .int 0, .int 0, .int 0, .ref m_flags, .ref m_part, .int 0, .ref m_text, .int 0, .ref m_ringX, .ref m_ringY, .ref m_ringOn, .int 0, .ref m_curves, .ref m_windings, .ref m_rows]))]) [0] rfl
    have hD9 := hD.sub (ws' := [(h1, .inr (10, [.int 1, .int 0, .ref m_file, .int 0, .int 0, .ref m_bytes, .ref m_places, .ref m_lengths, .ref m_glyphCount, .ref m_ems, .ref m_wides, .ref m_forms, .ref m_parts, .ref m_charts, .ref m_pointCount, .ref m_contourCount, .ref m_depths, .ref m_xs, .ref m_ys, .ref m_ons, .ref m_contours, .int 0, .int 0, .int 0, .ref m_flags, .ref m_part, .int 0, .ref m_text, .int 0, .ref m_ringX, .ref m_ringY, .ref m_ringOn, .int 0, .ref m_curves, .ref m_windings, .ref m_rows]))]) [0] (by decide) rfl
    have hK9 := hK.sub (tys' := []) [] rfl
    exact W.iret (v := 0) hx hb hr (fun t ht hW => ⟨⟨0, (), rfl, trivial, by rw [ht]; exact hP9, va_K.moved hW.alike hK9, hD9⟩, hS.F ht⟩) hS.2.2 d_MD_cut_17
set_option maxHeartbeats 4000000 in
set_option maxRecDepth 100000 in
/-- GlyphLinesModel.cut -/
theorem c_MD_cut (l : Launch) (dC : Nat → ClassId) (dI : Nat → Nat → Nat) (h1 m_file m_bytes m_places m_lengths m_glyphCount m_ems m_wides m_forms m_parts m_charts m_pointCount m_contourCount m_depths m_xs m_ys m_ons m_contours m_flags m_part m_text m_ringX m_ringY m_ringOn m_curves m_windings m_rows : Nat) (many : Int32) (sz : Nat) (hm : ¬ many < 0) : Met l y_MD_cut s_MD_cut ({ frames := 10, cells := 0, slots := 0, locals := 300 }) (va_Pc [.ref h1, .int many] (fun U => U.heap.size = sz ∧ va_P (dC, dI) cls_ [(h1, .inr (10, [.int 0, .int 0, .ref m_file, .int 0, .int 0, .ref m_bytes, .ref m_places, .ref m_lengths, .ref m_glyphCount, .ref m_ems, .ref m_wides, .ref m_forms, .ref m_parts, .ref m_charts, .ref m_pointCount, .ref m_contourCount, .ref m_depths, .ref m_xs, .ref m_ys, .ref m_ons, .ref m_contours, .int 0, .int 0, .int 0, .ref m_flags, .ref m_part, .int 0, .ref m_text, .int 0, .ref m_ringX, .ref m_ringY, .ref m_ringOn, .int 0, .ref m_curves, .ref m_windings, .ref m_rows]))] U.heap ∧ va_K (dC, dI) cls_ [] U ∧ va_D (fun _ => True) [(h1, .inr (10, [.int 0, .int 0, .ref m_file, .int 0, .int 0, .ref m_bytes, .ref m_places, .ref m_lengths, .ref m_glyphCount, .ref m_ems, .ref m_wides, .ref m_forms, .ref m_parts, .ref m_charts, .ref m_pointCount, .ref m_contourCount, .ref m_depths, .ref m_xs, .ref m_ys, .ref m_ons, .ref m_contours, .int 0, .int 0, .int 0, .ref m_flags, .ref m_part, .int 0, .ref m_text, .int 0, .ref m_ringX, .ref m_ringY, .ref m_ringOn, .int 0, .ref m_curves, .ref m_windings, .ref m_rows]))])) (va_Qi (fun (r : Int32) (_ : Unit) => r = 0) (fun (_ : Unit) (t : State) => va_P (dC, dI) cls_ [(h1, .inr (10, [.int 0, .int 0, .ref m_file, .int 0, .int 0, .ref m_bytes, .ref m_places, .ref m_lengths, .ref m_glyphCount, .ref m_ems, .ref m_wides, .ref m_forms, .ref m_parts, .ref m_charts, .ref m_pointCount, .ref m_contourCount, .ref m_depths, .ref m_xs, .ref m_ys, .ref m_ons, .ref m_contours, .int 0, .int 0, .int 0, .ref m_flags, .ref m_part, .int 0, .ref m_text, .int 0, .ref m_ringX, .ref m_ringY, .ref m_ringOn, .int 0, .ref m_curves, .ref m_windings, .ref m_rows]))] t.heap ∧ va_K (dC, dI) cls_ [] t ∧ va_D (va_A [(h1, .inr (10, [.int 0, .int 0, .ref m_file, .int 0, .int 0, .ref m_bytes, .ref m_places, .ref m_lengths, .ref m_glyphCount, .ref m_ems, .ref m_wides, .ref m_forms, .ref m_parts, .ref m_charts, .ref m_pointCount, .ref m_contourCount, .ref m_depths, .ref m_xs, .ref m_ys, .ref m_ons, .ref m_contours, .int 0, .int 0, .int 0, .ref m_flags, .ref m_part, .int 0, .ref m_text, .int 0, .ref m_ringX, .ref m_ringY, .ref m_ringOn, .int 0, .ref m_curves, .ref m_windings, .ref m_rows]))] sz) [(h1, .inr (10, [.int 0, .int 0, .ref m_file, .int 0, .int 0, .ref m_bytes, .ref m_places, .ref m_lengths, .ref m_glyphCount, .ref m_ems, .ref m_wides, .ref m_forms, .ref m_parts, .ref m_charts, .ref m_pointCount, .ref m_contourCount, .ref m_depths, .ref m_xs, .ref m_ys, .ref m_ons, .ref m_contours, .int 0, .int 0, .int 0, .ref m_flags, .ref m_part, .int 0, .ref m_text, .int 0, .ref m_ringX, .ref m_ringY, .ref m_ringOn, .int 0, .ref m_curves, .ref m_windings, .ref m_rows]))]) (va_A [(h1, .inr (10, [.int 0, .int 0, .ref m_file, .int 0, .int 0, .ref m_bytes, .ref m_places, .ref m_lengths, .ref m_glyphCount, .ref m_ems, .ref m_wides, .ref m_forms, .ref m_parts, .ref m_charts, .ref m_pointCount, .ref m_contourCount, .ref m_depths, .ref m_xs, .ref m_ys, .ref m_ons, .ref m_contours, .int 0, .int 0, .int 0, .ref m_flags, .ref m_part, .int 0, .ref m_text, .int 0, .ref m_ringX, .ref m_ringY, .ref m_ringOn, .int 0, .ref m_curves, .ref m_windings, .ref m_rows]))] sz)) 0 0 (va_A [(h1, .inr (10, [.int 0, .int 0, .ref m_file, .int 0, .int 0, .ref m_bytes, .ref m_places, .ref m_lengths, .ref m_glyphCount, .ref m_ems, .ref m_wides, .ref m_forms, .ref m_parts, .ref m_charts, .ref m_pointCount, .ref m_contourCount, .ref m_depths, .ref m_xs, .ref m_ys, .ref m_ons, .ref m_contours, .int 0, .int 0, .int 0, .ref m_flags, .ref m_part, .int 0, .ref m_text, .int 0, .ref m_ringX, .ref m_ringY, .ref m_ringOn, .int 0, .ref m_curves, .ref m_windings, .ref m_rows]))] sz) := by
  refine Met.ofW (cc := b_MD_cut) (maxL := 3) (ret := (some .int)) (by decide) rfl ?_
  intro p e s m args below meth c s₁ B hml hv
  obtain ⟨rfl, hsz, hP, hK, hD0⟩ := hv
  have hx := B.exec
  have hb := B.bytes
  have hr := B.returns
  have hts := atoms_spec (ws := s_MD_cut) B.pre
  have hown : s.vm.findClass R_MD = some m.cls := findClass_of_methodNamed B.named
  have hlocks := B.notSynchronized
  subst hsz
  have hD := hD0.self (sz := s.heap.size)
  generalize hAe : va_A [(h1, .inr (10, [.int 0, .int 0, .ref m_file, .int 0, .int 0, .ref m_bytes, .ref m_places, .ref m_lengths, .ref m_glyphCount, .ref m_ems, .ref m_wides, .ref m_forms, .ref m_parts, .ref m_charts, .ref m_pointCount, .ref m_contourCount, .ref m_depths, .ref m_xs, .ref m_ys, .ref m_ons, .ref m_contours, .int 0, .int 0, .int 0, .ref m_flags, .ref m_part, .int 0, .ref m_text, .int 0, .ref m_ringX, .ref m_ringY, .ref m_ringOn, .int 0, .ref m_curves, .ref m_windings, .ref m_rows]))] s.heap.size = A at hD ⊢
  have hA : ∀ q : Nat, s.heap.size ≤ q → A q := fun q h => by rw [← hAe]; exact Or.inr h
  have hS : va_S A s.heap s.heap [] := va_S.rf
  have hP : va_P (dC, dI) cls_ [(h1, .inr (10, [.int 0, .int 0, .ref m_file, .int 0, .int 0, .ref m_bytes, .ref m_places, .ref m_lengths, .ref m_glyphCount, .ref m_ems, .ref m_wides, .ref m_forms, .ref m_parts, .ref m_charts, .ref m_pointCount, .ref m_contourCount, .ref m_depths, .ref m_xs, .ref m_ys, .ref m_ons, .ref m_contours, .int 0, .int 0, .int 0, .ref m_flags, .ref m_part, .int 0, .ref m_text, .int 0, .ref m_ringX, .ref m_ringY, .ref m_ringOn, .int 0, .ref m_curves, .ref m_windings, .ref m_rows]))] s.heap := hP
  have hl := lv_entry ([.ref h1, .int many]) (n := 3) (Nat.le_of_ble_eq_true rfl)
  rw [lg_entry_eq]
  generalize (lg_sl ([.ref h1, .int many]) ++ List.replicate (3 - (lg_sl ([.ref h1, .int many])).length) Slot.unset).toArray = ls at hl ⊢
  have hl : lv_has ls 3 [(0, .ref h1), (1, .int many)] := hl
  refine lv_aload_n hx hb d_MD_cut_0 rfl (lv_at hl 0 rfl) ?_
  refine lv_iload_n hx hb d_MD_cut_1 rfl (lv_at hl 1 rfl) ?_
  refine lv_if_ge (tgt := 9) hx hb d_MD_cut_2 (by decide) (fun hc160 => ?_) (fun hc160 => ?_)
  · skip
    refine lv_iconst (v := 0) hx hb d_MD_cut_9 (by decide) ?_
    have hPc := hP.sub (ws' := [(h1, .inr (10, [.int 0, .int 0, .ref m_file, .int 0, .int 0, .ref m_bytes, .ref m_places, .ref m_lengths, .ref m_glyphCount, .ref m_ems, .ref m_wides, .ref m_forms, .ref m_parts, .ref m_charts, .ref m_pointCount, .ref m_contourCount, .ref m_depths, .ref m_xs, .ref m_ys, .ref m_ons, .ref m_contours, .int 0, .int 0, .int 0, .ref m_flags, .ref m_part, .int 0, .ref m_text, .int 0, .ref m_ringX, .ref m_ringY, .ref m_ringOn, .int 0, .ref m_curves, .ref m_windings, .ref m_rows]))]) [0] rfl
    have hDc := hD.sub (ws' := [(h1, .inr (10, [.int 0, .int 0, .ref m_file, .int 0, .int 0, .ref m_bytes, .ref m_places, .ref m_lengths, .ref m_glyphCount, .ref m_ems, .ref m_wides, .ref m_forms, .ref m_parts, .ref m_charts, .ref m_pointCount, .ref m_contourCount, .ref m_depths, .ref m_xs, .ref m_ys, .ref m_ons, .ref m_contours, .int 0, .int 0, .int 0, .ref m_flags, .ref m_part, .int 0, .ref m_text, .int 0, .ref m_ringX, .ref m_ringY, .ref m_ringOn, .int 0, .ref m_curves, .ref m_windings, .ref m_rows]))]) [0] (by decide) rfl
    have hKc := hK.sub (tys' := []) [] rfl
    have hFc := va_free (wc := [(h1, .inr (10, [.int 0, .int 0, .ref m_file, .int 0, .int 0, .ref m_bytes, .ref m_places, .ref m_lengths, .ref m_glyphCount, .ref m_ems, .ref m_wides, .ref m_forms, .ref m_parts, .ref m_charts, .ref m_pointCount, .ref m_contourCount, .ref m_depths, .ref m_xs, .ref m_ys, .ref m_ons, .ref m_contours, .int 0, .int 0, .int 0, .ref m_flags, .ref m_part, .int 0, .ref m_text, .int 0, .ref m_ringX, .ref m_ringY, .ref m_ringOn, .int 0, .ref m_curves, .ref m_windings, .ref m_rows]))]) hD hS hA [0] rfl
    refine va_calli (va_runV (As := [.int 0]) (rest := []) ⟨hx, hb, hml, hown, hts⟩ (c_MD_refused_0 l dC dI h1 m_file m_bytes m_places m_lengths m_glyphCount m_ems m_wides m_forms m_parts m_charts m_pointCount m_contourCount m_depths m_xs m_ys m_ons m_contours m_flags m_part m_text m_ringX m_ringY m_ringOn m_curves m_windings m_rows s.heap.size) (cwV 1 hts (tw_inV w_973 w_975 wp_34 w_11 w_976) rfl rfl rfl (by decide +kernel) ⟨Nat.le_of_ble_eq_true rfl, Nat.le_of_ble_eq_true rfl⟩) ⟨fun a U g mk q => by obtain ⟨q0, q1, qP, qK, qD⟩ := q; exact ⟨q0, q1, qP, va_K.moved (u := U) (U := U.calling g mk a) (Vm.Alike.refl U.vm) qK, qD⟩, va_recv (hK := hK) (hP := hP) (q0 := 0) (ci := 10) rfl rfl, fun U hU hW => ⟨rfl, by rw [hU], by rw [hU]; exact hPc, va_K.moved hW.alike hKc, hDc.weaken (fun _ _ _ _ => trivial)⟩⟩ rfl rfl hl.1 rfl (lv_room (Nat.le_of_ble_eq_true rfl)) d_MD_cut_10 ⟨Nat.le_of_ble_eq_true rfl, Nat.le_of_ble_eq_true rfl⟩) hS (fun q _ h => hFc q h) hFc (fun r161 u t H1 locs ht hvm hw hB hz1 hk1 hS => ?_)
    obtain ⟨hP1, hK1, hD1⟩ := hB
    rw [ht] at hP1
    have hK1 := va_K.moved hvm.symm hK1
    obtain ⟨hP, hD⟩ := va_join (wr := []) (w1 := [(h1, .inr (10, [.int 0, .int 0, .ref m_file, .int 0, .int 0, .ref m_bytes, .ref m_places, .ref m_lengths, .ref m_glyphCount, .ref m_ems, .ref m_wides, .ref m_forms, .ref m_parts, .ref m_charts, .ref m_pointCount, .ref m_contourCount, .ref m_depths, .ref m_xs, .ref m_ys, .ref m_ons, .ref m_contours, .int 0, .int 0, .int 0, .ref m_flags, .ref m_part, .int 0, .ref m_text, .int 0, .ref m_ringX, .ref m_ringY, .ref m_ringOn, .int 0, .ref m_curves, .ref m_windings, .ref m_rows]))]) hP hD [0] [] rfl rfl (by decide) (by decide) hk1 hFc hP1 hD1
    have hK := (hK.sub (tys' := []) [] rfl).app hK1
    generalize H1 = H at hP hS ⊢
    have hP : va_P (dC, dI) cls_ [(h1, .inr (10, [.int 0, .int 0, .ref m_file, .int 0, .int 0, .ref m_bytes, .ref m_places, .ref m_lengths, .ref m_glyphCount, .ref m_ems, .ref m_wides, .ref m_forms, .ref m_parts, .ref m_charts, .ref m_pointCount, .ref m_contourCount, .ref m_depths, .ref m_xs, .ref m_ys, .ref m_ons, .ref m_contours, .int 0, .int 0, .int 0, .ref m_flags, .ref m_part, .int 0, .ref m_text, .int 0, .ref m_ringX, .ref m_ringY, .ref m_ringOn, .int 0, .ref m_curves, .ref m_windings, .ref m_rows]))] H := hP
    have hD : va_D A [(h1, .inr (10, [.int 0, .int 0, .ref m_file, .int 0, .int 0, .ref m_bytes, .ref m_places, .ref m_lengths, .ref m_glyphCount, .ref m_ems, .ref m_wides, .ref m_forms, .ref m_parts, .ref m_charts, .ref m_pointCount, .ref m_contourCount, .ref m_depths, .ref m_xs, .ref m_ys, .ref m_ons, .ref m_contours, .int 0, .int 0, .int 0, .ref m_flags, .ref m_part, .int 0, .ref m_text, .int 0, .ref m_ringX, .ref m_ringY, .ref m_ringOn, .int 0, .ref m_curves, .ref m_windings, .ref m_rows]))] := hD
    have hK : va_K (dC, dI) cls_ [] s := hK
    have hw : r161 = 0 := hw
    subst hw
    refine lv_if_eq (tgt := 18) hx hb d_MD_cut_13 (by decide) (fun _ => ?_) (fun hc => absurd hc (by decide +kernel))
    refine lv_aload_n hx hb d_MD_cut_18 rfl (lv_at hl 0 rfl) ?_
    refine va_get (D := (dC, dI)) (ci := 10) (v := .int 0) (C := R_MD) (T := F_MD) (N := 36) hx hb hts in_MD hown hK hP 0 rfl rfl 1 (by decide) (hts _ (List.mem_cons_of_mem _ w_853)) (fun _ h9 => h9) rfl d_MD_cut_19 ?_
    refine lv_iload_n hx hb d_MD_cut_22 rfl (lv_at hl 1 rfl) ?_
    refine lv_icmp_le (tgt := 35) hx hb d_MD_cut_23 (by decide) (fun hc162 => ?_) (fun hc162 => ?_)
    · skip
      refine lv_iconst (v := 0) hx hb d_MD_cut_35 (by decide) ?_
      refine lv_istore_n (lv' := [(2, .int 0), (0, .ref h1), (1, .int many)]) hx hb d_MD_cut_36 rfl hl (by decide) rfl (fun ls hl => ?_)
      refine lv_aload_n hx hb d_MD_cut_37 rfl (lv_at hl 1 rfl) ?_
      refine lv_aload_n hx hb d_MD_cut_38 rfl (lv_at hl 1 rfl) ?_
      refine va_get (D := (dC, dI)) (ci := 10) (v := .int 0) (C := R_MD) (T := F_MD) (N := 36) hx hb hts in_MD hown hK hP 0 rfl rfl 1 (by decide) (hts _ (List.mem_cons_of_mem _ w_853)) (fun _ h9 => h9) rfl d_MD_cut_39 ?_
      refine lv_iload_n hx hb d_MD_cut_42 rfl (lv_at hl 0 rfl) ?_
      refine lv_isub hx hb d_MD_cut_43 ?_
      refine lv_ci (y := 0) (by decide +kernel) ?_
      refine va_put (D := (dC, dI)) (ci := 10) (v := .int 0) (ty := .int) (C := R_MD) (T := F_MD) (N := 36) hx hb hts in_MD t_MD t_MD_ok n_MD hown hK hP hD hS 0 rfl rfl 1 (by decide) (hts _ (List.mem_cons_of_mem _ w_853)) (fun _ h9 => h9) rfl  (by decide +kernel) rfl rfl (Nat.le_of_ble_eq_true rfl) d_MD_cut_44 (fun H locs hP hD hS => ?_)
      have hP : va_P (dC, dI) cls_ [(h1, .inr (10, [.int 0, .int 0, .ref m_file, .int 0, .int 0, .ref m_bytes, .ref m_places, .ref m_lengths, .ref m_glyphCount, .ref m_ems, .ref m_wides, .ref m_forms, .ref m_parts, .ref m_charts, .ref m_pointCount, .ref m_contourCount, .ref m_depths, .ref m_xs, .ref m_ys, .ref m_ons, .ref m_contours, .int 0, .int 0, .int 0, .ref m_flags, .ref m_part, .int 0, .ref m_text, .int 0, .ref m_ringX, .ref m_ringY, .ref m_ringOn, .int 0, .ref m_curves, .ref m_windings, .ref m_rows]))] H := hP
      have hD : va_D A [(h1, .inr (10, [.int 0, .int 0, .ref m_file, .int 0, .int 0, .ref m_bytes, .ref m_places, .ref m_lengths, .ref m_glyphCount, .ref m_ems, .ref m_wides, .ref m_forms, .ref m_parts, .ref m_charts, .ref m_pointCount, .ref m_contourCount, .ref m_depths, .ref m_xs, .ref m_ys, .ref m_ons, .ref m_contours, .int 0, .int 0, .int 0, .ref m_flags, .ref m_part, .int 0, .ref m_text, .int 0, .ref m_ringX, .ref m_ringY, .ref m_ringOn, .int 0, .ref m_curves, .ref m_windings, .ref m_rows]))] := hD
      refine lv_iload_n hx hb d_MD_cut_47 rfl (lv_at hl 0 rfl) ?_
      refine W.widen (k := 0) (n := 0) (Nat.le_of_ble_eq_true rfl) (Nat.le_of_ble_eq_true rfl) ?_
      have hP9 := hP.sub (ws' := [(h1, .inr (10, [.int 0, .int 0, .ref m_file, .int 0, .int 0, .ref m_bytes, .ref m_places, .ref m_lengths, .ref m_glyphCount, .ref m_ems, .ref m_wides, .ref m_forms, .ref m_parts, .ref m_charts, .ref m_pointCount, .ref m_contourCount, .ref m_depths, .ref m_xs, .ref m_ys, .ref m_ons, .ref m_contours, .int 0, .int 0, .int 0, .ref m_flags, .ref m_part, .int 0, .ref m_text, .int 0, .ref m_ringX, .ref m_ringY, .ref m_ringOn, .int 0, .ref m_curves, .ref m_windings, .ref m_rows]))]) [0] rfl
      have hD9 := hD.sub (ws' := [(h1, .inr (10, [.int 0, .int 0, .ref m_file, .int 0, .int 0, .ref m_bytes, .ref m_places, .ref m_lengths, .ref m_glyphCount, .ref m_ems, .ref m_wides, .ref m_forms, .ref m_parts, .ref m_charts, .ref m_pointCount, .ref m_contourCount, .ref m_depths, .ref m_xs, .ref m_ys, .ref m_ons, .ref m_contours, .int 0, .int 0, .int 0, .ref m_flags, .ref m_part, .int 0, .ref m_text, .int 0, .ref m_ringX, .ref m_ringY, .ref m_ringOn, .int 0, .ref m_curves, .ref m_windings, .ref m_rows]))]) [0] (by decide) rfl
      have hK9 := hK.sub (tys' := []) [] rfl
      exact W.iret (v := 0) hx hb hr (fun t ht hW => ⟨⟨0, (), rfl, rfl, by rw [ht]; exact hP9, va_K.moved hW.alike hK9, hD9⟩, hS.F ht⟩) hS.2.2 d_MD_cut_48
    · skip
      exact absurd (Int32.not_lt.mp hm) hc162
  · skip
    exact absurd (Int32.not_lt.mp hm) hc160
set_option maxHeartbeats 4000000 in
set_option maxRecDepth 100000 in
/-- GlyphLinesModel.glyph -/
theorem c_MD_glyph (l : Launch) (dC : Nat → ClassId) (dI : Nat → Nat → Nat) (h1 m_file m_bytes m_places m_lengths m_glyphCount m_ems m_wides m_forms m_parts m_charts m_pointCount m_contourCount m_depths m_xs m_ys m_ons m_contours m_flags m_part m_text m_ringX m_ringY m_ringOn m_curves m_windings m_rows : Nat) (ch : Int32) (sz : Nat) : Met l y_MD_glyph s_MD_glyph ({ frames := 10, cells := 0, slots := 0, locals := 300 }) (va_Pc [.ref h1, .int ch] (fun U => U.heap.size = sz ∧ va_P (dC, dI) cls_ [(h1, .inr (10, [.int 0, .int 0, .ref m_file, .int 0, .int 0, .ref m_bytes, .ref m_places, .ref m_lengths, .ref m_glyphCount, .ref m_ems, .ref m_wides, .ref m_forms, .ref m_parts, .ref m_charts, .ref m_pointCount, .ref m_contourCount, .ref m_depths, .ref m_xs, .ref m_ys, .ref m_ons, .ref m_contours, .int 0, .int 0, .int 0, .ref m_flags, .ref m_part, .int 0, .ref m_text, .int 0, .ref m_ringX, .ref m_ringY, .ref m_ringOn, .int 0, .ref m_curves, .ref m_windings, .ref m_rows]))] U.heap ∧ va_K (dC, dI) cls_ [] U ∧ va_D (fun _ => True) [(h1, .inr (10, [.int 0, .int 0, .ref m_file, .int 0, .int 0, .ref m_bytes, .ref m_places, .ref m_lengths, .ref m_glyphCount, .ref m_ems, .ref m_wides, .ref m_forms, .ref m_parts, .ref m_charts, .ref m_pointCount, .ref m_contourCount, .ref m_depths, .ref m_xs, .ref m_ys, .ref m_ons, .ref m_contours, .int 0, .int 0, .int 0, .ref m_flags, .ref m_part, .int 0, .ref m_text, .int 0, .ref m_ringX, .ref m_ringY, .ref m_ringOn, .int 0, .ref m_curves, .ref m_windings, .ref m_rows]))])) (va_Qi (fun (r : Int32) (_ : Unit) => True) (fun (_ : Unit) (t : State) => va_P (dC, dI) cls_ [(h1, .inr (10, [.int 1, .int 0, .ref m_file, .int 0, .int 0, .ref m_bytes, .ref m_places, .ref m_lengths, .ref m_glyphCount, .ref m_ems, .ref m_wides, .ref m_forms, .ref m_parts, .ref m_charts, .ref m_pointCount, .ref m_contourCount, .ref m_depths, .ref m_xs, .ref m_ys, .ref m_ons, .ref m_contours, .int 0, .int 0, .int 0, .ref m_flags, .ref m_part, .int 0, .ref m_text, .int 0, .ref m_ringX, .ref m_ringY, .ref m_ringOn, .int 0, .ref m_curves, .ref m_windings, .ref m_rows]))] t.heap ∧ va_K (dC, dI) cls_ [] t ∧ va_D (va_A [(h1, .inr (10, [.int 0, .int 0, .ref m_file, .int 0, .int 0, .ref m_bytes, .ref m_places, .ref m_lengths, .ref m_glyphCount, .ref m_ems, .ref m_wides, .ref m_forms, .ref m_parts, .ref m_charts, .ref m_pointCount, .ref m_contourCount, .ref m_depths, .ref m_xs, .ref m_ys, .ref m_ons, .ref m_contours, .int 0, .int 0, .int 0, .ref m_flags, .ref m_part, .int 0, .ref m_text, .int 0, .ref m_ringX, .ref m_ringY, .ref m_ringOn, .int 0, .ref m_curves, .ref m_windings, .ref m_rows]))] sz) [(h1, .inr (10, [.int 1, .int 0, .ref m_file, .int 0, .int 0, .ref m_bytes, .ref m_places, .ref m_lengths, .ref m_glyphCount, .ref m_ems, .ref m_wides, .ref m_forms, .ref m_parts, .ref m_charts, .ref m_pointCount, .ref m_contourCount, .ref m_depths, .ref m_xs, .ref m_ys, .ref m_ons, .ref m_contours, .int 0, .int 0, .int 0, .ref m_flags, .ref m_part, .int 0, .ref m_text, .int 0, .ref m_ringX, .ref m_ringY, .ref m_ringOn, .int 0, .ref m_curves, .ref m_windings, .ref m_rows]))]) (va_A [(h1, .inr (10, [.int 0, .int 0, .ref m_file, .int 0, .int 0, .ref m_bytes, .ref m_places, .ref m_lengths, .ref m_glyphCount, .ref m_ems, .ref m_wides, .ref m_forms, .ref m_parts, .ref m_charts, .ref m_pointCount, .ref m_contourCount, .ref m_depths, .ref m_xs, .ref m_ys, .ref m_ons, .ref m_contours, .int 0, .int 0, .int 0, .ref m_flags, .ref m_part, .int 0, .ref m_text, .int 0, .ref m_ringX, .ref m_ringY, .ref m_ringOn, .int 0, .ref m_curves, .ref m_windings, .ref m_rows]))] sz)) 0 0 (va_A [(h1, .inr (10, [.int 0, .int 0, .ref m_file, .int 0, .int 0, .ref m_bytes, .ref m_places, .ref m_lengths, .ref m_glyphCount, .ref m_ems, .ref m_wides, .ref m_forms, .ref m_parts, .ref m_charts, .ref m_pointCount, .ref m_contourCount, .ref m_depths, .ref m_xs, .ref m_ys, .ref m_ons, .ref m_contours, .int 0, .int 0, .int 0, .ref m_flags, .ref m_part, .int 0, .ref m_text, .int 0, .ref m_ringX, .ref m_ringY, .ref m_ringOn, .int 0, .ref m_curves, .ref m_windings, .ref m_rows]))] sz) := by
  refine Met.ofW (cc := b_MD_glyph) (maxL := 2) (ret := (some .int)) (by decide) rfl ?_
  intro p e s m args below meth c s₁ B hml hv
  obtain ⟨rfl, hsz, hP, hK, hD0⟩ := hv
  have hx := B.exec
  have hb := B.bytes
  have hr := B.returns
  have hts := atoms_spec (ws := s_MD_glyph) B.pre
  have hown : s.vm.findClass R_MD = some m.cls := findClass_of_methodNamed B.named
  have hlocks := B.notSynchronized
  subst hsz
  have hD := hD0.self (sz := s.heap.size)
  generalize hAe : va_A [(h1, .inr (10, [.int 0, .int 0, .ref m_file, .int 0, .int 0, .ref m_bytes, .ref m_places, .ref m_lengths, .ref m_glyphCount, .ref m_ems, .ref m_wides, .ref m_forms, .ref m_parts, .ref m_charts, .ref m_pointCount, .ref m_contourCount, .ref m_depths, .ref m_xs, .ref m_ys, .ref m_ons, .ref m_contours, .int 0, .int 0, .int 0, .ref m_flags, .ref m_part, .int 0, .ref m_text, .int 0, .ref m_ringX, .ref m_ringY, .ref m_ringOn, .int 0, .ref m_curves, .ref m_windings, .ref m_rows]))] s.heap.size = A at hD ⊢
  have hA : ∀ q : Nat, s.heap.size ≤ q → A q := fun q h => by rw [← hAe]; exact Or.inr h
  have hS : va_S A s.heap s.heap [] := va_S.rf
  have hP : va_P (dC, dI) cls_ [(h1, .inr (10, [.int 0, .int 0, .ref m_file, .int 0, .int 0, .ref m_bytes, .ref m_places, .ref m_lengths, .ref m_glyphCount, .ref m_ems, .ref m_wides, .ref m_forms, .ref m_parts, .ref m_charts, .ref m_pointCount, .ref m_contourCount, .ref m_depths, .ref m_xs, .ref m_ys, .ref m_ons, .ref m_contours, .int 0, .int 0, .int 0, .ref m_flags, .ref m_part, .int 0, .ref m_text, .int 0, .ref m_ringX, .ref m_ringY, .ref m_ringOn, .int 0, .ref m_curves, .ref m_windings, .ref m_rows]))] s.heap := hP
  have hl := lv_entry ([.ref h1, .int ch]) (n := 2) (Nat.le_of_ble_eq_true rfl)
  rw [lg_entry_eq]
  generalize (lg_sl ([.ref h1, .int ch]) ++ List.replicate (2 - (lg_sl ([.ref h1, .int ch])).length) Slot.unset).toArray = ls at hl ⊢
  have hl : lv_has ls 2 [(0, .ref h1), (1, .int ch)] := hl
  refine lv_aload_n hx hb d_MD_glyph_0 rfl (lv_at hl 0 rfl) ?_
  refine lv_aload_n hx hb d_MD_glyph_1 rfl (lv_at hl 0 rfl) ?_
  refine va_get (D := (dC, dI)) (ci := 10) (v := .int 0) (C := R_MD) (T := F_MD) (N := 36) hx hb hts in_MD hown hK hP 0 rfl rfl 4 (by decide) (hts _ (List.mem_cons_of_mem _ w_856)) (fun _ h9 => h9) rfl d_MD_glyph_2 ?_
  refine lv_if_ne (tgt := 12) hx hb d_MD_glyph_5 (by decide) (fun hc => absurd hc (by decide +kernel)) (fun _ => ?_)
  refine lv_iconst (v := 1) hx hb d_MD_glyph_8 (by decide) ?_
  refine lv_goto (tgt := 27) hx hb d_MD_glyph_9 (by decide) ?_
  have hPc := hP.sub (ws' := [(h1, .inr (10, [.int 0, .int 0, .ref m_file, .int 0, .int 0, .ref m_bytes, .ref m_places, .ref m_lengths, .ref m_glyphCount, .ref m_ems, .ref m_wides, .ref m_forms, .ref m_parts, .ref m_charts, .ref m_pointCount, .ref m_contourCount, .ref m_depths, .ref m_xs, .ref m_ys, .ref m_ons, .ref m_contours, .int 0, .int 0, .int 0, .ref m_flags, .ref m_part, .int 0, .ref m_text, .int 0, .ref m_ringX, .ref m_ringY, .ref m_ringOn, .int 0, .ref m_curves, .ref m_windings, .ref m_rows]))]) [0] rfl
  have hDc := hD.sub (ws' := [(h1, .inr (10, [.int 0, .int 0, .ref m_file, .int 0, .int 0, .ref m_bytes, .ref m_places, .ref m_lengths, .ref m_glyphCount, .ref m_ems, .ref m_wides, .ref m_forms, .ref m_parts, .ref m_charts, .ref m_pointCount, .ref m_contourCount, .ref m_depths, .ref m_xs, .ref m_ys, .ref m_ons, .ref m_contours, .int 0, .int 0, .int 0, .ref m_flags, .ref m_part, .int 0, .ref m_text, .int 0, .ref m_ringX, .ref m_ringY, .ref m_ringOn, .int 0, .ref m_curves, .ref m_windings, .ref m_rows]))]) [0] (by decide) rfl
  have hKc := hK.sub (tys' := []) [] rfl
  have hFc := va_free (wc := [(h1, .inr (10, [.int 0, .int 0, .ref m_file, .int 0, .int 0, .ref m_bytes, .ref m_places, .ref m_lengths, .ref m_glyphCount, .ref m_ems, .ref m_wides, .ref m_forms, .ref m_parts, .ref m_charts, .ref m_pointCount, .ref m_contourCount, .ref m_depths, .ref m_xs, .ref m_ys, .ref m_ons, .ref m_contours, .int 0, .int 0, .int 0, .ref m_flags, .ref m_part, .int 0, .ref m_text, .int 0, .ref m_ringX, .ref m_ringY, .ref m_ringOn, .int 0, .ref m_curves, .ref m_windings, .ref m_rows]))]) hD hS hA [0] rfl
  refine va_calli (va_runV (As := [.int 1]) (rest := []) ⟨hx, hb, hml, hown, hts⟩ (c_MD_refused_1 l dC dI h1 m_file m_bytes m_places m_lengths m_glyphCount m_ems m_wides m_forms m_parts m_charts m_pointCount m_contourCount m_depths m_xs m_ys m_ons m_contours m_flags m_part m_text m_ringX m_ringY m_ringOn m_curves m_windings m_rows s.heap.size) (cwV 1 hts (tw_inV w_973 w_975 wp_34 w_11 w_976) rfl rfl rfl (by decide +kernel) ⟨Nat.le_of_ble_eq_true rfl, Nat.le_of_ble_eq_true rfl⟩) ⟨fun a U g mk q => by obtain ⟨q0, q1, qP, qK, qD⟩ := q; exact ⟨q0, q1, qP, va_K.moved (u := U) (U := U.calling g mk a) (Vm.Alike.refl U.vm) qK, qD⟩, va_recv (hK := hK) (hP := hP) (q0 := 0) (ci := 10) rfl rfl, fun U hU hW => ⟨rfl, by rw [hU], by rw [hU]; exact hPc, va_K.moved hW.alike hKc, hDc.weaken (fun _ _ _ _ => trivial)⟩⟩ rfl rfl hl.1 rfl (lv_room (Nat.le_of_ble_eq_true rfl)) d_MD_glyph_27 ⟨Nat.le_of_ble_eq_true rfl, Nat.le_of_ble_eq_true rfl⟩) hS (fun q _ h => hFc q h) hFc (fun r163 u t H1 locs ht hvm hw hB hz1 hk1 hS => ?_)
  obtain ⟨hP1, hK1, hD1⟩ := hB
  rw [ht] at hP1
  have hK1 := va_K.moved hvm.symm hK1
  obtain ⟨hP, hD⟩ := va_join (wr := []) (w1 := [(h1, .inr (10, [.int 1, .int 0, .ref m_file, .int 0, .int 0, .ref m_bytes, .ref m_places, .ref m_lengths, .ref m_glyphCount, .ref m_ems, .ref m_wides, .ref m_forms, .ref m_parts, .ref m_charts, .ref m_pointCount, .ref m_contourCount, .ref m_depths, .ref m_xs, .ref m_ys, .ref m_ons, .ref m_contours, .int 0, .int 0, .int 0, .ref m_flags, .ref m_part, .int 0, .ref m_text, .int 0, .ref m_ringX, .ref m_ringY, .ref m_ringOn, .int 0, .ref m_curves, .ref m_windings, .ref m_rows]))]) hP hD [0] [] rfl rfl (by decide) (by decide) hk1 hFc hP1 hD1
  have hK := (hK.sub (tys' := []) [] rfl).app hK1
  generalize H1 = H at hP hS ⊢
  have hP : va_P (dC, dI) cls_ [(h1, .inr (10, [.int 1, .int 0, .ref m_file, .int 0, .int 0, .ref m_bytes, .ref m_places, .ref m_lengths, .ref m_glyphCount, .ref m_ems, .ref m_wides, .ref m_forms, .ref m_parts, .ref m_charts, .ref m_pointCount, .ref m_contourCount, .ref m_depths, .ref m_xs, .ref m_ys, .ref m_ons, .ref m_contours, .int 0, .int 0, .int 0, .ref m_flags, .ref m_part, .int 0, .ref m_text, .int 0, .ref m_ringX, .ref m_ringY, .ref m_ringOn, .int 0, .ref m_curves, .ref m_windings, .ref m_rows]))] H := hP
  have hD : va_D A [(h1, .inr (10, [.int 1, .int 0, .ref m_file, .int 0, .int 0, .ref m_bytes, .ref m_places, .ref m_lengths, .ref m_glyphCount, .ref m_ems, .ref m_wides, .ref m_forms, .ref m_parts, .ref m_charts, .ref m_pointCount, .ref m_contourCount, .ref m_depths, .ref m_xs, .ref m_ys, .ref m_ons, .ref m_contours, .int 0, .int 0, .int 0, .ref m_flags, .ref m_part, .int 0, .ref m_text, .int 0, .ref m_ringX, .ref m_ringY, .ref m_ringOn, .int 0, .ref m_curves, .ref m_windings, .ref m_rows]))] := hD
  have hK : va_K (dC, dI) cls_ [] s := hK
  have hw : r163 = 1 := hw
  subst hw
  refine lv_if_eq (tgt := 37) hx hb d_MD_glyph_30 (by decide) (fun hc => absurd hc (by decide +kernel)) (fun _ => ?_)
  refine lv_iconst (v := 0) hx hb d_MD_glyph_33 (by decide) ?_
  refine lv_goto (tgt := 42) hx hb d_MD_glyph_34 (by decide) ?_
  refine W.widen (k := 0) (n := 0) (Nat.le_of_ble_eq_true rfl) (Nat.le_of_ble_eq_true rfl) ?_
  have hP9 := hP.sub (ws' := [(h1, .inr (10, [.int 1, .int 0, .ref m_file, .int 0, .int 0, .ref m_bytes, .ref m_places, .ref m_lengths, .ref m_glyphCount, .ref m_ems, .ref m_wides, .ref m_forms, .ref m_parts, .ref m_charts, .ref m_pointCount, .ref m_contourCount, .ref m_depths, .ref m_xs, .ref m_ys, .ref m_ons, .ref m_contours, .int 0, .int 0, .int 0, .ref m_flags, .ref m_part, .int 0, .ref m_text, .int 0, .ref m_ringX, .ref m_ringY, .ref m_ringOn, .int 0, .ref m_curves, .ref m_windings, .ref m_rows]))]) [0] rfl
  have hD9 := hD.sub (ws' := [(h1, .inr (10, [.int 1, .int 0, .ref m_file, .int 0, .int 0, .ref m_bytes, .ref m_places, .ref m_lengths, .ref m_glyphCount, .ref m_ems, .ref m_wides, .ref m_forms, .ref m_parts, .ref m_charts, .ref m_pointCount, .ref m_contourCount, .ref m_depths, .ref m_xs, .ref m_ys, .ref m_ons, .ref m_contours, .int 0, .int 0, .int 0, .ref m_flags, .ref m_part, .int 0, .ref m_text, .int 0, .ref m_ringX, .ref m_ringY, .ref m_ringOn, .int 0, .ref m_curves, .ref m_windings, .ref m_rows]))]) [0] (by decide) rfl
  have hK9 := hK.sub (tys' := []) [] rfl
  exact W.iret (v := 0) hx hb hr (fun t ht hW => ⟨⟨0, (), rfl, trivial, by rw [ht]; exact hP9, va_K.moved hW.alike hK9, hD9⟩, hS.F ht⟩) hS.2.2 d_MD_glyph_42
set_option maxHeartbeats 4000000 in
set_option maxRecDepth 100000 in
/-- GlyphLinesModel.measure -/
theorem c_MD_measure (l : Launch) (dC : Nat → ClassId) (dI : Nat → Nat → Nat) (h1 m_file m_bytes m_places m_lengths m_glyphCount m_ems m_wides m_forms m_parts m_charts m_pointCount m_contourCount m_depths m_xs m_ys m_ons m_contours m_flags m_part m_text m_ringX m_ringY m_ringOn m_curves m_windings m_rows : Nat) (gl wh : Int32) (sz : Nat) : Met l y_MD_measure s_MD_measure ({ frames := 10, cells := 0, slots := 0, locals := 300 }) (va_Pc [.ref h1, .int gl, .int wh] (fun U => U.heap.size = sz ∧ va_P (dC, dI) cls_ [(h1, .inr (10, [.int 0, .int 0, .ref m_file, .int 0, .int 0, .ref m_bytes, .ref m_places, .ref m_lengths, .ref m_glyphCount, .ref m_ems, .ref m_wides, .ref m_forms, .ref m_parts, .ref m_charts, .ref m_pointCount, .ref m_contourCount, .ref m_depths, .ref m_xs, .ref m_ys, .ref m_ons, .ref m_contours, .int 0, .int 0, .int 0, .ref m_flags, .ref m_part, .int 0, .ref m_text, .int 0, .ref m_ringX, .ref m_ringY, .ref m_ringOn, .int 0, .ref m_curves, .ref m_windings, .ref m_rows]))] U.heap ∧ va_K (dC, dI) cls_ [] U ∧ va_D (fun _ => True) [(h1, .inr (10, [.int 0, .int 0, .ref m_file, .int 0, .int 0, .ref m_bytes, .ref m_places, .ref m_lengths, .ref m_glyphCount, .ref m_ems, .ref m_wides, .ref m_forms, .ref m_parts, .ref m_charts, .ref m_pointCount, .ref m_contourCount, .ref m_depths, .ref m_xs, .ref m_ys, .ref m_ons, .ref m_contours, .int 0, .int 0, .int 0, .ref m_flags, .ref m_part, .int 0, .ref m_text, .int 0, .ref m_ringX, .ref m_ringY, .ref m_ringOn, .int 0, .ref m_curves, .ref m_windings, .ref m_rows]))])) (va_Qi (fun (r : Int32) (_ : Unit) => True) (fun (_ : Unit) (t : State) => va_P (dC, dI) cls_ [(h1, .inr (10, [.int 1, .int 0, .ref m_file, .int 0, .int 0, .ref m_bytes, .ref m_places, .ref m_lengths, .ref m_glyphCount, .ref m_ems, .ref m_wides, .ref m_forms, .ref m_parts, .ref m_charts, .ref m_pointCount, .ref m_contourCount, .ref m_depths, .ref m_xs, .ref m_ys, .ref m_ons, .ref m_contours, .int 0, .int 0, .int 0, .ref m_flags, .ref m_part, .int 0, .ref m_text, .int 0, .ref m_ringX, .ref m_ringY, .ref m_ringOn, .int 0, .ref m_curves, .ref m_windings, .ref m_rows]))] t.heap ∧ va_K (dC, dI) cls_ [] t ∧ va_D (va_A [(h1, .inr (10, [.int 0, .int 0, .ref m_file, .int 0, .int 0, .ref m_bytes, .ref m_places, .ref m_lengths, .ref m_glyphCount, .ref m_ems, .ref m_wides, .ref m_forms, .ref m_parts, .ref m_charts, .ref m_pointCount, .ref m_contourCount, .ref m_depths, .ref m_xs, .ref m_ys, .ref m_ons, .ref m_contours, .int 0, .int 0, .int 0, .ref m_flags, .ref m_part, .int 0, .ref m_text, .int 0, .ref m_ringX, .ref m_ringY, .ref m_ringOn, .int 0, .ref m_curves, .ref m_windings, .ref m_rows]))] sz) [(h1, .inr (10, [.int 1, .int 0, .ref m_file, .int 0, .int 0, .ref m_bytes, .ref m_places, .ref m_lengths, .ref m_glyphCount, .ref m_ems, .ref m_wides, .ref m_forms, .ref m_parts, .ref m_charts, .ref m_pointCount, .ref m_contourCount, .ref m_depths, .ref m_xs, .ref m_ys, .ref m_ons, .ref m_contours, .int 0, .int 0, .int 0, .ref m_flags, .ref m_part, .int 0, .ref m_text, .int 0, .ref m_ringX, .ref m_ringY, .ref m_ringOn, .int 0, .ref m_curves, .ref m_windings, .ref m_rows]))]) (va_A [(h1, .inr (10, [.int 0, .int 0, .ref m_file, .int 0, .int 0, .ref m_bytes, .ref m_places, .ref m_lengths, .ref m_glyphCount, .ref m_ems, .ref m_wides, .ref m_forms, .ref m_parts, .ref m_charts, .ref m_pointCount, .ref m_contourCount, .ref m_depths, .ref m_xs, .ref m_ys, .ref m_ons, .ref m_contours, .int 0, .int 0, .int 0, .ref m_flags, .ref m_part, .int 0, .ref m_text, .int 0, .ref m_ringX, .ref m_ringY, .ref m_ringOn, .int 0, .ref m_curves, .ref m_windings, .ref m_rows]))] sz)) 0 0 (va_A [(h1, .inr (10, [.int 0, .int 0, .ref m_file, .int 0, .int 0, .ref m_bytes, .ref m_places, .ref m_lengths, .ref m_glyphCount, .ref m_ems, .ref m_wides, .ref m_forms, .ref m_parts, .ref m_charts, .ref m_pointCount, .ref m_contourCount, .ref m_depths, .ref m_xs, .ref m_ys, .ref m_ons, .ref m_contours, .int 0, .int 0, .int 0, .ref m_flags, .ref m_part, .int 0, .ref m_text, .int 0, .ref m_ringX, .ref m_ringY, .ref m_ringOn, .int 0, .ref m_curves, .ref m_windings, .ref m_rows]))] sz) := by
  refine Met.ofW (cc := b_MD_measure) (maxL := 5) (ret := (some .int)) (by decide) rfl ?_
  intro p e s m args below meth c s₁ B hml hv
  obtain ⟨rfl, hsz, hP, hK, hD0⟩ := hv
  have hx := B.exec
  have hb := B.bytes
  have hr := B.returns
  have hts := atoms_spec (ws := s_MD_measure) B.pre
  have hown : s.vm.findClass R_MD = some m.cls := findClass_of_methodNamed B.named
  have hlocks := B.notSynchronized
  subst hsz
  have hD := hD0.self (sz := s.heap.size)
  generalize hAe : va_A [(h1, .inr (10, [.int 0, .int 0, .ref m_file, .int 0, .int 0, .ref m_bytes, .ref m_places, .ref m_lengths, .ref m_glyphCount, .ref m_ems, .ref m_wides, .ref m_forms, .ref m_parts, .ref m_charts, .ref m_pointCount, .ref m_contourCount, .ref m_depths, .ref m_xs, .ref m_ys, .ref m_ons, .ref m_contours, .int 0, .int 0, .int 0, .ref m_flags, .ref m_part, .int 0, .ref m_text, .int 0, .ref m_ringX, .ref m_ringY, .ref m_ringOn, .int 0, .ref m_curves, .ref m_windings, .ref m_rows]))] s.heap.size = A at hD ⊢
  have hA : ∀ q : Nat, s.heap.size ≤ q → A q := fun q h => by rw [← hAe]; exact Or.inr h
  have hS : va_S A s.heap s.heap [] := va_S.rf
  have hP : va_P (dC, dI) cls_ [(h1, .inr (10, [.int 0, .int 0, .ref m_file, .int 0, .int 0, .ref m_bytes, .ref m_places, .ref m_lengths, .ref m_glyphCount, .ref m_ems, .ref m_wides, .ref m_forms, .ref m_parts, .ref m_charts, .ref m_pointCount, .ref m_contourCount, .ref m_depths, .ref m_xs, .ref m_ys, .ref m_ons, .ref m_contours, .int 0, .int 0, .int 0, .ref m_flags, .ref m_part, .int 0, .ref m_text, .int 0, .ref m_ringX, .ref m_ringY, .ref m_ringOn, .int 0, .ref m_curves, .ref m_windings, .ref m_rows]))] s.heap := hP
  have hl := lv_entry ([.ref h1, .int gl, .int wh]) (n := 5) (Nat.le_of_ble_eq_true rfl)
  rw [lg_entry_eq]
  generalize (lg_sl ([.ref h1, .int gl, .int wh]) ++ List.replicate (5 - (lg_sl ([.ref h1, .int gl, .int wh])).length) Slot.unset).toArray = ls at hl ⊢
  have hl : lv_has ls 5 [(0, .ref h1), (1, .int gl), (2, .int wh)] := hl
  refine lv_aload_n hx hb d_MD_measure_0 rfl (lv_at hl 0 rfl) ?_
  refine lv_iload_n hx hb d_MD_measure_1 rfl (lv_at hl 1 rfl) ?_
  have hPc := hP.sub (ws' := [(h1, .inr (10, [.int 0, .int 0, .ref m_file, .int 0, .int 0, .ref m_bytes, .ref m_places, .ref m_lengths, .ref m_glyphCount, .ref m_ems, .ref m_wides, .ref m_forms, .ref m_parts, .ref m_charts, .ref m_pointCount, .ref m_contourCount, .ref m_depths, .ref m_xs, .ref m_ys, .ref m_ons, .ref m_contours, .int 0, .int 0, .int 0, .ref m_flags, .ref m_part, .int 0, .ref m_text, .int 0, .ref m_ringX, .ref m_ringY, .ref m_ringOn, .int 0, .ref m_curves, .ref m_windings, .ref m_rows]))]) [0] rfl
  have hDc := hD.sub (ws' := [(h1, .inr (10, [.int 0, .int 0, .ref m_file, .int 0, .int 0, .ref m_bytes, .ref m_places, .ref m_lengths, .ref m_glyphCount, .ref m_ems, .ref m_wides, .ref m_forms, .ref m_parts, .ref m_charts, .ref m_pointCount, .ref m_contourCount, .ref m_depths, .ref m_xs, .ref m_ys, .ref m_ons, .ref m_contours, .int 0, .int 0, .int 0, .ref m_flags, .ref m_part, .int 0, .ref m_text, .int 0, .ref m_ringX, .ref m_ringY, .ref m_ringOn, .int 0, .ref m_curves, .ref m_windings, .ref m_rows]))]) [0] (by decide) rfl
  have hKc := hK.sub (tys' := []) [] rfl
  have hFc := va_free (wc := [(h1, .inr (10, [.int 0, .int 0, .ref m_file, .int 0, .int 0, .ref m_bytes, .ref m_places, .ref m_lengths, .ref m_glyphCount, .ref m_ems, .ref m_wides, .ref m_forms, .ref m_parts, .ref m_charts, .ref m_pointCount, .ref m_contourCount, .ref m_depths, .ref m_xs, .ref m_ys, .ref m_ons, .ref m_contours, .int 0, .int 0, .int 0, .ref m_flags, .ref m_part, .int 0, .ref m_text, .int 0, .ref m_ringX, .ref m_ringY, .ref m_ringOn, .int 0, .ref m_curves, .ref m_windings, .ref m_rows]))]) hD hS hA [0] rfl
  refine va_calli (va_runV (As := [.int gl]) (rest := []) ⟨hx, hb, hml, hown, hts⟩ (c_MD_isGlyph l dC dI h1 m_file m_bytes m_places m_lengths m_glyphCount m_ems m_wides m_forms m_parts m_charts m_pointCount m_contourCount m_depths m_xs m_ys m_ons m_contours m_flags m_part m_text m_ringX m_ringY m_ringOn m_curves m_windings m_rows gl s.heap.size) (cwV 1 hts (tw_inV w_1118 w_1120 wp_60 w_11 w_1121) rfl rfl rfl (by decide +kernel) ⟨Nat.le_of_ble_eq_true rfl, Nat.le_of_ble_eq_true rfl⟩) ⟨fun a U g mk q => by obtain ⟨q0, q1, qP, qK, qD⟩ := q; exact ⟨q0, q1, qP, va_K.moved (u := U) (U := U.calling g mk a) (Vm.Alike.refl U.vm) qK, qD⟩, va_recv (hK := hK) (hP := hP) (q0 := 0) (ci := 10) rfl rfl, fun U hU hW => ⟨rfl, by rw [hU], by rw [hU]; exact hPc, va_K.moved hW.alike hKc, hDc.weaken (fun _ _ _ _ => trivial)⟩⟩ rfl rfl hl.1 rfl (lv_room (Nat.le_of_ble_eq_true rfl)) d_MD_measure_2 ⟨Nat.le_of_ble_eq_true rfl, Nat.le_of_ble_eq_true rfl⟩) hS (fun q _ h => hFc q h) hFc (fun r164 u t H1 locs ht hvm hw hB hz1 hk1 hS => ?_)
  obtain ⟨hP1, hK1, hD1⟩ := hB
  rw [ht] at hP1
  have hK1 := va_K.moved hvm.symm hK1
  obtain ⟨hP, hD⟩ := va_join (wr := []) (w1 := [(h1, .inr (10, [.int 0, .int 0, .ref m_file, .int 0, .int 0, .ref m_bytes, .ref m_places, .ref m_lengths, .ref m_glyphCount, .ref m_ems, .ref m_wides, .ref m_forms, .ref m_parts, .ref m_charts, .ref m_pointCount, .ref m_contourCount, .ref m_depths, .ref m_xs, .ref m_ys, .ref m_ons, .ref m_contours, .int 0, .int 0, .int 0, .ref m_flags, .ref m_part, .int 0, .ref m_text, .int 0, .ref m_ringX, .ref m_ringY, .ref m_ringOn, .int 0, .ref m_curves, .ref m_windings, .ref m_rows]))]) hP hD [0] [] rfl rfl (by decide) (by decide) hk1 hFc hP1 hD1
  have hK := (hK.sub (tys' := []) [] rfl).app hK1
  generalize H1 = H at hP hS ⊢
  have hP : va_P (dC, dI) cls_ [(h1, .inr (10, [.int 0, .int 0, .ref m_file, .int 0, .int 0, .ref m_bytes, .ref m_places, .ref m_lengths, .ref m_glyphCount, .ref m_ems, .ref m_wides, .ref m_forms, .ref m_parts, .ref m_charts, .ref m_pointCount, .ref m_contourCount, .ref m_depths, .ref m_xs, .ref m_ys, .ref m_ons, .ref m_contours, .int 0, .int 0, .int 0, .ref m_flags, .ref m_part, .int 0, .ref m_text, .int 0, .ref m_ringX, .ref m_ringY, .ref m_ringOn, .int 0, .ref m_curves, .ref m_windings, .ref m_rows]))] H := hP
  have hD : va_D A [(h1, .inr (10, [.int 0, .int 0, .ref m_file, .int 0, .int 0, .ref m_bytes, .ref m_places, .ref m_lengths, .ref m_glyphCount, .ref m_ems, .ref m_wides, .ref m_forms, .ref m_parts, .ref m_charts, .ref m_pointCount, .ref m_contourCount, .ref m_depths, .ref m_xs, .ref m_ys, .ref m_ons, .ref m_contours, .int 0, .int 0, .int 0, .ref m_flags, .ref m_part, .int 0, .ref m_text, .int 0, .ref m_ringX, .ref m_ringY, .ref m_ringOn, .int 0, .ref m_curves, .ref m_windings, .ref m_rows]))] := hD
  have hK : va_K (dC, dI) cls_ [] s := hK
  have hw : r164 = 0 := hw
  subst hw
  refine lv_if_eq (tgt := 21) hx hb d_MD_measure_5 (by decide) (fun _ => ?_) (fun hc => absurd hc (by decide +kernel))
  refine lv_iconst (v := 0) hx hb d_MD_measure_21 (by decide) ?_
  refine lv_istore_n (lv' := [(3, .int 0), (0, .ref h1), (1, .int gl), (2, .int wh)]) hx hb d_MD_measure_22 rfl hl (by decide) rfl (fun ls hl => ?_)
  refine lv_aload_n hx hb d_MD_measure_23 rfl (lv_at hl 1 rfl) ?_
  refine lv_aload_n hx hb d_MD_measure_24 rfl (lv_at hl 1 rfl) ?_
  refine va_get (D := (dC, dI)) (ci := 10) (v := .int 0) (C := R_MD) (T := F_MD) (N := 36) hx hb hts in_MD hown hK hP 0 rfl rfl 4 (by decide) (hts _ (List.mem_cons_of_mem _ w_856)) (fun _ h9 => h9) rfl d_MD_measure_25 ?_
  refine lv_if_ne (tgt := 35) hx hb d_MD_measure_28 (by decide) (fun hc => absurd hc (by decide +kernel)) (fun _ => ?_)
  refine lv_iconst (v := 1) hx hb d_MD_measure_31 (by decide) ?_
  refine lv_goto (tgt := 44) hx hb d_MD_measure_32 (by decide) ?_
  have hPc := hP.sub (ws' := [(h1, .inr (10, [.int 0, .int 0, .ref m_file, .int 0, .int 0, .ref m_bytes, .ref m_places, .ref m_lengths, .ref m_glyphCount, .ref m_ems, .ref m_wides, .ref m_forms, .ref m_parts, .ref m_charts, .ref m_pointCount, .ref m_contourCount, .ref m_depths, .ref m_xs, .ref m_ys, .ref m_ons, .ref m_contours, .int 0, .int 0, .int 0, .ref m_flags, .ref m_part, .int 0, .ref m_text, .int 0, .ref m_ringX, .ref m_ringY, .ref m_ringOn, .int 0, .ref m_curves, .ref m_windings, .ref m_rows]))]) [0] rfl
  have hDc := hD.sub (ws' := [(h1, .inr (10, [.int 0, .int 0, .ref m_file, .int 0, .int 0, .ref m_bytes, .ref m_places, .ref m_lengths, .ref m_glyphCount, .ref m_ems, .ref m_wides, .ref m_forms, .ref m_parts, .ref m_charts, .ref m_pointCount, .ref m_contourCount, .ref m_depths, .ref m_xs, .ref m_ys, .ref m_ons, .ref m_contours, .int 0, .int 0, .int 0, .ref m_flags, .ref m_part, .int 0, .ref m_text, .int 0, .ref m_ringX, .ref m_ringY, .ref m_ringOn, .int 0, .ref m_curves, .ref m_windings, .ref m_rows]))]) [0] (by decide) rfl
  have hKc := hK.sub (tys' := []) [] rfl
  have hFc := va_free (wc := [(h1, .inr (10, [.int 0, .int 0, .ref m_file, .int 0, .int 0, .ref m_bytes, .ref m_places, .ref m_lengths, .ref m_glyphCount, .ref m_ems, .ref m_wides, .ref m_forms, .ref m_parts, .ref m_charts, .ref m_pointCount, .ref m_contourCount, .ref m_depths, .ref m_xs, .ref m_ys, .ref m_ons, .ref m_contours, .int 0, .int 0, .int 0, .ref m_flags, .ref m_part, .int 0, .ref m_text, .int 0, .ref m_ringX, .ref m_ringY, .ref m_ringOn, .int 0, .ref m_curves, .ref m_windings, .ref m_rows]))]) hD hS hA [0] rfl
  refine va_calli (va_runV (As := [.int 1]) (rest := []) ⟨hx, hb, hml, hown, hts⟩ (c_MD_refused_1 l dC dI h1 m_file m_bytes m_places m_lengths m_glyphCount m_ems m_wides m_forms m_parts m_charts m_pointCount m_contourCount m_depths m_xs m_ys m_ons m_contours m_flags m_part m_text m_ringX m_ringY m_ringOn m_curves m_windings m_rows H.size) (cwV 1 hts (tw_inV w_973 w_975 wp_34 w_11 w_976) rfl rfl rfl (by decide +kernel) ⟨Nat.le_of_ble_eq_true rfl, Nat.le_of_ble_eq_true rfl⟩) ⟨fun a U g mk q => by obtain ⟨q0, q1, qP, qK, qD⟩ := q; exact ⟨q0, q1, qP, va_K.moved (u := U) (U := U.calling g mk a) (Vm.Alike.refl U.vm) qK, qD⟩, va_recv (hK := hK) (hP := hP) (q0 := 0) (ci := 10) rfl rfl, fun U hU hW => ⟨rfl, by rw [hU], by rw [hU]; exact hPc, va_K.moved hW.alike hKc, hDc.weaken (fun _ _ _ _ => trivial)⟩⟩ rfl rfl hl.1 rfl (lv_room (Nat.le_of_ble_eq_true rfl)) d_MD_measure_44 ⟨Nat.le_of_ble_eq_true rfl, Nat.le_of_ble_eq_true rfl⟩) hS (fun q _ h => hFc q h) hFc (fun r165 u t H1 locs ht hvm hw hB hz1 hk1 hS => ?_)
  obtain ⟨hP1, hK1, hD1⟩ := hB
  rw [ht] at hP1
  have hK1 := va_K.moved hvm.symm hK1
  obtain ⟨hP, hD⟩ := va_join (wr := []) (w1 := [(h1, .inr (10, [.int 1, .int 0, .ref m_file, .int 0, .int 0, .ref m_bytes, .ref m_places, .ref m_lengths, .ref m_glyphCount, .ref m_ems, .ref m_wides, .ref m_forms, .ref m_parts, .ref m_charts, .ref m_pointCount, .ref m_contourCount, .ref m_depths, .ref m_xs, .ref m_ys, .ref m_ons, .ref m_contours, .int 0, .int 0, .int 0, .ref m_flags, .ref m_part, .int 0, .ref m_text, .int 0, .ref m_ringX, .ref m_ringY, .ref m_ringOn, .int 0, .ref m_curves, .ref m_windings, .ref m_rows]))]) hP hD [0] [] rfl rfl (by decide) (by decide) hk1 hFc hP1 hD1
  have hK := (hK.sub (tys' := []) [] rfl).app hK1
  generalize H1 = H at hP hS ⊢
  have hP : va_P (dC, dI) cls_ [(h1, .inr (10, [.int 1, .int 0, .ref m_file, .int 0, .int 0, .ref m_bytes, .ref m_places, .ref m_lengths, .ref m_glyphCount, .ref m_ems, .ref m_wides, .ref m_forms, .ref m_parts, .ref m_charts, .ref m_pointCount, .ref m_contourCount, .ref m_depths, .ref m_xs, .ref m_ys, .ref m_ons, .ref m_contours, .int 0, .int 0, .int 0, .ref m_flags, .ref m_part, .int 0, .ref m_text, .int 0, .ref m_ringX, .ref m_ringY, .ref m_ringOn, .int 0, .ref m_curves, .ref m_windings, .ref m_rows]))] H := hP
  have hD : va_D A [(h1, .inr (10, [.int 1, .int 0, .ref m_file, .int 0, .int 0, .ref m_bytes, .ref m_places, .ref m_lengths, .ref m_glyphCount, .ref m_ems, .ref m_wides, .ref m_forms, .ref m_parts, .ref m_charts, .ref m_pointCount, .ref m_contourCount, .ref m_depths, .ref m_xs, .ref m_ys, .ref m_ons, .ref m_contours, .int 0, .int 0, .int 0, .ref m_flags, .ref m_part, .int 0, .ref m_text, .int 0, .ref m_ringX, .ref m_ringY, .ref m_ringOn, .int 0, .ref m_curves, .ref m_windings, .ref m_rows]))] := hD
  have hK : va_K (dC, dI) cls_ [] s := hK
  have hw : r165 = 1 := hw
  subst hw
  refine lv_if_eq (tgt := 52) hx hb d_MD_measure_47 (by decide) (fun hc => absurd hc (by decide +kernel)) (fun _ => ?_)
  refine lv_iconst (v := 0) hx hb d_MD_measure_50 (by decide) ?_
  refine W.widen (k := 0) (n := 0) (Nat.le_of_ble_eq_true rfl) (Nat.le_of_ble_eq_true rfl) ?_
  have hP9 := hP.sub (ws' := [(h1, .inr (10, [.int 1, .int 0, .ref m_file, .int 0, .int 0, .ref m_bytes, .ref m_places, .ref m_lengths, .ref m_glyphCount, .ref m_ems, .ref m_wides, .ref m_forms, .ref m_parts, .ref m_charts, .ref m_pointCount, .ref m_contourCount, .ref m_depths, .ref m_xs, .ref m_ys, .ref m_ons, .ref m_contours, .int 0, .int 0, .int 0, .ref m_flags, .ref m_part, .int 0, .ref m_text, .int 0, .ref m_ringX, .ref m_ringY, .ref m_ringOn, .int 0, .ref m_curves, .ref m_windings, .ref m_rows]))]) [0] rfl
  have hD9 := hD.sub (ws' := [(h1, .inr (10, [.int 1, .int 0, .ref m_file, .int 0, .int 0, .ref m_bytes, .ref m_places, .ref m_lengths, .ref m_glyphCount, .ref m_ems, .ref m_wides, .ref m_forms, .ref m_parts, .ref m_charts, .ref m_pointCount, .ref m_contourCount, .ref m_depths, .ref m_xs, .ref m_ys, .ref m_ons, .ref m_contours, .int 0, .int 0, .int 0, .ref m_flags, .ref m_part, .int 0, .ref m_text, .int 0, .ref m_ringX, .ref m_ringY, .ref m_ringOn, .int 0, .ref m_curves, .ref m_windings, .ref m_rows]))]) [0] (by decide) rfl
  have hK9 := hK.sub (tys' := []) [] rfl
  exact W.iret (v := 0) hx hb hr (fun t ht hW => ⟨⟨0, (), rfl, trivial, by rw [ht]; exact hP9, va_K.moved hW.alike hK9, hD9⟩, hS.F ht⟩) hS.2.2 d_MD_measure_51
set_option maxHeartbeats 4000000 in
set_option maxRecDepth 100000 in
/-- GlyphLinesModel.point -/
theorem c_MD_point (l : Launch) (dC : Nat → ClassId) (dI : Nat → Nat → Nat) (h1 m_file m_bytes m_places m_lengths m_glyphCount m_ems m_wides m_forms m_parts m_charts m_pointCount m_contourCount m_depths m_xs m_ys m_ons m_contours m_flags m_part m_text m_ringX m_ringY m_ringOn m_curves m_windings m_rows : Nat) (gl i wh : Int32) (sz : Nat) : Met l y_MD_point s_MD_point ({ frames := 10, cells := 0, slots := 0, locals := 300 }) (va_Pc [.ref h1, .int gl, .int i, .int wh] (fun U => U.heap.size = sz ∧ va_P (dC, dI) cls_ [(h1, .inr (10, [.int 0, .int 0, .ref m_file, .int 0, .int 0, .ref m_bytes, .ref m_places, .ref m_lengths, .ref m_glyphCount, .ref m_ems, .ref m_wides, .ref m_forms, .ref m_parts, .ref m_charts, .ref m_pointCount, .ref m_contourCount, .ref m_depths, .ref m_xs, .ref m_ys, .ref m_ons, .ref m_contours, .int 0, .int 0, .int 0, .ref m_flags, .ref m_part, .int 0, .ref m_text, .int 0, .ref m_ringX, .ref m_ringY, .ref m_ringOn, .int 0, .ref m_curves, .ref m_windings, .ref m_rows]))] U.heap ∧ va_K (dC, dI) cls_ [] U ∧ va_D (fun _ => True) [(h1, .inr (10, [.int 0, .int 0, .ref m_file, .int 0, .int 0, .ref m_bytes, .ref m_places, .ref m_lengths, .ref m_glyphCount, .ref m_ems, .ref m_wides, .ref m_forms, .ref m_parts, .ref m_charts, .ref m_pointCount, .ref m_contourCount, .ref m_depths, .ref m_xs, .ref m_ys, .ref m_ons, .ref m_contours, .int 0, .int 0, .int 0, .ref m_flags, .ref m_part, .int 0, .ref m_text, .int 0, .ref m_ringX, .ref m_ringY, .ref m_ringOn, .int 0, .ref m_curves, .ref m_windings, .ref m_rows]))])) (va_Qi (fun (r : Int32) (_ : Unit) => True) (fun (_ : Unit) (t : State) => va_P (dC, dI) cls_ [(h1, .inr (10, [.int 1, .int 0, .ref m_file, .int 0, .int 0, .ref m_bytes, .ref m_places, .ref m_lengths, .ref m_glyphCount, .ref m_ems, .ref m_wides, .ref m_forms, .ref m_parts, .ref m_charts, .ref m_pointCount, .ref m_contourCount, .ref m_depths, .ref m_xs, .ref m_ys, .ref m_ons, .ref m_contours, .int 0, .int 0, .int 0, .ref m_flags, .ref m_part, .int 0, .ref m_text, .int 0, .ref m_ringX, .ref m_ringY, .ref m_ringOn, .int 0, .ref m_curves, .ref m_windings, .ref m_rows]))] t.heap ∧ va_K (dC, dI) cls_ [] t ∧ va_D (va_A [(h1, .inr (10, [.int 0, .int 0, .ref m_file, .int 0, .int 0, .ref m_bytes, .ref m_places, .ref m_lengths, .ref m_glyphCount, .ref m_ems, .ref m_wides, .ref m_forms, .ref m_parts, .ref m_charts, .ref m_pointCount, .ref m_contourCount, .ref m_depths, .ref m_xs, .ref m_ys, .ref m_ons, .ref m_contours, .int 0, .int 0, .int 0, .ref m_flags, .ref m_part, .int 0, .ref m_text, .int 0, .ref m_ringX, .ref m_ringY, .ref m_ringOn, .int 0, .ref m_curves, .ref m_windings, .ref m_rows]))] sz) [(h1, .inr (10, [.int 1, .int 0, .ref m_file, .int 0, .int 0, .ref m_bytes, .ref m_places, .ref m_lengths, .ref m_glyphCount, .ref m_ems, .ref m_wides, .ref m_forms, .ref m_parts, .ref m_charts, .ref m_pointCount, .ref m_contourCount, .ref m_depths, .ref m_xs, .ref m_ys, .ref m_ons, .ref m_contours, .int 0, .int 0, .int 0, .ref m_flags, .ref m_part, .int 0, .ref m_text, .int 0, .ref m_ringX, .ref m_ringY, .ref m_ringOn, .int 0, .ref m_curves, .ref m_windings, .ref m_rows]))]) (va_A [(h1, .inr (10, [.int 0, .int 0, .ref m_file, .int 0, .int 0, .ref m_bytes, .ref m_places, .ref m_lengths, .ref m_glyphCount, .ref m_ems, .ref m_wides, .ref m_forms, .ref m_parts, .ref m_charts, .ref m_pointCount, .ref m_contourCount, .ref m_depths, .ref m_xs, .ref m_ys, .ref m_ons, .ref m_contours, .int 0, .int 0, .int 0, .ref m_flags, .ref m_part, .int 0, .ref m_text, .int 0, .ref m_ringX, .ref m_ringY, .ref m_ringOn, .int 0, .ref m_curves, .ref m_windings, .ref m_rows]))] sz)) 0 0 (va_A [(h1, .inr (10, [.int 0, .int 0, .ref m_file, .int 0, .int 0, .ref m_bytes, .ref m_places, .ref m_lengths, .ref m_glyphCount, .ref m_ems, .ref m_wides, .ref m_forms, .ref m_parts, .ref m_charts, .ref m_pointCount, .ref m_contourCount, .ref m_depths, .ref m_xs, .ref m_ys, .ref m_ons, .ref m_contours, .int 0, .int 0, .int 0, .ref m_flags, .ref m_part, .int 0, .ref m_text, .int 0, .ref m_ringX, .ref m_ringY, .ref m_ringOn, .int 0, .ref m_curves, .ref m_windings, .ref m_rows]))] sz) := by
  refine Met.ofW (cc := b_MD_point) (maxL := 6) (ret := (some .int)) (by decide) rfl ?_
  intro p e s m args below meth c s₁ B hml hv
  obtain ⟨rfl, hsz, hP, hK, hD0⟩ := hv
  have hx := B.exec
  have hb := B.bytes
  have hr := B.returns
  have hts := atoms_spec (ws := s_MD_point) B.pre
  have hown : s.vm.findClass R_MD = some m.cls := findClass_of_methodNamed B.named
  have hlocks := B.notSynchronized
  subst hsz
  have hD := hD0.self (sz := s.heap.size)
  generalize hAe : va_A [(h1, .inr (10, [.int 0, .int 0, .ref m_file, .int 0, .int 0, .ref m_bytes, .ref m_places, .ref m_lengths, .ref m_glyphCount, .ref m_ems, .ref m_wides, .ref m_forms, .ref m_parts, .ref m_charts, .ref m_pointCount, .ref m_contourCount, .ref m_depths, .ref m_xs, .ref m_ys, .ref m_ons, .ref m_contours, .int 0, .int 0, .int 0, .ref m_flags, .ref m_part, .int 0, .ref m_text, .int 0, .ref m_ringX, .ref m_ringY, .ref m_ringOn, .int 0, .ref m_curves, .ref m_windings, .ref m_rows]))] s.heap.size = A at hD ⊢
  have hA : ∀ q : Nat, s.heap.size ≤ q → A q := fun q h => by rw [← hAe]; exact Or.inr h
  have hS : va_S A s.heap s.heap [] := va_S.rf
  have hP : va_P (dC, dI) cls_ [(h1, .inr (10, [.int 0, .int 0, .ref m_file, .int 0, .int 0, .ref m_bytes, .ref m_places, .ref m_lengths, .ref m_glyphCount, .ref m_ems, .ref m_wides, .ref m_forms, .ref m_parts, .ref m_charts, .ref m_pointCount, .ref m_contourCount, .ref m_depths, .ref m_xs, .ref m_ys, .ref m_ons, .ref m_contours, .int 0, .int 0, .int 0, .ref m_flags, .ref m_part, .int 0, .ref m_text, .int 0, .ref m_ringX, .ref m_ringY, .ref m_ringOn, .int 0, .ref m_curves, .ref m_windings, .ref m_rows]))] s.heap := hP
  have hl := lv_entry ([.ref h1, .int gl, .int i, .int wh]) (n := 6) (Nat.le_of_ble_eq_true rfl)
  rw [lg_entry_eq]
  generalize (lg_sl ([.ref h1, .int gl, .int i, .int wh]) ++ List.replicate (6 - (lg_sl ([.ref h1, .int gl, .int i, .int wh])).length) Slot.unset).toArray = ls at hl ⊢
  have hl : lv_has ls 6 [(0, .ref h1), (1, .int gl), (2, .int i), (3, .int wh)] := hl
  refine lv_aload_n hx hb d_MD_point_0 rfl (lv_at hl 0 rfl) ?_
  refine lv_iload_n hx hb d_MD_point_1 rfl (lv_at hl 1 rfl) ?_
  have hPc := hP.sub (ws' := [(h1, .inr (10, [.int 0, .int 0, .ref m_file, .int 0, .int 0, .ref m_bytes, .ref m_places, .ref m_lengths, .ref m_glyphCount, .ref m_ems, .ref m_wides, .ref m_forms, .ref m_parts, .ref m_charts, .ref m_pointCount, .ref m_contourCount, .ref m_depths, .ref m_xs, .ref m_ys, .ref m_ons, .ref m_contours, .int 0, .int 0, .int 0, .ref m_flags, .ref m_part, .int 0, .ref m_text, .int 0, .ref m_ringX, .ref m_ringY, .ref m_ringOn, .int 0, .ref m_curves, .ref m_windings, .ref m_rows]))]) [0] rfl
  have hDc := hD.sub (ws' := [(h1, .inr (10, [.int 0, .int 0, .ref m_file, .int 0, .int 0, .ref m_bytes, .ref m_places, .ref m_lengths, .ref m_glyphCount, .ref m_ems, .ref m_wides, .ref m_forms, .ref m_parts, .ref m_charts, .ref m_pointCount, .ref m_contourCount, .ref m_depths, .ref m_xs, .ref m_ys, .ref m_ons, .ref m_contours, .int 0, .int 0, .int 0, .ref m_flags, .ref m_part, .int 0, .ref m_text, .int 0, .ref m_ringX, .ref m_ringY, .ref m_ringOn, .int 0, .ref m_curves, .ref m_windings, .ref m_rows]))]) [0] (by decide) rfl
  have hKc := hK.sub (tys' := []) [] rfl
  have hFc := va_free (wc := [(h1, .inr (10, [.int 0, .int 0, .ref m_file, .int 0, .int 0, .ref m_bytes, .ref m_places, .ref m_lengths, .ref m_glyphCount, .ref m_ems, .ref m_wides, .ref m_forms, .ref m_parts, .ref m_charts, .ref m_pointCount, .ref m_contourCount, .ref m_depths, .ref m_xs, .ref m_ys, .ref m_ons, .ref m_contours, .int 0, .int 0, .int 0, .ref m_flags, .ref m_part, .int 0, .ref m_text, .int 0, .ref m_ringX, .ref m_ringY, .ref m_ringOn, .int 0, .ref m_curves, .ref m_windings, .ref m_rows]))]) hD hS hA [0] rfl
  refine va_calli (va_runV (As := [.int gl]) (rest := []) ⟨hx, hb, hml, hown, hts⟩ (c_MD_isGlyph l dC dI h1 m_file m_bytes m_places m_lengths m_glyphCount m_ems m_wides m_forms m_parts m_charts m_pointCount m_contourCount m_depths m_xs m_ys m_ons m_contours m_flags m_part m_text m_ringX m_ringY m_ringOn m_curves m_windings m_rows gl s.heap.size) (cwV 1 hts (tw_inV w_1118 w_1120 wp_60 w_11 w_1121) rfl rfl rfl (by decide +kernel) ⟨Nat.le_of_ble_eq_true rfl, Nat.le_of_ble_eq_true rfl⟩) ⟨fun a U g mk q => by obtain ⟨q0, q1, qP, qK, qD⟩ := q; exact ⟨q0, q1, qP, va_K.moved (u := U) (U := U.calling g mk a) (Vm.Alike.refl U.vm) qK, qD⟩, va_recv (hK := hK) (hP := hP) (q0 := 0) (ci := 10) rfl rfl, fun U hU hW => ⟨rfl, by rw [hU], by rw [hU]; exact hPc, va_K.moved hW.alike hKc, hDc.weaken (fun _ _ _ _ => trivial)⟩⟩ rfl rfl hl.1 rfl (lv_room (Nat.le_of_ble_eq_true rfl)) d_MD_point_2 ⟨Nat.le_of_ble_eq_true rfl, Nat.le_of_ble_eq_true rfl⟩) hS (fun q _ h => hFc q h) hFc (fun r166 u t H1 locs ht hvm hw hB hz1 hk1 hS => ?_)
  obtain ⟨hP1, hK1, hD1⟩ := hB
  rw [ht] at hP1
  have hK1 := va_K.moved hvm.symm hK1
  obtain ⟨hP, hD⟩ := va_join (wr := []) (w1 := [(h1, .inr (10, [.int 0, .int 0, .ref m_file, .int 0, .int 0, .ref m_bytes, .ref m_places, .ref m_lengths, .ref m_glyphCount, .ref m_ems, .ref m_wides, .ref m_forms, .ref m_parts, .ref m_charts, .ref m_pointCount, .ref m_contourCount, .ref m_depths, .ref m_xs, .ref m_ys, .ref m_ons, .ref m_contours, .int 0, .int 0, .int 0, .ref m_flags, .ref m_part, .int 0, .ref m_text, .int 0, .ref m_ringX, .ref m_ringY, .ref m_ringOn, .int 0, .ref m_curves, .ref m_windings, .ref m_rows]))]) hP hD [0] [] rfl rfl (by decide) (by decide) hk1 hFc hP1 hD1
  have hK := (hK.sub (tys' := []) [] rfl).app hK1
  generalize H1 = H at hP hS ⊢
  have hP : va_P (dC, dI) cls_ [(h1, .inr (10, [.int 0, .int 0, .ref m_file, .int 0, .int 0, .ref m_bytes, .ref m_places, .ref m_lengths, .ref m_glyphCount, .ref m_ems, .ref m_wides, .ref m_forms, .ref m_parts, .ref m_charts, .ref m_pointCount, .ref m_contourCount, .ref m_depths, .ref m_xs, .ref m_ys, .ref m_ons, .ref m_contours, .int 0, .int 0, .int 0, .ref m_flags, .ref m_part, .int 0, .ref m_text, .int 0, .ref m_ringX, .ref m_ringY, .ref m_ringOn, .int 0, .ref m_curves, .ref m_windings, .ref m_rows]))] H := hP
  have hD : va_D A [(h1, .inr (10, [.int 0, .int 0, .ref m_file, .int 0, .int 0, .ref m_bytes, .ref m_places, .ref m_lengths, .ref m_glyphCount, .ref m_ems, .ref m_wides, .ref m_forms, .ref m_parts, .ref m_charts, .ref m_pointCount, .ref m_contourCount, .ref m_depths, .ref m_xs, .ref m_ys, .ref m_ons, .ref m_contours, .int 0, .int 0, .int 0, .ref m_flags, .ref m_part, .int 0, .ref m_text, .int 0, .ref m_ringX, .ref m_ringY, .ref m_ringOn, .int 0, .ref m_curves, .ref m_windings, .ref m_rows]))] := hD
  have hK : va_K (dC, dI) cls_ [] s := hK
  have hw : r166 = 0 := hw
  subst hw
  refine lv_if_eq (tgt := 25) hx hb d_MD_point_5 (by decide) (fun _ => ?_) (fun hc => absurd hc (by decide +kernel))
  refine lv_iconst (v := 0) hx hb d_MD_point_25 (by decide) ?_
  refine lv_istore (lv' := [(4, .int 0), (0, .ref h1), (1, .int gl), (2, .int i), (3, .int wh)]) hx hb d_MD_point_26 hl (by decide) rfl (fun ls hl => ?_)
  refine lv_iload hx hb d_MD_point_28 (lv_at hl 0 rfl) ?_
  refine lv_if_eq (tgt := 55) hx hb d_MD_point_30 (by decide) (fun _ => ?_) (fun hc => absurd hc (by decide +kernel))
  refine lv_iconst (v := 0) hx hb d_MD_point_55 (by decide) ?_
  refine lv_istore (lv' := [(4, .int 0), (0, .ref h1), (1, .int gl), (2, .int i), (3, .int wh)]) hx hb d_MD_point_56 hl (by decide) rfl (fun ls hl => ?_)
  refine lv_aload_n hx hb d_MD_point_58 rfl (lv_at hl 1 rfl) ?_
  refine lv_aload_n hx hb d_MD_point_59 rfl (lv_at hl 1 rfl) ?_
  refine va_get (D := (dC, dI)) (ci := 10) (v := .int 0) (C := R_MD) (T := F_MD) (N := 36) hx hb hts in_MD hown hK hP 0 rfl rfl 4 (by decide) (hts _ (List.mem_cons_of_mem _ w_856)) (fun _ h9 => h9) rfl d_MD_point_60 ?_
  refine lv_if_ne (tgt := 70) hx hb d_MD_point_63 (by decide) (fun hc => absurd hc (by decide +kernel)) (fun _ => ?_)
  refine lv_iconst (v := 1) hx hb d_MD_point_66 (by decide) ?_
  refine lv_goto (tgt := 80) hx hb d_MD_point_67 (by decide) ?_
  have hPc := hP.sub (ws' := [(h1, .inr (10, [.int 0, .int 0, .ref m_file, .int 0, .int 0, .ref m_bytes, .ref m_places, .ref m_lengths, .ref m_glyphCount, .ref m_ems, .ref m_wides, .ref m_forms, .ref m_parts, .ref m_charts, .ref m_pointCount, .ref m_contourCount, .ref m_depths, .ref m_xs, .ref m_ys, .ref m_ons, .ref m_contours, .int 0, .int 0, .int 0, .ref m_flags, .ref m_part, .int 0, .ref m_text, .int 0, .ref m_ringX, .ref m_ringY, .ref m_ringOn, .int 0, .ref m_curves, .ref m_windings, .ref m_rows]))]) [0] rfl
  have hDc := hD.sub (ws' := [(h1, .inr (10, [.int 0, .int 0, .ref m_file, .int 0, .int 0, .ref m_bytes, .ref m_places, .ref m_lengths, .ref m_glyphCount, .ref m_ems, .ref m_wides, .ref m_forms, .ref m_parts, .ref m_charts, .ref m_pointCount, .ref m_contourCount, .ref m_depths, .ref m_xs, .ref m_ys, .ref m_ons, .ref m_contours, .int 0, .int 0, .int 0, .ref m_flags, .ref m_part, .int 0, .ref m_text, .int 0, .ref m_ringX, .ref m_ringY, .ref m_ringOn, .int 0, .ref m_curves, .ref m_windings, .ref m_rows]))]) [0] (by decide) rfl
  have hKc := hK.sub (tys' := []) [] rfl
  have hFc := va_free (wc := [(h1, .inr (10, [.int 0, .int 0, .ref m_file, .int 0, .int 0, .ref m_bytes, .ref m_places, .ref m_lengths, .ref m_glyphCount, .ref m_ems, .ref m_wides, .ref m_forms, .ref m_parts, .ref m_charts, .ref m_pointCount, .ref m_contourCount, .ref m_depths, .ref m_xs, .ref m_ys, .ref m_ons, .ref m_contours, .int 0, .int 0, .int 0, .ref m_flags, .ref m_part, .int 0, .ref m_text, .int 0, .ref m_ringX, .ref m_ringY, .ref m_ringOn, .int 0, .ref m_curves, .ref m_windings, .ref m_rows]))]) hD hS hA [0] rfl
  refine va_calli (va_runV (As := [.int 1]) (rest := []) ⟨hx, hb, hml, hown, hts⟩ (c_MD_refused_1 l dC dI h1 m_file m_bytes m_places m_lengths m_glyphCount m_ems m_wides m_forms m_parts m_charts m_pointCount m_contourCount m_depths m_xs m_ys m_ons m_contours m_flags m_part m_text m_ringX m_ringY m_ringOn m_curves m_windings m_rows H.size) (cwV 1 hts (tw_inV w_973 w_975 wp_34 w_11 w_976) rfl rfl rfl (by decide +kernel) ⟨Nat.le_of_ble_eq_true rfl, Nat.le_of_ble_eq_true rfl⟩) ⟨fun a U g mk q => by obtain ⟨q0, q1, qP, qK, qD⟩ := q; exact ⟨q0, q1, qP, va_K.moved (u := U) (U := U.calling g mk a) (Vm.Alike.refl U.vm) qK, qD⟩, va_recv (hK := hK) (hP := hP) (q0 := 0) (ci := 10) rfl rfl, fun U hU hW => ⟨rfl, by rw [hU], by rw [hU]; exact hPc, va_K.moved hW.alike hKc, hDc.weaken (fun _ _ _ _ => trivial)⟩⟩ rfl rfl hl.1 rfl (lv_room (Nat.le_of_ble_eq_true rfl)) d_MD_point_80 ⟨Nat.le_of_ble_eq_true rfl, Nat.le_of_ble_eq_true rfl⟩) hS (fun q _ h => hFc q h) hFc (fun r167 u t H1 locs ht hvm hw hB hz1 hk1 hS => ?_)
  obtain ⟨hP1, hK1, hD1⟩ := hB
  rw [ht] at hP1
  have hK1 := va_K.moved hvm.symm hK1
  obtain ⟨hP, hD⟩ := va_join (wr := []) (w1 := [(h1, .inr (10, [.int 1, .int 0, .ref m_file, .int 0, .int 0, .ref m_bytes, .ref m_places, .ref m_lengths, .ref m_glyphCount, .ref m_ems, .ref m_wides, .ref m_forms, .ref m_parts, .ref m_charts, .ref m_pointCount, .ref m_contourCount, .ref m_depths, .ref m_xs, .ref m_ys, .ref m_ons, .ref m_contours, .int 0, .int 0, .int 0, .ref m_flags, .ref m_part, .int 0, .ref m_text, .int 0, .ref m_ringX, .ref m_ringY, .ref m_ringOn, .int 0, .ref m_curves, .ref m_windings, .ref m_rows]))]) hP hD [0] [] rfl rfl (by decide) (by decide) hk1 hFc hP1 hD1
  have hK := (hK.sub (tys' := []) [] rfl).app hK1
  generalize H1 = H at hP hS ⊢
  have hP : va_P (dC, dI) cls_ [(h1, .inr (10, [.int 1, .int 0, .ref m_file, .int 0, .int 0, .ref m_bytes, .ref m_places, .ref m_lengths, .ref m_glyphCount, .ref m_ems, .ref m_wides, .ref m_forms, .ref m_parts, .ref m_charts, .ref m_pointCount, .ref m_contourCount, .ref m_depths, .ref m_xs, .ref m_ys, .ref m_ons, .ref m_contours, .int 0, .int 0, .int 0, .ref m_flags, .ref m_part, .int 0, .ref m_text, .int 0, .ref m_ringX, .ref m_ringY, .ref m_ringOn, .int 0, .ref m_curves, .ref m_windings, .ref m_rows]))] H := hP
  have hD : va_D A [(h1, .inr (10, [.int 1, .int 0, .ref m_file, .int 0, .int 0, .ref m_bytes, .ref m_places, .ref m_lengths, .ref m_glyphCount, .ref m_ems, .ref m_wides, .ref m_forms, .ref m_parts, .ref m_charts, .ref m_pointCount, .ref m_contourCount, .ref m_depths, .ref m_xs, .ref m_ys, .ref m_ons, .ref m_contours, .int 0, .int 0, .int 0, .ref m_flags, .ref m_part, .int 0, .ref m_text, .int 0, .ref m_ringX, .ref m_ringY, .ref m_ringOn, .int 0, .ref m_curves, .ref m_windings, .ref m_rows]))] := hD
  have hK : va_K (dC, dI) cls_ [] s := hK
  have hw : r167 = 1 := hw
  subst hw
  refine lv_if_eq (tgt := 88) hx hb d_MD_point_83 (by decide) (fun hc => absurd hc (by decide +kernel)) (fun _ => ?_)
  refine lv_iconst (v := 0) hx hb d_MD_point_86 (by decide) ?_
  refine W.widen (k := 0) (n := 0) (Nat.le_of_ble_eq_true rfl) (Nat.le_of_ble_eq_true rfl) ?_
  have hP9 := hP.sub (ws' := [(h1, .inr (10, [.int 1, .int 0, .ref m_file, .int 0, .int 0, .ref m_bytes, .ref m_places, .ref m_lengths, .ref m_glyphCount, .ref m_ems, .ref m_wides, .ref m_forms, .ref m_parts, .ref m_charts, .ref m_pointCount, .ref m_contourCount, .ref m_depths, .ref m_xs, .ref m_ys, .ref m_ons, .ref m_contours, .int 0, .int 0, .int 0, .ref m_flags, .ref m_part, .int 0, .ref m_text, .int 0, .ref m_ringX, .ref m_ringY, .ref m_ringOn, .int 0, .ref m_curves, .ref m_windings, .ref m_rows]))]) [0] rfl
  have hD9 := hD.sub (ws' := [(h1, .inr (10, [.int 1, .int 0, .ref m_file, .int 0, .int 0, .ref m_bytes, .ref m_places, .ref m_lengths, .ref m_glyphCount, .ref m_ems, .ref m_wides, .ref m_forms, .ref m_parts, .ref m_charts, .ref m_pointCount, .ref m_contourCount, .ref m_depths, .ref m_xs, .ref m_ys, .ref m_ons, .ref m_contours, .int 0, .int 0, .int 0, .ref m_flags, .ref m_part, .int 0, .ref m_text, .int 0, .ref m_ringX, .ref m_ringY, .ref m_ringOn, .int 0, .ref m_curves, .ref m_windings, .ref m_rows]))]) [0] (by decide) rfl
  have hK9 := hK.sub (tys' := []) [] rfl
  exact W.iret (v := 0) hx hb hr (fun t ht hW => ⟨⟨0, (), rfl, trivial, by rw [ht]; exact hP9, va_K.moved hW.alike hK9, hD9⟩, hS.F ht⟩) hS.2.2 d_MD_point_87
set_option maxHeartbeats 4000000 in
set_option maxRecDepth 100000 in
/-- GlyphLinesModel.kerning -/
theorem c_MD_kerning (l : Launch) (dC : Nat → ClassId) (dI : Nat → Nat → Nat) (h1 m_file m_bytes m_places m_lengths m_glyphCount m_ems m_wides m_forms m_parts m_charts m_pointCount m_contourCount m_depths m_xs m_ys m_ons m_contours m_flags m_part m_text m_ringX m_ringY m_ringOn m_curves m_windings m_rows : Nat) (le ri : Int32) (sz : Nat) : Met l y_MD_kerning s_MD_kerning ({ frames := 10, cells := 0, slots := 0, locals := 300 }) (va_Pc [.ref h1, .int le, .int ri] (fun U => U.heap.size = sz ∧ va_P (dC, dI) cls_ [(h1, .inr (10, [.int 0, .int 0, .ref m_file, .int 0, .int 0, .ref m_bytes, .ref m_places, .ref m_lengths, .ref m_glyphCount, .ref m_ems, .ref m_wides, .ref m_forms, .ref m_parts, .ref m_charts, .ref m_pointCount, .ref m_contourCount, .ref m_depths, .ref m_xs, .ref m_ys, .ref m_ons, .ref m_contours, .int 0, .int 0, .int 0, .ref m_flags, .ref m_part, .int 0, .ref m_text, .int 0, .ref m_ringX, .ref m_ringY, .ref m_ringOn, .int 0, .ref m_curves, .ref m_windings, .ref m_rows]))] U.heap ∧ va_K (dC, dI) cls_ [] U ∧ va_D (fun _ => True) [(h1, .inr (10, [.int 0, .int 0, .ref m_file, .int 0, .int 0, .ref m_bytes, .ref m_places, .ref m_lengths, .ref m_glyphCount, .ref m_ems, .ref m_wides, .ref m_forms, .ref m_parts, .ref m_charts, .ref m_pointCount, .ref m_contourCount, .ref m_depths, .ref m_xs, .ref m_ys, .ref m_ons, .ref m_contours, .int 0, .int 0, .int 0, .ref m_flags, .ref m_part, .int 0, .ref m_text, .int 0, .ref m_ringX, .ref m_ringY, .ref m_ringOn, .int 0, .ref m_curves, .ref m_windings, .ref m_rows]))])) (va_Qi (fun (r : Int32) (_ : Unit) => True) (fun (_ : Unit) (t : State) => va_P (dC, dI) cls_ [(h1, .inr (10, [.int 1, .int 0, .ref m_file, .int 0, .int 0, .ref m_bytes, .ref m_places, .ref m_lengths, .ref m_glyphCount, .ref m_ems, .ref m_wides, .ref m_forms, .ref m_parts, .ref m_charts, .ref m_pointCount, .ref m_contourCount, .ref m_depths, .ref m_xs, .ref m_ys, .ref m_ons, .ref m_contours, .int 0, .int 0, .int 0, .ref m_flags, .ref m_part, .int 0, .ref m_text, .int 0, .ref m_ringX, .ref m_ringY, .ref m_ringOn, .int 0, .ref m_curves, .ref m_windings, .ref m_rows]))] t.heap ∧ va_K (dC, dI) cls_ [] t ∧ va_D (va_A [(h1, .inr (10, [.int 0, .int 0, .ref m_file, .int 0, .int 0, .ref m_bytes, .ref m_places, .ref m_lengths, .ref m_glyphCount, .ref m_ems, .ref m_wides, .ref m_forms, .ref m_parts, .ref m_charts, .ref m_pointCount, .ref m_contourCount, .ref m_depths, .ref m_xs, .ref m_ys, .ref m_ons, .ref m_contours, .int 0, .int 0, .int 0, .ref m_flags, .ref m_part, .int 0, .ref m_text, .int 0, .ref m_ringX, .ref m_ringY, .ref m_ringOn, .int 0, .ref m_curves, .ref m_windings, .ref m_rows]))] sz) [(h1, .inr (10, [.int 1, .int 0, .ref m_file, .int 0, .int 0, .ref m_bytes, .ref m_places, .ref m_lengths, .ref m_glyphCount, .ref m_ems, .ref m_wides, .ref m_forms, .ref m_parts, .ref m_charts, .ref m_pointCount, .ref m_contourCount, .ref m_depths, .ref m_xs, .ref m_ys, .ref m_ons, .ref m_contours, .int 0, .int 0, .int 0, .ref m_flags, .ref m_part, .int 0, .ref m_text, .int 0, .ref m_ringX, .ref m_ringY, .ref m_ringOn, .int 0, .ref m_curves, .ref m_windings, .ref m_rows]))]) (va_A [(h1, .inr (10, [.int 0, .int 0, .ref m_file, .int 0, .int 0, .ref m_bytes, .ref m_places, .ref m_lengths, .ref m_glyphCount, .ref m_ems, .ref m_wides, .ref m_forms, .ref m_parts, .ref m_charts, .ref m_pointCount, .ref m_contourCount, .ref m_depths, .ref m_xs, .ref m_ys, .ref m_ons, .ref m_contours, .int 0, .int 0, .int 0, .ref m_flags, .ref m_part, .int 0, .ref m_text, .int 0, .ref m_ringX, .ref m_ringY, .ref m_ringOn, .int 0, .ref m_curves, .ref m_windings, .ref m_rows]))] sz)) 0 0 (va_A [(h1, .inr (10, [.int 0, .int 0, .ref m_file, .int 0, .int 0, .ref m_bytes, .ref m_places, .ref m_lengths, .ref m_glyphCount, .ref m_ems, .ref m_wides, .ref m_forms, .ref m_parts, .ref m_charts, .ref m_pointCount, .ref m_contourCount, .ref m_depths, .ref m_xs, .ref m_ys, .ref m_ons, .ref m_contours, .int 0, .int 0, .int 0, .ref m_flags, .ref m_part, .int 0, .ref m_text, .int 0, .ref m_ringX, .ref m_ringY, .ref m_ringOn, .int 0, .ref m_curves, .ref m_windings, .ref m_rows]))] sz) := by
  refine Met.ofW (cc := b_MD_kerning) (maxL := 4) (ret := (some .int)) (by decide) rfl ?_
  intro p e s m args below meth c s₁ B hml hv
  obtain ⟨rfl, hsz, hP, hK, hD0⟩ := hv
  have hx := B.exec
  have hb := B.bytes
  have hr := B.returns
  have hts := atoms_spec (ws := s_MD_kerning) B.pre
  have hown : s.vm.findClass R_MD = some m.cls := findClass_of_methodNamed B.named
  have hlocks := B.notSynchronized
  subst hsz
  have hD := hD0.self (sz := s.heap.size)
  generalize hAe : va_A [(h1, .inr (10, [.int 0, .int 0, .ref m_file, .int 0, .int 0, .ref m_bytes, .ref m_places, .ref m_lengths, .ref m_glyphCount, .ref m_ems, .ref m_wides, .ref m_forms, .ref m_parts, .ref m_charts, .ref m_pointCount, .ref m_contourCount, .ref m_depths, .ref m_xs, .ref m_ys, .ref m_ons, .ref m_contours, .int 0, .int 0, .int 0, .ref m_flags, .ref m_part, .int 0, .ref m_text, .int 0, .ref m_ringX, .ref m_ringY, .ref m_ringOn, .int 0, .ref m_curves, .ref m_windings, .ref m_rows]))] s.heap.size = A at hD ⊢
  have hA : ∀ q : Nat, s.heap.size ≤ q → A q := fun q h => by rw [← hAe]; exact Or.inr h
  have hS : va_S A s.heap s.heap [] := va_S.rf
  have hP : va_P (dC, dI) cls_ [(h1, .inr (10, [.int 0, .int 0, .ref m_file, .int 0, .int 0, .ref m_bytes, .ref m_places, .ref m_lengths, .ref m_glyphCount, .ref m_ems, .ref m_wides, .ref m_forms, .ref m_parts, .ref m_charts, .ref m_pointCount, .ref m_contourCount, .ref m_depths, .ref m_xs, .ref m_ys, .ref m_ons, .ref m_contours, .int 0, .int 0, .int 0, .ref m_flags, .ref m_part, .int 0, .ref m_text, .int 0, .ref m_ringX, .ref m_ringY, .ref m_ringOn, .int 0, .ref m_curves, .ref m_windings, .ref m_rows]))] s.heap := hP
  have hl := lv_entry ([.ref h1, .int le, .int ri]) (n := 4) (Nat.le_of_ble_eq_true rfl)
  rw [lg_entry_eq]
  generalize (lg_sl ([.ref h1, .int le, .int ri]) ++ List.replicate (4 - (lg_sl ([.ref h1, .int le, .int ri])).length) Slot.unset).toArray = ls at hl ⊢
  have hl : lv_has ls 4 [(0, .ref h1), (1, .int le), (2, .int ri)] := hl
  refine lv_aload_n hx hb d_MD_kerning_0 rfl (lv_at hl 0 rfl) ?_
  refine lv_iload_n hx hb d_MD_kerning_1 rfl (lv_at hl 1 rfl) ?_
  have hPc := hP.sub (ws' := [(h1, .inr (10, [.int 0, .int 0, .ref m_file, .int 0, .int 0, .ref m_bytes, .ref m_places, .ref m_lengths, .ref m_glyphCount, .ref m_ems, .ref m_wides, .ref m_forms, .ref m_parts, .ref m_charts, .ref m_pointCount, .ref m_contourCount, .ref m_depths, .ref m_xs, .ref m_ys, .ref m_ons, .ref m_contours, .int 0, .int 0, .int 0, .ref m_flags, .ref m_part, .int 0, .ref m_text, .int 0, .ref m_ringX, .ref m_ringY, .ref m_ringOn, .int 0, .ref m_curves, .ref m_windings, .ref m_rows]))]) [0] rfl
  have hDc := hD.sub (ws' := [(h1, .inr (10, [.int 0, .int 0, .ref m_file, .int 0, .int 0, .ref m_bytes, .ref m_places, .ref m_lengths, .ref m_glyphCount, .ref m_ems, .ref m_wides, .ref m_forms, .ref m_parts, .ref m_charts, .ref m_pointCount, .ref m_contourCount, .ref m_depths, .ref m_xs, .ref m_ys, .ref m_ons, .ref m_contours, .int 0, .int 0, .int 0, .ref m_flags, .ref m_part, .int 0, .ref m_text, .int 0, .ref m_ringX, .ref m_ringY, .ref m_ringOn, .int 0, .ref m_curves, .ref m_windings, .ref m_rows]))]) [0] (by decide) rfl
  have hKc := hK.sub (tys' := []) [] rfl
  have hFc := va_free (wc := [(h1, .inr (10, [.int 0, .int 0, .ref m_file, .int 0, .int 0, .ref m_bytes, .ref m_places, .ref m_lengths, .ref m_glyphCount, .ref m_ems, .ref m_wides, .ref m_forms, .ref m_parts, .ref m_charts, .ref m_pointCount, .ref m_contourCount, .ref m_depths, .ref m_xs, .ref m_ys, .ref m_ons, .ref m_contours, .int 0, .int 0, .int 0, .ref m_flags, .ref m_part, .int 0, .ref m_text, .int 0, .ref m_ringX, .ref m_ringY, .ref m_ringOn, .int 0, .ref m_curves, .ref m_windings, .ref m_rows]))]) hD hS hA [0] rfl
  refine va_calli (va_runV (As := [.int le]) (rest := []) ⟨hx, hb, hml, hown, hts⟩ (c_MD_isGlyph l dC dI h1 m_file m_bytes m_places m_lengths m_glyphCount m_ems m_wides m_forms m_parts m_charts m_pointCount m_contourCount m_depths m_xs m_ys m_ons m_contours m_flags m_part m_text m_ringX m_ringY m_ringOn m_curves m_windings m_rows le s.heap.size) (cwV 1 hts (tw_inV w_1118 w_1120 wp_60 w_11 w_1121) rfl rfl rfl (by decide +kernel) ⟨Nat.le_of_ble_eq_true rfl, Nat.le_of_ble_eq_true rfl⟩) ⟨fun a U g mk q => by obtain ⟨q0, q1, qP, qK, qD⟩ := q; exact ⟨q0, q1, qP, va_K.moved (u := U) (U := U.calling g mk a) (Vm.Alike.refl U.vm) qK, qD⟩, va_recv (hK := hK) (hP := hP) (q0 := 0) (ci := 10) rfl rfl, fun U hU hW => ⟨rfl, by rw [hU], by rw [hU]; exact hPc, va_K.moved hW.alike hKc, hDc.weaken (fun _ _ _ _ => trivial)⟩⟩ rfl rfl hl.1 rfl (lv_room (Nat.le_of_ble_eq_true rfl)) d_MD_kerning_2 ⟨Nat.le_of_ble_eq_true rfl, Nat.le_of_ble_eq_true rfl⟩) hS (fun q _ h => hFc q h) hFc (fun r168 u t H1 locs ht hvm hw hB hz1 hk1 hS => ?_)
  obtain ⟨hP1, hK1, hD1⟩ := hB
  rw [ht] at hP1
  have hK1 := va_K.moved hvm.symm hK1
  obtain ⟨hP, hD⟩ := va_join (wr := []) (w1 := [(h1, .inr (10, [.int 0, .int 0, .ref m_file, .int 0, .int 0, .ref m_bytes, .ref m_places, .ref m_lengths, .ref m_glyphCount, .ref m_ems, .ref m_wides, .ref m_forms, .ref m_parts, .ref m_charts, .ref m_pointCount, .ref m_contourCount, .ref m_depths, .ref m_xs, .ref m_ys, .ref m_ons, .ref m_contours, .int 0, .int 0, .int 0, .ref m_flags, .ref m_part, .int 0, .ref m_text, .int 0, .ref m_ringX, .ref m_ringY, .ref m_ringOn, .int 0, .ref m_curves, .ref m_windings, .ref m_rows]))]) hP hD [0] [] rfl rfl (by decide) (by decide) hk1 hFc hP1 hD1
  have hK := (hK.sub (tys' := []) [] rfl).app hK1
  generalize H1 = H at hP hS ⊢
  have hP : va_P (dC, dI) cls_ [(h1, .inr (10, [.int 0, .int 0, .ref m_file, .int 0, .int 0, .ref m_bytes, .ref m_places, .ref m_lengths, .ref m_glyphCount, .ref m_ems, .ref m_wides, .ref m_forms, .ref m_parts, .ref m_charts, .ref m_pointCount, .ref m_contourCount, .ref m_depths, .ref m_xs, .ref m_ys, .ref m_ons, .ref m_contours, .int 0, .int 0, .int 0, .ref m_flags, .ref m_part, .int 0, .ref m_text, .int 0, .ref m_ringX, .ref m_ringY, .ref m_ringOn, .int 0, .ref m_curves, .ref m_windings, .ref m_rows]))] H := hP
  have hD : va_D A [(h1, .inr (10, [.int 0, .int 0, .ref m_file, .int 0, .int 0, .ref m_bytes, .ref m_places, .ref m_lengths, .ref m_glyphCount, .ref m_ems, .ref m_wides, .ref m_forms, .ref m_parts, .ref m_charts, .ref m_pointCount, .ref m_contourCount, .ref m_depths, .ref m_xs, .ref m_ys, .ref m_ons, .ref m_contours, .int 0, .int 0, .int 0, .ref m_flags, .ref m_part, .int 0, .ref m_text, .int 0, .ref m_ringX, .ref m_ringY, .ref m_ringOn, .int 0, .ref m_curves, .ref m_windings, .ref m_rows]))] := hD
  have hK : va_K (dC, dI) cls_ [] s := hK
  have hw : r168 = 0 := hw
  subst hw
  refine lv_if_eq (tgt := 20) hx hb d_MD_kerning_5 (by decide) (fun _ => ?_) (fun hc => absurd hc (by decide +kernel))
  refine lv_iconst (v := 0) hx hb d_MD_kerning_20 (by decide) ?_
  refine lv_istore_n (lv' := [(3, .int 0), (0, .ref h1), (1, .int le), (2, .int ri)]) hx hb d_MD_kerning_21 rfl hl (by decide) rfl (fun ls hl => ?_)
  refine lv_aload_n hx hb d_MD_kerning_22 rfl (lv_at hl 1 rfl) ?_
  refine lv_aload_n hx hb d_MD_kerning_23 rfl (lv_at hl 1 rfl) ?_
  refine va_get (D := (dC, dI)) (ci := 10) (v := .int 0) (C := R_MD) (T := F_MD) (N := 36) hx hb hts in_MD hown hK hP 0 rfl rfl 4 (by decide) (hts _ (List.mem_cons_of_mem _ w_856)) (fun _ h9 => h9) rfl d_MD_kerning_24 ?_
  refine lv_if_ne (tgt := 34) hx hb d_MD_kerning_27 (by decide) (fun hc => absurd hc (by decide +kernel)) (fun _ => ?_)
  refine lv_iconst (v := 1) hx hb d_MD_kerning_30 (by decide) ?_
  refine lv_goto (tgt := 43) hx hb d_MD_kerning_31 (by decide) ?_
  have hPc := hP.sub (ws' := [(h1, .inr (10, [.int 0, .int 0, .ref m_file, .int 0, .int 0, .ref m_bytes, .ref m_places, .ref m_lengths, .ref m_glyphCount, .ref m_ems, .ref m_wides, .ref m_forms, .ref m_parts, .ref m_charts, .ref m_pointCount, .ref m_contourCount, .ref m_depths, .ref m_xs, .ref m_ys, .ref m_ons, .ref m_contours, .int 0, .int 0, .int 0, .ref m_flags, .ref m_part, .int 0, .ref m_text, .int 0, .ref m_ringX, .ref m_ringY, .ref m_ringOn, .int 0, .ref m_curves, .ref m_windings, .ref m_rows]))]) [0] rfl
  have hDc := hD.sub (ws' := [(h1, .inr (10, [.int 0, .int 0, .ref m_file, .int 0, .int 0, .ref m_bytes, .ref m_places, .ref m_lengths, .ref m_glyphCount, .ref m_ems, .ref m_wides, .ref m_forms, .ref m_parts, .ref m_charts, .ref m_pointCount, .ref m_contourCount, .ref m_depths, .ref m_xs, .ref m_ys, .ref m_ons, .ref m_contours, .int 0, .int 0, .int 0, .ref m_flags, .ref m_part, .int 0, .ref m_text, .int 0, .ref m_ringX, .ref m_ringY, .ref m_ringOn, .int 0, .ref m_curves, .ref m_windings, .ref m_rows]))]) [0] (by decide) rfl
  have hKc := hK.sub (tys' := []) [] rfl
  have hFc := va_free (wc := [(h1, .inr (10, [.int 0, .int 0, .ref m_file, .int 0, .int 0, .ref m_bytes, .ref m_places, .ref m_lengths, .ref m_glyphCount, .ref m_ems, .ref m_wides, .ref m_forms, .ref m_parts, .ref m_charts, .ref m_pointCount, .ref m_contourCount, .ref m_depths, .ref m_xs, .ref m_ys, .ref m_ons, .ref m_contours, .int 0, .int 0, .int 0, .ref m_flags, .ref m_part, .int 0, .ref m_text, .int 0, .ref m_ringX, .ref m_ringY, .ref m_ringOn, .int 0, .ref m_curves, .ref m_windings, .ref m_rows]))]) hD hS hA [0] rfl
  refine va_calli (va_runV (As := [.int 1]) (rest := []) ⟨hx, hb, hml, hown, hts⟩ (c_MD_refused_1 l dC dI h1 m_file m_bytes m_places m_lengths m_glyphCount m_ems m_wides m_forms m_parts m_charts m_pointCount m_contourCount m_depths m_xs m_ys m_ons m_contours m_flags m_part m_text m_ringX m_ringY m_ringOn m_curves m_windings m_rows H.size) (cwV 1 hts (tw_inV w_973 w_975 wp_34 w_11 w_976) rfl rfl rfl (by decide +kernel) ⟨Nat.le_of_ble_eq_true rfl, Nat.le_of_ble_eq_true rfl⟩) ⟨fun a U g mk q => by obtain ⟨q0, q1, qP, qK, qD⟩ := q; exact ⟨q0, q1, qP, va_K.moved (u := U) (U := U.calling g mk a) (Vm.Alike.refl U.vm) qK, qD⟩, va_recv (hK := hK) (hP := hP) (q0 := 0) (ci := 10) rfl rfl, fun U hU hW => ⟨rfl, by rw [hU], by rw [hU]; exact hPc, va_K.moved hW.alike hKc, hDc.weaken (fun _ _ _ _ => trivial)⟩⟩ rfl rfl hl.1 rfl (lv_room (Nat.le_of_ble_eq_true rfl)) d_MD_kerning_43 ⟨Nat.le_of_ble_eq_true rfl, Nat.le_of_ble_eq_true rfl⟩) hS (fun q _ h => hFc q h) hFc (fun r169 u t H1 locs ht hvm hw hB hz1 hk1 hS => ?_)
  obtain ⟨hP1, hK1, hD1⟩ := hB
  rw [ht] at hP1
  have hK1 := va_K.moved hvm.symm hK1
  obtain ⟨hP, hD⟩ := va_join (wr := []) (w1 := [(h1, .inr (10, [.int 1, .int 0, .ref m_file, .int 0, .int 0, .ref m_bytes, .ref m_places, .ref m_lengths, .ref m_glyphCount, .ref m_ems, .ref m_wides, .ref m_forms, .ref m_parts, .ref m_charts, .ref m_pointCount, .ref m_contourCount, .ref m_depths, .ref m_xs, .ref m_ys, .ref m_ons, .ref m_contours, .int 0, .int 0, .int 0, .ref m_flags, .ref m_part, .int 0, .ref m_text, .int 0, .ref m_ringX, .ref m_ringY, .ref m_ringOn, .int 0, .ref m_curves, .ref m_windings, .ref m_rows]))]) hP hD [0] [] rfl rfl (by decide) (by decide) hk1 hFc hP1 hD1
  have hK := (hK.sub (tys' := []) [] rfl).app hK1
  generalize H1 = H at hP hS ⊢
  have hP : va_P (dC, dI) cls_ [(h1, .inr (10, [.int 1, .int 0, .ref m_file, .int 0, .int 0, .ref m_bytes, .ref m_places, .ref m_lengths, .ref m_glyphCount, .ref m_ems, .ref m_wides, .ref m_forms, .ref m_parts, .ref m_charts, .ref m_pointCount, .ref m_contourCount, .ref m_depths, .ref m_xs, .ref m_ys, .ref m_ons, .ref m_contours, .int 0, .int 0, .int 0, .ref m_flags, .ref m_part, .int 0, .ref m_text, .int 0, .ref m_ringX, .ref m_ringY, .ref m_ringOn, .int 0, .ref m_curves, .ref m_windings, .ref m_rows]))] H := hP
  have hD : va_D A [(h1, .inr (10, [.int 1, .int 0, .ref m_file, .int 0, .int 0, .ref m_bytes, .ref m_places, .ref m_lengths, .ref m_glyphCount, .ref m_ems, .ref m_wides, .ref m_forms, .ref m_parts, .ref m_charts, .ref m_pointCount, .ref m_contourCount, .ref m_depths, .ref m_xs, .ref m_ys, .ref m_ons, .ref m_contours, .int 0, .int 0, .int 0, .ref m_flags, .ref m_part, .int 0, .ref m_text, .int 0, .ref m_ringX, .ref m_ringY, .ref m_ringOn, .int 0, .ref m_curves, .ref m_windings, .ref m_rows]))] := hD
  have hK : va_K (dC, dI) cls_ [] s := hK
  have hw : r169 = 1 := hw
  subst hw
  refine lv_if_eq (tgt := 53) hx hb d_MD_kerning_46 (by decide) (fun hc => absurd hc (by decide +kernel)) (fun _ => ?_)
  refine lv_iconst (v := 0) hx hb d_MD_kerning_49 (by decide) ?_
  refine lv_goto (tgt := 59) hx hb d_MD_kerning_50 (by decide) ?_
  refine W.widen (k := 0) (n := 0) (Nat.le_of_ble_eq_true rfl) (Nat.le_of_ble_eq_true rfl) ?_
  have hP9 := hP.sub (ws' := [(h1, .inr (10, [.int 1, .int 0, .ref m_file, .int 0, .int 0, .ref m_bytes, .ref m_places, .ref m_lengths, .ref m_glyphCount, .ref m_ems, .ref m_wides, .ref m_forms, .ref m_parts, .ref m_charts, .ref m_pointCount, .ref m_contourCount, .ref m_depths, .ref m_xs, .ref m_ys, .ref m_ons, .ref m_contours, .int 0, .int 0, .int 0, .ref m_flags, .ref m_part, .int 0, .ref m_text, .int 0, .ref m_ringX, .ref m_ringY, .ref m_ringOn, .int 0, .ref m_curves, .ref m_windings, .ref m_rows]))]) [0] rfl
  have hD9 := hD.sub (ws' := [(h1, .inr (10, [.int 1, .int 0, .ref m_file, .int 0, .int 0, .ref m_bytes, .ref m_places, .ref m_lengths, .ref m_glyphCount, .ref m_ems, .ref m_wides, .ref m_forms, .ref m_parts, .ref m_charts, .ref m_pointCount, .ref m_contourCount, .ref m_depths, .ref m_xs, .ref m_ys, .ref m_ons, .ref m_contours, .int 0, .int 0, .int 0, .ref m_flags, .ref m_part, .int 0, .ref m_text, .int 0, .ref m_ringX, .ref m_ringY, .ref m_ringOn, .int 0, .ref m_curves, .ref m_windings, .ref m_rows]))]) [0] (by decide) rfl
  have hK9 := hK.sub (tys' := []) [] rfl
  exact W.iret (v := 0) hx hb hr (fun t ht hW => ⟨⟨0, (), rfl, trivial, by rw [ht]; exact hP9, va_K.moved hW.alike hK9, hD9⟩, hS.F ht⟩) hS.2.2 d_MD_kerning_59
set_option maxHeartbeats 4000000 in
set_option maxRecDepth 100000 in
/-- GlyphLinesModel.paint -/
theorem c_MD_paint (l : Launch) (dC : Nat → ClassId) (dI : Nat → Nat → Nat) (h1 m_file m_bytes m_places m_lengths m_glyphCount m_ems m_wides m_forms m_parts m_charts m_pointCount m_contourCount m_depths m_xs m_ys m_ons m_contours m_flags m_part m_text m_ringX m_ringY m_ringOn m_curves m_windings m_rows : Nat) (pp : Int32) (sz : Nat) : Met l y_MD_paint s_MD_paint ({ frames := 10, cells := 0, slots := 0, locals := 300 }) (va_Pc [.ref h1, .int pp] (fun U => U.heap.size = sz ∧ va_P (dC, dI) cls_ [(h1, .inr (10, [.int 0, .int 0, .ref m_file, .int 0, .int 0, .ref m_bytes, .ref m_places, .ref m_lengths, .ref m_glyphCount, .ref m_ems, .ref m_wides, .ref m_forms, .ref m_parts, .ref m_charts, .ref m_pointCount, .ref m_contourCount, .ref m_depths, .ref m_xs, .ref m_ys, .ref m_ons, .ref m_contours, .int 0, .int 0, .int 0, .ref m_flags, .ref m_part, .int 0, .ref m_text, .int 0, .ref m_ringX, .ref m_ringY, .ref m_ringOn, .int 0, .ref m_curves, .ref m_windings, .ref m_rows]))] U.heap ∧ va_K (dC, dI) cls_ [] U ∧ va_D (fun _ => True) [(h1, .inr (10, [.int 0, .int 0, .ref m_file, .int 0, .int 0, .ref m_bytes, .ref m_places, .ref m_lengths, .ref m_glyphCount, .ref m_ems, .ref m_wides, .ref m_forms, .ref m_parts, .ref m_charts, .ref m_pointCount, .ref m_contourCount, .ref m_depths, .ref m_xs, .ref m_ys, .ref m_ons, .ref m_contours, .int 0, .int 0, .int 0, .ref m_flags, .ref m_part, .int 0, .ref m_text, .int 0, .ref m_ringX, .ref m_ringY, .ref m_ringOn, .int 0, .ref m_curves, .ref m_windings, .ref m_rows]))])) (va_Qi (fun (r : Int32) (_ : Unit) => True) (fun (_ : Unit) (t : State) => va_P (dC, dI) cls_ [(h1, .inr (10, [.int 1, .int 0, .ref m_file, .int 0, .int 0, .ref m_bytes, .ref m_places, .ref m_lengths, .ref m_glyphCount, .ref m_ems, .ref m_wides, .ref m_forms, .ref m_parts, .ref m_charts, .ref m_pointCount, .ref m_contourCount, .ref m_depths, .ref m_xs, .ref m_ys, .ref m_ons, .ref m_contours, .int 0, .int 0, .int 0, .ref m_flags, .ref m_part, .int 0, .ref m_text, .int 0, .ref m_ringX, .ref m_ringY, .ref m_ringOn, .int 0, .ref m_curves, .ref m_windings, .ref m_rows]))] t.heap ∧ va_K (dC, dI) cls_ [] t ∧ va_D (va_A [(h1, .inr (10, [.int 0, .int 0, .ref m_file, .int 0, .int 0, .ref m_bytes, .ref m_places, .ref m_lengths, .ref m_glyphCount, .ref m_ems, .ref m_wides, .ref m_forms, .ref m_parts, .ref m_charts, .ref m_pointCount, .ref m_contourCount, .ref m_depths, .ref m_xs, .ref m_ys, .ref m_ons, .ref m_contours, .int 0, .int 0, .int 0, .ref m_flags, .ref m_part, .int 0, .ref m_text, .int 0, .ref m_ringX, .ref m_ringY, .ref m_ringOn, .int 0, .ref m_curves, .ref m_windings, .ref m_rows]))] sz) [(h1, .inr (10, [.int 1, .int 0, .ref m_file, .int 0, .int 0, .ref m_bytes, .ref m_places, .ref m_lengths, .ref m_glyphCount, .ref m_ems, .ref m_wides, .ref m_forms, .ref m_parts, .ref m_charts, .ref m_pointCount, .ref m_contourCount, .ref m_depths, .ref m_xs, .ref m_ys, .ref m_ons, .ref m_contours, .int 0, .int 0, .int 0, .ref m_flags, .ref m_part, .int 0, .ref m_text, .int 0, .ref m_ringX, .ref m_ringY, .ref m_ringOn, .int 0, .ref m_curves, .ref m_windings, .ref m_rows]))]) (va_A [(h1, .inr (10, [.int 0, .int 0, .ref m_file, .int 0, .int 0, .ref m_bytes, .ref m_places, .ref m_lengths, .ref m_glyphCount, .ref m_ems, .ref m_wides, .ref m_forms, .ref m_parts, .ref m_charts, .ref m_pointCount, .ref m_contourCount, .ref m_depths, .ref m_xs, .ref m_ys, .ref m_ons, .ref m_contours, .int 0, .int 0, .int 0, .ref m_flags, .ref m_part, .int 0, .ref m_text, .int 0, .ref m_ringX, .ref m_ringY, .ref m_ringOn, .int 0, .ref m_curves, .ref m_windings, .ref m_rows]))] sz)) 0 0 (va_A [(h1, .inr (10, [.int 0, .int 0, .ref m_file, .int 0, .int 0, .ref m_bytes, .ref m_places, .ref m_lengths, .ref m_glyphCount, .ref m_ems, .ref m_wides, .ref m_forms, .ref m_parts, .ref m_charts, .ref m_pointCount, .ref m_contourCount, .ref m_depths, .ref m_xs, .ref m_ys, .ref m_ons, .ref m_contours, .int 0, .int 0, .int 0, .ref m_flags, .ref m_part, .int 0, .ref m_text, .int 0, .ref m_ringX, .ref m_ringY, .ref m_ringOn, .int 0, .ref m_curves, .ref m_windings, .ref m_rows]))] sz) := by
  refine Met.ofW (cc := b_MD_paint) (maxL := 6) (ret := (some .int)) (by decide) rfl ?_
  intro p e s m args below meth c s₁ B hml hv
  obtain ⟨rfl, hsz, hP, hK, hD0⟩ := hv
  have hx := B.exec
  have hb := B.bytes
  have hr := B.returns
  have hts := atoms_spec (ws := s_MD_paint) B.pre
  have hown : s.vm.findClass R_MD = some m.cls := findClass_of_methodNamed B.named
  have hlocks := B.notSynchronized
  subst hsz
  have hD := hD0.self (sz := s.heap.size)
  generalize hAe : va_A [(h1, .inr (10, [.int 0, .int 0, .ref m_file, .int 0, .int 0, .ref m_bytes, .ref m_places, .ref m_lengths, .ref m_glyphCount, .ref m_ems, .ref m_wides, .ref m_forms, .ref m_parts, .ref m_charts, .ref m_pointCount, .ref m_contourCount, .ref m_depths, .ref m_xs, .ref m_ys, .ref m_ons, .ref m_contours, .int 0, .int 0, .int 0, .ref m_flags, .ref m_part, .int 0, .ref m_text, .int 0, .ref m_ringX, .ref m_ringY, .ref m_ringOn, .int 0, .ref m_curves, .ref m_windings, .ref m_rows]))] s.heap.size = A at hD ⊢
  have hA : ∀ q : Nat, s.heap.size ≤ q → A q := fun q h => by rw [← hAe]; exact Or.inr h
  have hS : va_S A s.heap s.heap [] := va_S.rf
  have hP : va_P (dC, dI) cls_ [(h1, .inr (10, [.int 0, .int 0, .ref m_file, .int 0, .int 0, .ref m_bytes, .ref m_places, .ref m_lengths, .ref m_glyphCount, .ref m_ems, .ref m_wides, .ref m_forms, .ref m_parts, .ref m_charts, .ref m_pointCount, .ref m_contourCount, .ref m_depths, .ref m_xs, .ref m_ys, .ref m_ons, .ref m_contours, .int 0, .int 0, .int 0, .ref m_flags, .ref m_part, .int 0, .ref m_text, .int 0, .ref m_ringX, .ref m_ringY, .ref m_ringOn, .int 0, .ref m_curves, .ref m_windings, .ref m_rows]))] s.heap := hP
  have hl := lv_entry ([.ref h1, .int pp]) (n := 6) (Nat.le_of_ble_eq_true rfl)
  rw [lg_entry_eq]
  generalize (lg_sl ([.ref h1, .int pp]) ++ List.replicate (6 - (lg_sl ([.ref h1, .int pp])).length) Slot.unset).toArray = ls at hl ⊢
  have hl : lv_has ls 6 [(0, .ref h1), (1, .int pp)] := hl
  refine lv_aload_n hx hb d_MD_paint_0 rfl (lv_at hl 0 rfl) ?_
  refine lv_aload_n hx hb d_MD_paint_1 rfl (lv_at hl 0 rfl) ?_
  refine va_get (D := (dC, dI)) (ci := 10) (v := .int 0) (C := R_MD) (T := F_MD) (N := 36) hx hb hts in_MD hown hK hP 0 rfl rfl 4 (by decide) (hts _ (List.mem_cons_of_mem _ w_856)) (fun _ h9 => h9) rfl d_MD_paint_2 ?_
  refine lv_if_ne (tgt := 12) hx hb d_MD_paint_5 (by decide) (fun hc => absurd hc (by decide +kernel)) (fun _ => ?_)
  refine lv_iconst (v := 1) hx hb d_MD_paint_8 (by decide) ?_
  refine lv_goto (tgt := 28) hx hb d_MD_paint_9 (by decide) ?_
  have hPc := hP.sub (ws' := [(h1, .inr (10, [.int 0, .int 0, .ref m_file, .int 0, .int 0, .ref m_bytes, .ref m_places, .ref m_lengths, .ref m_glyphCount, .ref m_ems, .ref m_wides, .ref m_forms, .ref m_parts, .ref m_charts, .ref m_pointCount, .ref m_contourCount, .ref m_depths, .ref m_xs, .ref m_ys, .ref m_ons, .ref m_contours, .int 0, .int 0, .int 0, .ref m_flags, .ref m_part, .int 0, .ref m_text, .int 0, .ref m_ringX, .ref m_ringY, .ref m_ringOn, .int 0, .ref m_curves, .ref m_windings, .ref m_rows]))]) [0] rfl
  have hDc := hD.sub (ws' := [(h1, .inr (10, [.int 0, .int 0, .ref m_file, .int 0, .int 0, .ref m_bytes, .ref m_places, .ref m_lengths, .ref m_glyphCount, .ref m_ems, .ref m_wides, .ref m_forms, .ref m_parts, .ref m_charts, .ref m_pointCount, .ref m_contourCount, .ref m_depths, .ref m_xs, .ref m_ys, .ref m_ons, .ref m_contours, .int 0, .int 0, .int 0, .ref m_flags, .ref m_part, .int 0, .ref m_text, .int 0, .ref m_ringX, .ref m_ringY, .ref m_ringOn, .int 0, .ref m_curves, .ref m_windings, .ref m_rows]))]) [0] (by decide) rfl
  have hKc := hK.sub (tys' := []) [] rfl
  have hFc := va_free (wc := [(h1, .inr (10, [.int 0, .int 0, .ref m_file, .int 0, .int 0, .ref m_bytes, .ref m_places, .ref m_lengths, .ref m_glyphCount, .ref m_ems, .ref m_wides, .ref m_forms, .ref m_parts, .ref m_charts, .ref m_pointCount, .ref m_contourCount, .ref m_depths, .ref m_xs, .ref m_ys, .ref m_ons, .ref m_contours, .int 0, .int 0, .int 0, .ref m_flags, .ref m_part, .int 0, .ref m_text, .int 0, .ref m_ringX, .ref m_ringY, .ref m_ringOn, .int 0, .ref m_curves, .ref m_windings, .ref m_rows]))]) hD hS hA [0] rfl
  refine va_calli (va_runV (As := [.int 1]) (rest := []) ⟨hx, hb, hml, hown, hts⟩ (c_MD_refused_1 l dC dI h1 m_file m_bytes m_places m_lengths m_glyphCount m_ems m_wides m_forms m_parts m_charts m_pointCount m_contourCount m_depths m_xs m_ys m_ons m_contours m_flags m_part m_text m_ringX m_ringY m_ringOn m_curves m_windings m_rows s.heap.size) (cwV 1 hts (tw_inV w_973 w_975 wp_34 w_11 w_976) rfl rfl rfl (by decide +kernel) ⟨Nat.le_of_ble_eq_true rfl, Nat.le_of_ble_eq_true rfl⟩) ⟨fun a U g mk q => by obtain ⟨q0, q1, qP, qK, qD⟩ := q; exact ⟨q0, q1, qP, va_K.moved (u := U) (U := U.calling g mk a) (Vm.Alike.refl U.vm) qK, qD⟩, va_recv (hK := hK) (hP := hP) (q0 := 0) (ci := 10) rfl rfl, fun U hU hW => ⟨rfl, by rw [hU], by rw [hU]; exact hPc, va_K.moved hW.alike hKc, hDc.weaken (fun _ _ _ _ => trivial)⟩⟩ rfl rfl hl.1 rfl (lv_room (Nat.le_of_ble_eq_true rfl)) d_MD_paint_28 ⟨Nat.le_of_ble_eq_true rfl, Nat.le_of_ble_eq_true rfl⟩) hS (fun q _ h => hFc q h) hFc (fun r170 u t H1 locs ht hvm hw hB hz1 hk1 hS => ?_)
  obtain ⟨hP1, hK1, hD1⟩ := hB
  rw [ht] at hP1
  have hK1 := va_K.moved hvm.symm hK1
  obtain ⟨hP, hD⟩ := va_join (wr := []) (w1 := [(h1, .inr (10, [.int 1, .int 0, .ref m_file, .int 0, .int 0, .ref m_bytes, .ref m_places, .ref m_lengths, .ref m_glyphCount, .ref m_ems, .ref m_wides, .ref m_forms, .ref m_parts, .ref m_charts, .ref m_pointCount, .ref m_contourCount, .ref m_depths, .ref m_xs, .ref m_ys, .ref m_ons, .ref m_contours, .int 0, .int 0, .int 0, .ref m_flags, .ref m_part, .int 0, .ref m_text, .int 0, .ref m_ringX, .ref m_ringY, .ref m_ringOn, .int 0, .ref m_curves, .ref m_windings, .ref m_rows]))]) hP hD [0] [] rfl rfl (by decide) (by decide) hk1 hFc hP1 hD1
  have hK := (hK.sub (tys' := []) [] rfl).app hK1
  generalize H1 = H at hP hS ⊢
  have hP : va_P (dC, dI) cls_ [(h1, .inr (10, [.int 1, .int 0, .ref m_file, .int 0, .int 0, .ref m_bytes, .ref m_places, .ref m_lengths, .ref m_glyphCount, .ref m_ems, .ref m_wides, .ref m_forms, .ref m_parts, .ref m_charts, .ref m_pointCount, .ref m_contourCount, .ref m_depths, .ref m_xs, .ref m_ys, .ref m_ons, .ref m_contours, .int 0, .int 0, .int 0, .ref m_flags, .ref m_part, .int 0, .ref m_text, .int 0, .ref m_ringX, .ref m_ringY, .ref m_ringOn, .int 0, .ref m_curves, .ref m_windings, .ref m_rows]))] H := hP
  have hD : va_D A [(h1, .inr (10, [.int 1, .int 0, .ref m_file, .int 0, .int 0, .ref m_bytes, .ref m_places, .ref m_lengths, .ref m_glyphCount, .ref m_ems, .ref m_wides, .ref m_forms, .ref m_parts, .ref m_charts, .ref m_pointCount, .ref m_contourCount, .ref m_depths, .ref m_xs, .ref m_ys, .ref m_ons, .ref m_contours, .int 0, .int 0, .int 0, .ref m_flags, .ref m_part, .int 0, .ref m_text, .int 0, .ref m_ringX, .ref m_ringY, .ref m_ringOn, .int 0, .ref m_curves, .ref m_windings, .ref m_rows]))] := hD
  have hK : va_K (dC, dI) cls_ [] s := hK
  have hw : r170 = 1 := hw
  subst hw
  refine lv_if_eq (tgt := 36) hx hb d_MD_paint_31 (by decide) (fun hc => absurd hc (by decide +kernel)) (fun _ => ?_)
  refine lv_iconst (v := 0) hx hb d_MD_paint_34 (by decide) ?_
  refine W.widen (k := 0) (n := 0) (Nat.le_of_ble_eq_true rfl) (Nat.le_of_ble_eq_true rfl) ?_
  have hP9 := hP.sub (ws' := [(h1, .inr (10, [.int 1, .int 0, .ref m_file, .int 0, .int 0, .ref m_bytes, .ref m_places, .ref m_lengths, .ref m_glyphCount, .ref m_ems, .ref m_wides, .ref m_forms, .ref m_parts, .ref m_charts, .ref m_pointCount, .ref m_contourCount, .ref m_depths, .ref m_xs, .ref m_ys, .ref m_ons, .ref m_contours, .int 0, .int 0, .int 0, .ref m_flags, .ref m_part, .int 0, .ref m_text, .int 0, .ref m_ringX, .ref m_ringY, .ref m_ringOn, .int 0, .ref m_curves, .ref m_windings, .ref m_rows]))]) [0] rfl
  have hD9 := hD.sub (ws' := [(h1, .inr (10, [.int 1, .int 0, .ref m_file, .int 0, .int 0, .ref m_bytes, .ref m_places, .ref m_lengths, .ref m_glyphCount, .ref m_ems, .ref m_wides, .ref m_forms, .ref m_parts, .ref m_charts, .ref m_pointCount, .ref m_contourCount, .ref m_depths, .ref m_xs, .ref m_ys, .ref m_ons, .ref m_contours, .int 0, .int 0, .int 0, .ref m_flags, .ref m_part, .int 0, .ref m_text, .int 0, .ref m_ringX, .ref m_ringY, .ref m_ringOn, .int 0, .ref m_curves, .ref m_windings, .ref m_rows]))]) [0] (by decide) rfl
  have hK9 := hK.sub (tys' := []) [] rfl
  exact W.iret (v := 0) hx hb hr (fun t ht hW => ⟨⟨0, (), rfl, trivial, by rw [ht]; exact hP9, va_K.moved hW.alike hK9, hD9⟩, hS.F ht⟩) hS.2.2 d_MD_paint_35
set_option maxHeartbeats 4000000 in
set_option maxRecDepth 100000 in
/-- GlyphLinesModel.row -/
theorem c_MD_row_t (l : Launch) (dC : Nat → ClassId) (dI : Nat → Nat → Nat) (h1 m_file m_bytes m_places m_lengths m_glyphCount m_ems m_wides m_forms m_parts m_charts m_pointCount m_contourCount m_depths m_xs m_ys m_ons m_contours m_flags m_part m_text m_ringX m_ringY m_ringOn m_curves m_windings m_rows : Nat) (r : Int32) (sz : Nat) (hm : r < 0 ∨ ¬ r < 24) : Met l y_MD_row s_MD_row ({ frames := 10, cells := 0, slots := 0, locals := 300 }) (va_Pc [.ref h1, .int r] (fun U => U.heap.size = sz ∧ va_P (dC, dI) cls_ [(h1, .inr (10, [.int 0, .int 0, .ref m_file, .int 0, .int 0, .ref m_bytes, .ref m_places, .ref m_lengths, .ref m_glyphCount, .ref m_ems, .ref m_wides, .ref m_forms, .ref m_parts, .ref m_charts, .ref m_pointCount, .ref m_contourCount, .ref m_depths, .ref m_xs, .ref m_ys, .ref m_ons, .ref m_contours, .int 0, .int 0, .int 0, .ref m_flags, .ref m_part, .int 0, .ref m_text, .int 0, .ref m_ringX, .ref m_ringY, .ref m_ringOn, .int 0, .ref m_curves, .ref m_windings, .ref m_rows]))] U.heap ∧ va_K (dC, dI) cls_ [] U ∧ va_D (fun _ => True) [(h1, .inr (10, [.int 0, .int 0, .ref m_file, .int 0, .int 0, .ref m_bytes, .ref m_places, .ref m_lengths, .ref m_glyphCount, .ref m_ems, .ref m_wides, .ref m_forms, .ref m_parts, .ref m_charts, .ref m_pointCount, .ref m_contourCount, .ref m_depths, .ref m_xs, .ref m_ys, .ref m_ons, .ref m_contours, .int 0, .int 0, .int 0, .ref m_flags, .ref m_part, .int 0, .ref m_text, .int 0, .ref m_ringX, .ref m_ringY, .ref m_ringOn, .int 0, .ref m_curves, .ref m_windings, .ref m_rows]))])) (va_Ql (fun (r : Int64) (_ : Unit) => True) (fun (_ : Unit) (t : State) => va_P (dC, dI) cls_ [(h1, .inr (10, [.int 1, .int 0, .ref m_file, .int 0, .int 0, .ref m_bytes, .ref m_places, .ref m_lengths, .ref m_glyphCount, .ref m_ems, .ref m_wides, .ref m_forms, .ref m_parts, .ref m_charts, .ref m_pointCount, .ref m_contourCount, .ref m_depths, .ref m_xs, .ref m_ys, .ref m_ons, .ref m_contours, .int 0, .int 0, .int 0, .ref m_flags, .ref m_part, .int 0, .ref m_text, .int 0, .ref m_ringX, .ref m_ringY, .ref m_ringOn, .int 0, .ref m_curves, .ref m_windings, .ref m_rows]))] t.heap ∧ va_K (dC, dI) cls_ [] t ∧ va_D (va_A [(h1, .inr (10, [.int 0, .int 0, .ref m_file, .int 0, .int 0, .ref m_bytes, .ref m_places, .ref m_lengths, .ref m_glyphCount, .ref m_ems, .ref m_wides, .ref m_forms, .ref m_parts, .ref m_charts, .ref m_pointCount, .ref m_contourCount, .ref m_depths, .ref m_xs, .ref m_ys, .ref m_ons, .ref m_contours, .int 0, .int 0, .int 0, .ref m_flags, .ref m_part, .int 0, .ref m_text, .int 0, .ref m_ringX, .ref m_ringY, .ref m_ringOn, .int 0, .ref m_curves, .ref m_windings, .ref m_rows]))] sz) [(h1, .inr (10, [.int 1, .int 0, .ref m_file, .int 0, .int 0, .ref m_bytes, .ref m_places, .ref m_lengths, .ref m_glyphCount, .ref m_ems, .ref m_wides, .ref m_forms, .ref m_parts, .ref m_charts, .ref m_pointCount, .ref m_contourCount, .ref m_depths, .ref m_xs, .ref m_ys, .ref m_ons, .ref m_contours, .int 0, .int 0, .int 0, .ref m_flags, .ref m_part, .int 0, .ref m_text, .int 0, .ref m_ringX, .ref m_ringY, .ref m_ringOn, .int 0, .ref m_curves, .ref m_windings, .ref m_rows]))]) (va_A [(h1, .inr (10, [.int 0, .int 0, .ref m_file, .int 0, .int 0, .ref m_bytes, .ref m_places, .ref m_lengths, .ref m_glyphCount, .ref m_ems, .ref m_wides, .ref m_forms, .ref m_parts, .ref m_charts, .ref m_pointCount, .ref m_contourCount, .ref m_depths, .ref m_xs, .ref m_ys, .ref m_ons, .ref m_contours, .int 0, .int 0, .int 0, .ref m_flags, .ref m_part, .int 0, .ref m_text, .int 0, .ref m_ringX, .ref m_ringY, .ref m_ringOn, .int 0, .ref m_curves, .ref m_windings, .ref m_rows]))] sz)) 0 0 (va_A [(h1, .inr (10, [.int 0, .int 0, .ref m_file, .int 0, .int 0, .ref m_bytes, .ref m_places, .ref m_lengths, .ref m_glyphCount, .ref m_ems, .ref m_wides, .ref m_forms, .ref m_parts, .ref m_charts, .ref m_pointCount, .ref m_contourCount, .ref m_depths, .ref m_xs, .ref m_ys, .ref m_ons, .ref m_contours, .int 0, .int 0, .int 0, .ref m_flags, .ref m_part, .int 0, .ref m_text, .int 0, .ref m_ringX, .ref m_ringY, .ref m_ringOn, .int 0, .ref m_curves, .ref m_windings, .ref m_rows]))] sz) := by
  refine Met.ofW (cc := b_MD_row) (maxL := 2) (ret := (some .long)) (by decide) rfl ?_
  intro p e s m args below meth c s₁ B hml hv
  obtain ⟨rfl, hsz, hP, hK, hD0⟩ := hv
  have hx := B.exec
  have hb := B.bytes
  have hr := B.returns
  have hts := atoms_spec (ws := s_MD_row) B.pre
  have hown : s.vm.findClass R_MD = some m.cls := findClass_of_methodNamed B.named
  have hlocks := B.notSynchronized
  subst hsz
  have hD := hD0.self (sz := s.heap.size)
  generalize hAe : va_A [(h1, .inr (10, [.int 0, .int 0, .ref m_file, .int 0, .int 0, .ref m_bytes, .ref m_places, .ref m_lengths, .ref m_glyphCount, .ref m_ems, .ref m_wides, .ref m_forms, .ref m_parts, .ref m_charts, .ref m_pointCount, .ref m_contourCount, .ref m_depths, .ref m_xs, .ref m_ys, .ref m_ons, .ref m_contours, .int 0, .int 0, .int 0, .ref m_flags, .ref m_part, .int 0, .ref m_text, .int 0, .ref m_ringX, .ref m_ringY, .ref m_ringOn, .int 0, .ref m_curves, .ref m_windings, .ref m_rows]))] s.heap.size = A at hD ⊢
  have hA : ∀ q : Nat, s.heap.size ≤ q → A q := fun q h => by rw [← hAe]; exact Or.inr h
  have hS : va_S A s.heap s.heap [] := va_S.rf
  have hP : va_P (dC, dI) cls_ [(h1, .inr (10, [.int 0, .int 0, .ref m_file, .int 0, .int 0, .ref m_bytes, .ref m_places, .ref m_lengths, .ref m_glyphCount, .ref m_ems, .ref m_wides, .ref m_forms, .ref m_parts, .ref m_charts, .ref m_pointCount, .ref m_contourCount, .ref m_depths, .ref m_xs, .ref m_ys, .ref m_ons, .ref m_contours, .int 0, .int 0, .int 0, .ref m_flags, .ref m_part, .int 0, .ref m_text, .int 0, .ref m_ringX, .ref m_ringY, .ref m_ringOn, .int 0, .ref m_curves, .ref m_windings, .ref m_rows]))] s.heap := hP
  have hl := lv_entry ([.ref h1, .int r]) (n := 2) (Nat.le_of_ble_eq_true rfl)
  rw [lg_entry_eq]
  generalize (lg_sl ([.ref h1, .int r]) ++ List.replicate (2 - (lg_sl ([.ref h1, .int r])).length) Slot.unset).toArray = ls at hl ⊢
  have hl : lv_has ls 2 [(0, .ref h1), (1, .int r)] := hl
  refine lv_aload_n hx hb d_MD_row_0 rfl (lv_at hl 0 rfl) ?_
  refine lv_iload_n hx hb d_MD_row_1 rfl (lv_at hl 1 rfl) ?_
  refine lv_if_lt (tgt := 11) hx hb d_MD_row_2 (by decide) (fun hc171 => ?_) (fun hc171 => ?_)
  · skip
    refine lv_iconst (v := 1) hx hb d_MD_row_11 (by decide) ?_
    refine lv_goto (tgt := 16) hx hb d_MD_row_12 (by decide) ?_
    have hPc := hP.sub (ws' := [(h1, .inr (10, [.int 0, .int 0, .ref m_file, .int 0, .int 0, .ref m_bytes, .ref m_places, .ref m_lengths, .ref m_glyphCount, .ref m_ems, .ref m_wides, .ref m_forms, .ref m_parts, .ref m_charts, .ref m_pointCount, .ref m_contourCount, .ref m_depths, .ref m_xs, .ref m_ys, .ref m_ons, .ref m_contours, .int 0, .int 0, .int 0, .ref m_flags, .ref m_part, .int 0, .ref m_text, .int 0, .ref m_ringX, .ref m_ringY, .ref m_ringOn, .int 0, .ref m_curves, .ref m_windings, .ref m_rows]))]) [0] rfl
    have hDc := hD.sub (ws' := [(h1, .inr (10, [.int 0, .int 0, .ref m_file, .int 0, .int 0, .ref m_bytes, .ref m_places, .ref m_lengths, .ref m_glyphCount, .ref m_ems, .ref m_wides, .ref m_forms, .ref m_parts, .ref m_charts, .ref m_pointCount, .ref m_contourCount, .ref m_depths, .ref m_xs, .ref m_ys, .ref m_ons, .ref m_contours, .int 0, .int 0, .int 0, .ref m_flags, .ref m_part, .int 0, .ref m_text, .int 0, .ref m_ringX, .ref m_ringY, .ref m_ringOn, .int 0, .ref m_curves, .ref m_windings, .ref m_rows]))]) [0] (by decide) rfl
    have hKc := hK.sub (tys' := []) [] rfl
    have hFc := va_free (wc := [(h1, .inr (10, [.int 0, .int 0, .ref m_file, .int 0, .int 0, .ref m_bytes, .ref m_places, .ref m_lengths, .ref m_glyphCount, .ref m_ems, .ref m_wides, .ref m_forms, .ref m_parts, .ref m_charts, .ref m_pointCount, .ref m_contourCount, .ref m_depths, .ref m_xs, .ref m_ys, .ref m_ons, .ref m_contours, .int 0, .int 0, .int 0, .ref m_flags, .ref m_part, .int 0, .ref m_text, .int 0, .ref m_ringX, .ref m_ringY, .ref m_ringOn, .int 0, .ref m_curves, .ref m_windings, .ref m_rows]))]) hD hS hA [0] rfl
    refine va_calli (va_runV (As := [.int 1]) (rest := []) ⟨hx, hb, hml, hown, hts⟩ (c_MD_refused_1 l dC dI h1 m_file m_bytes m_places m_lengths m_glyphCount m_ems m_wides m_forms m_parts m_charts m_pointCount m_contourCount m_depths m_xs m_ys m_ons m_contours m_flags m_part m_text m_ringX m_ringY m_ringOn m_curves m_windings m_rows s.heap.size) (cwV 1 hts (tw_inV w_973 w_975 wp_34 w_11 w_976) rfl rfl rfl (by decide +kernel) ⟨Nat.le_of_ble_eq_true rfl, Nat.le_of_ble_eq_true rfl⟩) ⟨fun a U g mk q => by obtain ⟨q0, q1, qP, qK, qD⟩ := q; exact ⟨q0, q1, qP, va_K.moved (u := U) (U := U.calling g mk a) (Vm.Alike.refl U.vm) qK, qD⟩, va_recv (hK := hK) (hP := hP) (q0 := 0) (ci := 10) rfl rfl, fun U hU hW => ⟨rfl, by rw [hU], by rw [hU]; exact hPc, va_K.moved hW.alike hKc, hDc.weaken (fun _ _ _ _ => trivial)⟩⟩ rfl rfl hl.1 rfl (lv_room (Nat.le_of_ble_eq_true rfl)) d_MD_row_16 ⟨Nat.le_of_ble_eq_true rfl, Nat.le_of_ble_eq_true rfl⟩) hS (fun q _ h => hFc q h) hFc (fun r172 u t H1 locs ht hvm hw hB hz1 hk1 hS => ?_)
    obtain ⟨hP1, hK1, hD1⟩ := hB
    rw [ht] at hP1
    have hK1 := va_K.moved hvm.symm hK1
    obtain ⟨hP, hD⟩ := va_join (wr := []) (w1 := [(h1, .inr (10, [.int 1, .int 0, .ref m_file, .int 0, .int 0, .ref m_bytes, .ref m_places, .ref m_lengths, .ref m_glyphCount, .ref m_ems, .ref m_wides, .ref m_forms, .ref m_parts, .ref m_charts, .ref m_pointCount, .ref m_contourCount, .ref m_depths, .ref m_xs, .ref m_ys, .ref m_ons, .ref m_contours, .int 0, .int 0, .int 0, .ref m_flags, .ref m_part, .int 0, .ref m_text, .int 0, .ref m_ringX, .ref m_ringY, .ref m_ringOn, .int 0, .ref m_curves, .ref m_windings, .ref m_rows]))]) hP hD [0] [] rfl rfl (by decide) (by decide) hk1 hFc hP1 hD1
    have hK := (hK.sub (tys' := []) [] rfl).app hK1
    generalize H1 = H at hP hS ⊢
    have hP : va_P (dC, dI) cls_ [(h1, .inr (10, [.int 1, .int 0, .ref m_file, .int 0, .int 0, .ref m_bytes, .ref m_places, .ref m_lengths, .ref m_glyphCount, .ref m_ems, .ref m_wides, .ref m_forms, .ref m_parts, .ref m_charts, .ref m_pointCount, .ref m_contourCount, .ref m_depths, .ref m_xs, .ref m_ys, .ref m_ons, .ref m_contours, .int 0, .int 0, .int 0, .ref m_flags, .ref m_part, .int 0, .ref m_text, .int 0, .ref m_ringX, .ref m_ringY, .ref m_ringOn, .int 0, .ref m_curves, .ref m_windings, .ref m_rows]))] H := hP
    have hD : va_D A [(h1, .inr (10, [.int 1, .int 0, .ref m_file, .int 0, .int 0, .ref m_bytes, .ref m_places, .ref m_lengths, .ref m_glyphCount, .ref m_ems, .ref m_wides, .ref m_forms, .ref m_parts, .ref m_charts, .ref m_pointCount, .ref m_contourCount, .ref m_depths, .ref m_xs, .ref m_ys, .ref m_ons, .ref m_contours, .int 0, .int 0, .int 0, .ref m_flags, .ref m_part, .int 0, .ref m_text, .int 0, .ref m_ringX, .ref m_ringY, .ref m_ringOn, .int 0, .ref m_curves, .ref m_windings, .ref m_rows]))] := hD
    have hK : va_K (dC, dI) cls_ [] s := hK
    have hw : r172 = 1 := hw
    subst hw
    refine lv_if_eq (tgt := 26) hx hb d_MD_row_19 (by decide) (fun hc => absurd hc (by decide +kernel)) (fun _ => ?_)
    refine lv_lconst (v := 0) hx hb d_MD_row_22 (by decide) ?_
    refine lv_goto (tgt := 32) hx hb d_MD_row_23 (by decide) ?_
    refine W.widen (k := 0) (n := 0) (Nat.le_of_ble_eq_true rfl) (Nat.le_of_ble_eq_true rfl) ?_
    have hP9 := hP.sub (ws' := [(h1, .inr (10, [.int 1, .int 0, .ref m_file, .int 0, .int 0, .ref m_bytes, .ref m_places, .ref m_lengths, .ref m_glyphCount, .ref m_ems, .ref m_wides, .ref m_forms, .ref m_parts, .ref m_charts, .ref m_pointCount, .ref m_contourCount, .ref m_depths, .ref m_xs, .ref m_ys, .ref m_ons, .ref m_contours, .int 0, .int 0, .int 0, .ref m_flags, .ref m_part, .int 0, .ref m_text, .int 0, .ref m_ringX, .ref m_ringY, .ref m_ringOn, .int 0, .ref m_curves, .ref m_windings, .ref m_rows]))]) [0] rfl
    have hD9 := hD.sub (ws' := [(h1, .inr (10, [.int 1, .int 0, .ref m_file, .int 0, .int 0, .ref m_bytes, .ref m_places, .ref m_lengths, .ref m_glyphCount, .ref m_ems, .ref m_wides, .ref m_forms, .ref m_parts, .ref m_charts, .ref m_pointCount, .ref m_contourCount, .ref m_depths, .ref m_xs, .ref m_ys, .ref m_ons, .ref m_contours, .int 0, .int 0, .int 0, .ref m_flags, .ref m_part, .int 0, .ref m_text, .int 0, .ref m_ringX, .ref m_ringY, .ref m_ringOn, .int 0, .ref m_curves, .ref m_windings, .ref m_rows]))]) [0] (by decide) rfl
    have hK9 := hK.sub (tys' := []) [] rfl
    exact W.lret (v := 0) hx hb hr (fun t ht hW => ⟨⟨0, (), rfl, trivial, by rw [ht]; exact hP9, va_K.moved hW.alike hK9, hD9⟩, hS.F ht⟩) hS.2.2 d_MD_row_32
  · skip
    refine lv_iload_n hx hb d_MD_row_5 rfl (lv_at hl 1 rfl) ?_
    refine lv_bipush (v := 23) hx hb d_MD_row_6 (by decide) ?_
    refine lv_icmp_le (tgt := 15) hx hb d_MD_row_8 (by decide) (fun hc173 => ?_) (fun hc173 => ?_)
    · skip
      exact hm.elim (fun z => absurd z hc171) (fun z => absurd (gl_le23.mp hc173) z)
    · skip
      refine lv_iconst (v := 1) hx hb d_MD_row_11 (by decide) ?_
      refine lv_goto (tgt := 16) hx hb d_MD_row_12 (by decide) ?_
      have hPc := hP.sub (ws' := [(h1, .inr (10, [.int 0, .int 0, .ref m_file, .int 0, .int 0, .ref m_bytes, .ref m_places, .ref m_lengths, .ref m_glyphCount, .ref m_ems, .ref m_wides, .ref m_forms, .ref m_parts, .ref m_charts, .ref m_pointCount, .ref m_contourCount, .ref m_depths, .ref m_xs, .ref m_ys, .ref m_ons, .ref m_contours, .int 0, .int 0, .int 0, .ref m_flags, .ref m_part, .int 0, .ref m_text, .int 0, .ref m_ringX, .ref m_ringY, .ref m_ringOn, .int 0, .ref m_curves, .ref m_windings, .ref m_rows]))]) [0] rfl
      have hDc := hD.sub (ws' := [(h1, .inr (10, [.int 0, .int 0, .ref m_file, .int 0, .int 0, .ref m_bytes, .ref m_places, .ref m_lengths, .ref m_glyphCount, .ref m_ems, .ref m_wides, .ref m_forms, .ref m_parts, .ref m_charts, .ref m_pointCount, .ref m_contourCount, .ref m_depths, .ref m_xs, .ref m_ys, .ref m_ons, .ref m_contours, .int 0, .int 0, .int 0, .ref m_flags, .ref m_part, .int 0, .ref m_text, .int 0, .ref m_ringX, .ref m_ringY, .ref m_ringOn, .int 0, .ref m_curves, .ref m_windings, .ref m_rows]))]) [0] (by decide) rfl
      have hKc := hK.sub (tys' := []) [] rfl
      have hFc := va_free (wc := [(h1, .inr (10, [.int 0, .int 0, .ref m_file, .int 0, .int 0, .ref m_bytes, .ref m_places, .ref m_lengths, .ref m_glyphCount, .ref m_ems, .ref m_wides, .ref m_forms, .ref m_parts, .ref m_charts, .ref m_pointCount, .ref m_contourCount, .ref m_depths, .ref m_xs, .ref m_ys, .ref m_ons, .ref m_contours, .int 0, .int 0, .int 0, .ref m_flags, .ref m_part, .int 0, .ref m_text, .int 0, .ref m_ringX, .ref m_ringY, .ref m_ringOn, .int 0, .ref m_curves, .ref m_windings, .ref m_rows]))]) hD hS hA [0] rfl
      refine va_calli (va_runV (As := [.int 1]) (rest := []) ⟨hx, hb, hml, hown, hts⟩ (c_MD_refused_1 l dC dI h1 m_file m_bytes m_places m_lengths m_glyphCount m_ems m_wides m_forms m_parts m_charts m_pointCount m_contourCount m_depths m_xs m_ys m_ons m_contours m_flags m_part m_text m_ringX m_ringY m_ringOn m_curves m_windings m_rows s.heap.size) (cwV 1 hts (tw_inV w_973 w_975 wp_34 w_11 w_976) rfl rfl rfl (by decide +kernel) ⟨Nat.le_of_ble_eq_true rfl, Nat.le_of_ble_eq_true rfl⟩) ⟨fun a U g mk q => by obtain ⟨q0, q1, qP, qK, qD⟩ := q; exact ⟨q0, q1, qP, va_K.moved (u := U) (U := U.calling g mk a) (Vm.Alike.refl U.vm) qK, qD⟩, va_recv (hK := hK) (hP := hP) (q0 := 0) (ci := 10) rfl rfl, fun U hU hW => ⟨rfl, by rw [hU], by rw [hU]; exact hPc, va_K.moved hW.alike hKc, hDc.weaken (fun _ _ _ _ => trivial)⟩⟩ rfl rfl hl.1 rfl (lv_room (Nat.le_of_ble_eq_true rfl)) d_MD_row_16 ⟨Nat.le_of_ble_eq_true rfl, Nat.le_of_ble_eq_true rfl⟩) hS (fun q _ h => hFc q h) hFc (fun r174 u t H1 locs ht hvm hw hB hz1 hk1 hS => ?_)
      obtain ⟨hP1, hK1, hD1⟩ := hB
      rw [ht] at hP1
      have hK1 := va_K.moved hvm.symm hK1
      obtain ⟨hP, hD⟩ := va_join (wr := []) (w1 := [(h1, .inr (10, [.int 1, .int 0, .ref m_file, .int 0, .int 0, .ref m_bytes, .ref m_places, .ref m_lengths, .ref m_glyphCount, .ref m_ems, .ref m_wides, .ref m_forms, .ref m_parts, .ref m_charts, .ref m_pointCount, .ref m_contourCount, .ref m_depths, .ref m_xs, .ref m_ys, .ref m_ons, .ref m_contours, .int 0, .int 0, .int 0, .ref m_flags, .ref m_part, .int 0, .ref m_text, .int 0, .ref m_ringX, .ref m_ringY, .ref m_ringOn, .int 0, .ref m_curves, .ref m_windings, .ref m_rows]))]) hP hD [0] [] rfl rfl (by decide) (by decide) hk1 hFc hP1 hD1
      have hK := (hK.sub (tys' := []) [] rfl).app hK1
      generalize H1 = H at hP hS ⊢
      have hP : va_P (dC, dI) cls_ [(h1, .inr (10, [.int 1, .int 0, .ref m_file, .int 0, .int 0, .ref m_bytes, .ref m_places, .ref m_lengths, .ref m_glyphCount, .ref m_ems, .ref m_wides, .ref m_forms, .ref m_parts, .ref m_charts, .ref m_pointCount, .ref m_contourCount, .ref m_depths, .ref m_xs, .ref m_ys, .ref m_ons, .ref m_contours, .int 0, .int 0, .int 0, .ref m_flags, .ref m_part, .int 0, .ref m_text, .int 0, .ref m_ringX, .ref m_ringY, .ref m_ringOn, .int 0, .ref m_curves, .ref m_windings, .ref m_rows]))] H := hP
      have hD : va_D A [(h1, .inr (10, [.int 1, .int 0, .ref m_file, .int 0, .int 0, .ref m_bytes, .ref m_places, .ref m_lengths, .ref m_glyphCount, .ref m_ems, .ref m_wides, .ref m_forms, .ref m_parts, .ref m_charts, .ref m_pointCount, .ref m_contourCount, .ref m_depths, .ref m_xs, .ref m_ys, .ref m_ons, .ref m_contours, .int 0, .int 0, .int 0, .ref m_flags, .ref m_part, .int 0, .ref m_text, .int 0, .ref m_ringX, .ref m_ringY, .ref m_ringOn, .int 0, .ref m_curves, .ref m_windings, .ref m_rows]))] := hD
      have hK : va_K (dC, dI) cls_ [] s := hK
      have hw : r174 = 1 := hw
      subst hw
      refine lv_if_eq (tgt := 26) hx hb d_MD_row_19 (by decide) (fun hc => absurd hc (by decide +kernel)) (fun _ => ?_)
      refine lv_lconst (v := 0) hx hb d_MD_row_22 (by decide) ?_
      refine lv_goto (tgt := 32) hx hb d_MD_row_23 (by decide) ?_
      refine W.widen (k := 0) (n := 0) (Nat.le_of_ble_eq_true rfl) (Nat.le_of_ble_eq_true rfl) ?_
      have hP9 := hP.sub (ws' := [(h1, .inr (10, [.int 1, .int 0, .ref m_file, .int 0, .int 0, .ref m_bytes, .ref m_places, .ref m_lengths, .ref m_glyphCount, .ref m_ems, .ref m_wides, .ref m_forms, .ref m_parts, .ref m_charts, .ref m_pointCount, .ref m_contourCount, .ref m_depths, .ref m_xs, .ref m_ys, .ref m_ons, .ref m_contours, .int 0, .int 0, .int 0, .ref m_flags, .ref m_part, .int 0, .ref m_text, .int 0, .ref m_ringX, .ref m_ringY, .ref m_ringOn, .int 0, .ref m_curves, .ref m_windings, .ref m_rows]))]) [0] rfl
      have hD9 := hD.sub (ws' := [(h1, .inr (10, [.int 1, .int 0, .ref m_file, .int 0, .int 0, .ref m_bytes, .ref m_places, .ref m_lengths, .ref m_glyphCount, .ref m_ems, .ref m_wides, .ref m_forms, .ref m_parts, .ref m_charts, .ref m_pointCount, .ref m_contourCount, .ref m_depths, .ref m_xs, .ref m_ys, .ref m_ons, .ref m_contours, .int 0, .int 0, .int 0, .ref m_flags, .ref m_part, .int 0, .ref m_text, .int 0, .ref m_ringX, .ref m_ringY, .ref m_ringOn, .int 0, .ref m_curves, .ref m_windings, .ref m_rows]))]) [0] (by decide) rfl
      have hK9 := hK.sub (tys' := []) [] rfl
      exact W.lret (v := 0) hx hb hr (fun t ht hW => ⟨⟨0, (), rfl, trivial, by rw [ht]; exact hP9, va_K.moved hW.alike hK9, hD9⟩, hS.F ht⟩) hS.2.2 d_MD_row_32
set_option maxHeartbeats 4000000 in
set_option maxRecDepth 100000 in
/-- GlyphLinesModel.row -/
theorem c_MD_row (l : Launch) (dC : Nat → ClassId) (dI : Nat → Nat → Nat) (h1 m_file m_bytes m_places m_lengths m_glyphCount m_ems m_wides m_forms m_parts m_charts m_pointCount m_contourCount m_depths m_xs m_ys m_ons m_contours m_flags m_part m_text m_ringX m_ringY m_ringOn m_curves m_windings m_rows : Nat) (c_rows : ClassId) (r : Int32) (sz : Nat) (h1r : ¬ r < 0) (h2r : r < 24) : Met l y_MD_row s_MD_row ({ frames := 10, cells := 0, slots := 0, locals := 300 }) (va_Pc [.ref h1, .int r] (fun U => U.heap.size = sz ∧ va_P (dC, dI) cls_ [(h1, .inr (10, [.int 0, .int 0, .ref m_file, .int 0, .int 0, .ref m_bytes, .ref m_places, .ref m_lengths, .ref m_glyphCount, .ref m_ems, .ref m_wides, .ref m_forms, .ref m_parts, .ref m_charts, .ref m_pointCount, .ref m_contourCount, .ref m_depths, .ref m_xs, .ref m_ys, .ref m_ons, .ref m_contours, .int 0, .int 0, .int 0, .ref m_flags, .ref m_part, .int 0, .ref m_text, .int 0, .ref m_ringX, .ref m_ringY, .ref m_ringOn, .int 0, .ref m_curves, .ref m_windings, .ref m_rows])), (m_rows, .inl (c_rows, 24, .inr (.inl (fun _ => 0))))] U.heap ∧ va_K (dC, dI) cls_ [(c_rows, .long)] U ∧ va_D (fun _ => True) [(h1, .inr (10, [.int 0, .int 0, .ref m_file, .int 0, .int 0, .ref m_bytes, .ref m_places, .ref m_lengths, .ref m_glyphCount, .ref m_ems, .ref m_wides, .ref m_forms, .ref m_parts, .ref m_charts, .ref m_pointCount, .ref m_contourCount, .ref m_depths, .ref m_xs, .ref m_ys, .ref m_ons, .ref m_contours, .int 0, .int 0, .int 0, .ref m_flags, .ref m_part, .int 0, .ref m_text, .int 0, .ref m_ringX, .ref m_ringY, .ref m_ringOn, .int 0, .ref m_curves, .ref m_windings, .ref m_rows])), (m_rows, .inl (c_rows, 24, .inr (.inl (fun _ => 0))))])) (va_Ql (fun (r : Int64) (_ : Unit) => r = 0) (fun (_ : Unit) (t : State) => va_P (dC, dI) cls_ [(h1, .inr (10, [.int 0, .int 0, .ref m_file, .int 0, .int 0, .ref m_bytes, .ref m_places, .ref m_lengths, .ref m_glyphCount, .ref m_ems, .ref m_wides, .ref m_forms, .ref m_parts, .ref m_charts, .ref m_pointCount, .ref m_contourCount, .ref m_depths, .ref m_xs, .ref m_ys, .ref m_ons, .ref m_contours, .int 0, .int 0, .int 0, .ref m_flags, .ref m_part, .int 0, .ref m_text, .int 0, .ref m_ringX, .ref m_ringY, .ref m_ringOn, .int 0, .ref m_curves, .ref m_windings, .ref m_rows]))] t.heap ∧ va_K (dC, dI) cls_ [] t ∧ va_D (va_A [(h1, .inr (10, [.int 0, .int 0, .ref m_file, .int 0, .int 0, .ref m_bytes, .ref m_places, .ref m_lengths, .ref m_glyphCount, .ref m_ems, .ref m_wides, .ref m_forms, .ref m_parts, .ref m_charts, .ref m_pointCount, .ref m_contourCount, .ref m_depths, .ref m_xs, .ref m_ys, .ref m_ons, .ref m_contours, .int 0, .int 0, .int 0, .ref m_flags, .ref m_part, .int 0, .ref m_text, .int 0, .ref m_ringX, .ref m_ringY, .ref m_ringOn, .int 0, .ref m_curves, .ref m_windings, .ref m_rows])), (m_rows, .inl (c_rows, 24, .inr (.inl (fun _ => 0))))] sz) [(h1, .inr (10, [.int 0, .int 0, .ref m_file, .int 0, .int 0, .ref m_bytes, .ref m_places, .ref m_lengths, .ref m_glyphCount, .ref m_ems, .ref m_wides, .ref m_forms, .ref m_parts, .ref m_charts, .ref m_pointCount, .ref m_contourCount, .ref m_depths, .ref m_xs, .ref m_ys, .ref m_ons, .ref m_contours, .int 0, .int 0, .int 0, .ref m_flags, .ref m_part, .int 0, .ref m_text, .int 0, .ref m_ringX, .ref m_ringY, .ref m_ringOn, .int 0, .ref m_curves, .ref m_windings, .ref m_rows]))]) (va_A [(h1, .inr (10, [.int 0, .int 0, .ref m_file, .int 0, .int 0, .ref m_bytes, .ref m_places, .ref m_lengths, .ref m_glyphCount, .ref m_ems, .ref m_wides, .ref m_forms, .ref m_parts, .ref m_charts, .ref m_pointCount, .ref m_contourCount, .ref m_depths, .ref m_xs, .ref m_ys, .ref m_ons, .ref m_contours, .int 0, .int 0, .int 0, .ref m_flags, .ref m_part, .int 0, .ref m_text, .int 0, .ref m_ringX, .ref m_ringY, .ref m_ringOn, .int 0, .ref m_curves, .ref m_windings, .ref m_rows])), (m_rows, .inl (c_rows, 24, .inr (.inl (fun _ => 0))))] sz)) 0 0 (va_A [(h1, .inr (10, [.int 0, .int 0, .ref m_file, .int 0, .int 0, .ref m_bytes, .ref m_places, .ref m_lengths, .ref m_glyphCount, .ref m_ems, .ref m_wides, .ref m_forms, .ref m_parts, .ref m_charts, .ref m_pointCount, .ref m_contourCount, .ref m_depths, .ref m_xs, .ref m_ys, .ref m_ons, .ref m_contours, .int 0, .int 0, .int 0, .ref m_flags, .ref m_part, .int 0, .ref m_text, .int 0, .ref m_ringX, .ref m_ringY, .ref m_ringOn, .int 0, .ref m_curves, .ref m_windings, .ref m_rows])), (m_rows, .inl (c_rows, 24, .inr (.inl (fun _ => 0))))] sz) := by
  refine Met.ofW (cc := b_MD_row) (maxL := 2) (ret := (some .long)) (by decide) rfl ?_
  intro p e s m args below meth c s₁ B hml hv
  obtain ⟨rfl, hsz, hP, hK, hD0⟩ := hv
  have hx := B.exec
  have hb := B.bytes
  have hr := B.returns
  have hts := atoms_spec (ws := s_MD_row) B.pre
  have hown : s.vm.findClass R_MD = some m.cls := findClass_of_methodNamed B.named
  have hlocks := B.notSynchronized
  subst hsz
  have hD := hD0.self (sz := s.heap.size)
  generalize hAe : va_A [(h1, .inr (10, [.int 0, .int 0, .ref m_file, .int 0, .int 0, .ref m_bytes, .ref m_places, .ref m_lengths, .ref m_glyphCount, .ref m_ems, .ref m_wides, .ref m_forms, .ref m_parts, .ref m_charts, .ref m_pointCount, .ref m_contourCount, .ref m_depths, .ref m_xs, .ref m_ys, .ref m_ons, .ref m_contours, .int 0, .int 0, .int 0, .ref m_flags, .ref m_part, .int 0, .ref m_text, .int 0, .ref m_ringX, .ref m_ringY, .ref m_ringOn, .int 0, .ref m_curves, .ref m_windings, .ref m_rows])), (m_rows, .inl (c_rows, 24, .inr (.inl (fun _ => 0))))] s.heap.size = A at hD ⊢
  have hA : ∀ q : Nat, s.heap.size ≤ q → A q := fun q h => by rw [← hAe]; exact Or.inr h
  have hS : va_S A s.heap s.heap [] := va_S.rf
  have hP : va_P (dC, dI) cls_ [(h1, .inr (10, [.int 0, .int 0, .ref m_file, .int 0, .int 0, .ref m_bytes, .ref m_places, .ref m_lengths, .ref m_glyphCount, .ref m_ems, .ref m_wides, .ref m_forms, .ref m_parts, .ref m_charts, .ref m_pointCount, .ref m_contourCount, .ref m_depths, .ref m_xs, .ref m_ys, .ref m_ons, .ref m_contours, .int 0, .int 0, .int 0, .ref m_flags, .ref m_part, .int 0, .ref m_text, .int 0, .ref m_ringX, .ref m_ringY, .ref m_ringOn, .int 0, .ref m_curves, .ref m_windings, .ref m_rows])), (m_rows, .inl (c_rows, 24, .inr (.inl (fun _ => 0))))] s.heap := hP
  have hl := lv_entry ([.ref h1, .int r]) (n := 2) (Nat.le_of_ble_eq_true rfl)
  rw [lg_entry_eq]
  generalize (lg_sl ([.ref h1, .int r]) ++ List.replicate (2 - (lg_sl ([.ref h1, .int r])).length) Slot.unset).toArray = ls at hl ⊢
  have hl : lv_has ls 2 [(0, .ref h1), (1, .int r)] := hl
  refine lv_aload_n hx hb d_MD_row_0 rfl (lv_at hl 0 rfl) ?_
  refine lv_iload_n hx hb d_MD_row_1 rfl (lv_at hl 1 rfl) ?_
  refine lv_if_lt (tgt := 11) hx hb d_MD_row_2 (by decide) (fun hc175 => ?_) (fun hc175 => ?_)
  · skip
    exact absurd hc175 h1r
  · skip
    refine lv_iload_n hx hb d_MD_row_5 rfl (lv_at hl 1 rfl) ?_
    refine lv_bipush (v := 23) hx hb d_MD_row_6 (by decide) ?_
    refine lv_icmp_le (tgt := 15) hx hb d_MD_row_8 (by decide) (fun hc176 => ?_) (fun hc176 => ?_)
    · skip
      refine lv_iconst (v := 0) hx hb d_MD_row_15 (by decide) ?_
      have hPc := hP.sub (ws' := [(h1, .inr (10, [.int 0, .int 0, .ref m_file, .int 0, .int 0, .ref m_bytes, .ref m_places, .ref m_lengths, .ref m_glyphCount, .ref m_ems, .ref m_wides, .ref m_forms, .ref m_parts, .ref m_charts, .ref m_pointCount, .ref m_contourCount, .ref m_depths, .ref m_xs, .ref m_ys, .ref m_ons, .ref m_contours, .int 0, .int 0, .int 0, .ref m_flags, .ref m_part, .int 0, .ref m_text, .int 0, .ref m_ringX, .ref m_ringY, .ref m_ringOn, .int 0, .ref m_curves, .ref m_windings, .ref m_rows]))]) [0] rfl
      have hDc := hD.sub (ws' := [(h1, .inr (10, [.int 0, .int 0, .ref m_file, .int 0, .int 0, .ref m_bytes, .ref m_places, .ref m_lengths, .ref m_glyphCount, .ref m_ems, .ref m_wides, .ref m_forms, .ref m_parts, .ref m_charts, .ref m_pointCount, .ref m_contourCount, .ref m_depths, .ref m_xs, .ref m_ys, .ref m_ons, .ref m_contours, .int 0, .int 0, .int 0, .ref m_flags, .ref m_part, .int 0, .ref m_text, .int 0, .ref m_ringX, .ref m_ringY, .ref m_ringOn, .int 0, .ref m_curves, .ref m_windings, .ref m_rows]))]) [0] (by decide) rfl
      have hKc := hK.sub (tys' := []) [] rfl
      have hFc := va_free (wc := [(h1, .inr (10, [.int 0, .int 0, .ref m_file, .int 0, .int 0, .ref m_bytes, .ref m_places, .ref m_lengths, .ref m_glyphCount, .ref m_ems, .ref m_wides, .ref m_forms, .ref m_parts, .ref m_charts, .ref m_pointCount, .ref m_contourCount, .ref m_depths, .ref m_xs, .ref m_ys, .ref m_ons, .ref m_contours, .int 0, .int 0, .int 0, .ref m_flags, .ref m_part, .int 0, .ref m_text, .int 0, .ref m_ringX, .ref m_ringY, .ref m_ringOn, .int 0, .ref m_curves, .ref m_windings, .ref m_rows]))]) hD hS hA [0] rfl
      refine va_calli (va_runV (As := [.int 0]) (rest := []) ⟨hx, hb, hml, hown, hts⟩ (c_MD_refused_0 l dC dI h1 m_file m_bytes m_places m_lengths m_glyphCount m_ems m_wides m_forms m_parts m_charts m_pointCount m_contourCount m_depths m_xs m_ys m_ons m_contours m_flags m_part m_text m_ringX m_ringY m_ringOn m_curves m_windings m_rows s.heap.size) (cwV 1 hts (tw_inV w_973 w_975 wp_34 w_11 w_976) rfl rfl rfl (by decide +kernel) ⟨Nat.le_of_ble_eq_true rfl, Nat.le_of_ble_eq_true rfl⟩) ⟨fun a U g mk q => by obtain ⟨q0, q1, qP, qK, qD⟩ := q; exact ⟨q0, q1, qP, va_K.moved (u := U) (U := U.calling g mk a) (Vm.Alike.refl U.vm) qK, qD⟩, va_recv (hK := hK) (hP := hP) (q0 := 0) (ci := 10) rfl rfl, fun U hU hW => ⟨rfl, by rw [hU], by rw [hU]; exact hPc, va_K.moved hW.alike hKc, hDc.weaken (fun _ _ _ _ => trivial)⟩⟩ rfl rfl hl.1 rfl (lv_room (Nat.le_of_ble_eq_true rfl)) d_MD_row_16 ⟨Nat.le_of_ble_eq_true rfl, Nat.le_of_ble_eq_true rfl⟩) hS (fun q _ h => hFc q h) hFc (fun r177 u t H1 locs ht hvm hw hB hz1 hk1 hS => ?_)
      obtain ⟨hP1, hK1, hD1⟩ := hB
      rw [ht] at hP1
      have hK1 := va_K.moved hvm.symm hK1
      obtain ⟨hP, hD⟩ := va_join (wr := [(m_rows, .inl (c_rows, 24, .inr (.inl (fun _ => 0))))]) (w1 := [(h1, .inr (10, [.int 0, .int 0, .ref m_file, .int 0, .int 0, .ref m_bytes, .ref m_places, .ref m_lengths, .ref m_glyphCount, .ref m_ems, .ref m_wides, .ref m_forms, .ref m_parts, .ref m_charts, .ref m_pointCount, .ref m_contourCount, .ref m_depths, .ref m_xs, .ref m_ys, .ref m_ons, .ref m_contours, .int 0, .int 0, .int 0, .ref m_flags, .ref m_part, .int 0, .ref m_text, .int 0, .ref m_ringX, .ref m_ringY, .ref m_ringOn, .int 0, .ref m_curves, .ref m_windings, .ref m_rows]))]) hP hD [0] [1] rfl rfl (by decide) (by decide) hk1 hFc hP1 hD1
      have hK := (hK.sub (tys' := [(c_rows, .long)]) [0] rfl).app hK1
      generalize H1 = H at hP hS ⊢
      have hP : va_P (dC, dI) cls_ [(m_rows, .inl (c_rows, 24, .inr (.inl (fun _ => 0)))), (h1, .inr (10, [.int 0, .int 0, .ref m_file, .int 0, .int 0, .ref m_bytes, .ref m_places, .ref m_lengths, .ref m_glyphCount, .ref m_ems, .ref m_wides, .ref m_forms, .ref m_parts, .ref m_charts, .ref m_pointCount, .ref m_contourCount, .ref m_depths, .ref m_xs, .ref m_ys, .ref m_ons, .ref m_contours, .int 0, .int 0, .int 0, .ref m_flags, .ref m_part, .int 0, .ref m_text, .int 0, .ref m_ringX, .ref m_ringY, .ref m_ringOn, .int 0, .ref m_curves, .ref m_windings, .ref m_rows]))] H := hP
      have hD : va_D A [(m_rows, .inl (c_rows, 24, .inr (.inl (fun _ => 0)))), (h1, .inr (10, [.int 0, .int 0, .ref m_file, .int 0, .int 0, .ref m_bytes, .ref m_places, .ref m_lengths, .ref m_glyphCount, .ref m_ems, .ref m_wides, .ref m_forms, .ref m_parts, .ref m_charts, .ref m_pointCount, .ref m_contourCount, .ref m_depths, .ref m_xs, .ref m_ys, .ref m_ons, .ref m_contours, .int 0, .int 0, .int 0, .ref m_flags, .ref m_part, .int 0, .ref m_text, .int 0, .ref m_ringX, .ref m_ringY, .ref m_ringOn, .int 0, .ref m_curves, .ref m_windings, .ref m_rows]))] := hD
      have hK : va_K (dC, dI) cls_ [(c_rows, .long)] s := hK
      have hw : r177 = 0 := hw
      subst hw
      refine lv_if_eq (tgt := 26) hx hb d_MD_row_19 (by decide) (fun _ => ?_) (fun hc => absurd hc (by decide +kernel))
      refine lv_aload_n hx hb d_MD_row_26 rfl (lv_at hl 0 rfl) ?_
      refine va_get (D := (dC, dI)) (ci := 10) (v := .ref m_rows) (C := R_MD) (T := F_MD) (N := 36) hx hb hts in_MD hown hK hP 1 rfl rfl 35 (by decide) (hts _ (List.mem_cons_of_mem _ w_887)) (fun _ h9 => h9) rfl d_MD_row_27 ?_
      refine lv_iload_n hx hb d_MD_row_30 rfl (lv_at hl 1 rfl) ?_
      refine va_lald hx hb hK hP 0 0 rfl rfl (gl_in24 h1r h2r) d_MD_row_31 ?_
      refine W.widen (k := 0) (n := 0) (Nat.le_of_ble_eq_true rfl) (Nat.le_of_ble_eq_true rfl) ?_
      have hP9 := hP.sub (ws' := [(h1, .inr (10, [.int 0, .int 0, .ref m_file, .int 0, .int 0, .ref m_bytes, .ref m_places, .ref m_lengths, .ref m_glyphCount, .ref m_ems, .ref m_wides, .ref m_forms, .ref m_parts, .ref m_charts, .ref m_pointCount, .ref m_contourCount, .ref m_depths, .ref m_xs, .ref m_ys, .ref m_ons, .ref m_contours, .int 0, .int 0, .int 0, .ref m_flags, .ref m_part, .int 0, .ref m_text, .int 0, .ref m_ringX, .ref m_ringY, .ref m_ringOn, .int 0, .ref m_curves, .ref m_windings, .ref m_rows]))]) [1] rfl
      have hD9 := hD.sub (ws' := [(h1, .inr (10, [.int 0, .int 0, .ref m_file, .int 0, .int 0, .ref m_bytes, .ref m_places, .ref m_lengths, .ref m_glyphCount, .ref m_ems, .ref m_wides, .ref m_forms, .ref m_parts, .ref m_charts, .ref m_pointCount, .ref m_contourCount, .ref m_depths, .ref m_xs, .ref m_ys, .ref m_ons, .ref m_contours, .int 0, .int 0, .int 0, .ref m_flags, .ref m_part, .int 0, .ref m_text, .int 0, .ref m_ringX, .ref m_ringY, .ref m_ringOn, .int 0, .ref m_curves, .ref m_windings, .ref m_rows]))]) [1] (by decide) rfl
      have hK9 := hK.sub (tys' := []) [] rfl
      exact W.lret (v := 0) hx hb hr (fun t ht hW => ⟨⟨0, (), rfl, rfl, by rw [ht]; exact hP9, va_K.moved hW.alike hK9, hD9⟩, hS.F ht⟩) hS.2.2 d_MD_row_32
    · skip
      exact absurd (gl_le23.mpr h2r) hc176
set_option maxHeartbeats 4000000 in
set_option maxRecDepth 100000 in
/-- GlyphLinesModel.feed -/
theorem c_MD_feed (l : Launch) (dC : Nat → ClassId) (dI : Nat → Nat → Nat) (h1 m_file m_bytes m_places m_lengths m_glyphCount m_ems m_wides m_forms m_parts m_charts m_pointCount m_contourCount m_depths m_xs m_ys m_ons m_contours m_flags m_part m_text m_ringX m_ringY m_ringOn m_curves m_windings m_rows : Nat) (c_file : ClassId) (w : Int32) (sz : Nat) : Met l y_MD_feed s_MD_feed ({ frames := 8, cells := 0, slots := 0, locals := 200 }) (va_Pc [.ref h1, .int w] (fun U => U.heap.size = sz ∧ va_P (dC, dI) cls_ [(h1, .inr (10, [.int 0, .int 0, .ref m_file, .int 0, .int 0, .ref m_bytes, .ref m_places, .ref m_lengths, .ref m_glyphCount, .ref m_ems, .ref m_wides, .ref m_forms, .ref m_parts, .ref m_charts, .ref m_pointCount, .ref m_contourCount, .ref m_depths, .ref m_xs, .ref m_ys, .ref m_ons, .ref m_contours, .int 0, .int 0, .int 0, .ref m_flags, .ref m_part, .int 0, .ref m_text, .int 0, .ref m_ringX, .ref m_ringY, .ref m_ringOn, .int 0, .ref m_curves, .ref m_windings, .ref m_rows])), (m_file, .inl (c_file, 1200, .inl (fun _ => 0)))] U.heap ∧ va_K (dC, dI) cls_ [(c_file, .int)] U ∧ va_D (fun _ => True) [(h1, .inr (10, [.int 0, .int 0, .ref m_file, .int 0, .int 0, .ref m_bytes, .ref m_places, .ref m_lengths, .ref m_glyphCount, .ref m_ems, .ref m_wides, .ref m_forms, .ref m_parts, .ref m_charts, .ref m_pointCount, .ref m_contourCount, .ref m_depths, .ref m_xs, .ref m_ys, .ref m_ons, .ref m_contours, .int 0, .int 0, .int 0, .ref m_flags, .ref m_part, .int 0, .ref m_text, .int 0, .ref m_ringX, .ref m_ringY, .ref m_ringOn, .int 0, .ref m_curves, .ref m_windings, .ref m_rows])), (m_file, .inl (c_file, 1200, .inl (fun _ => 0)))])) (va_Qi (fun (r : Int32) (_ : Unit) => r = 4) (fun (_ : Unit) (t : State) => True) (va_A [(h1, .inr (10, [.int 0, .int 0, .ref m_file, .int 0, .int 0, .ref m_bytes, .ref m_places, .ref m_lengths, .ref m_glyphCount, .ref m_ems, .ref m_wides, .ref m_forms, .ref m_parts, .ref m_charts, .ref m_pointCount, .ref m_contourCount, .ref m_depths, .ref m_xs, .ref m_ys, .ref m_ons, .ref m_contours, .int 0, .int 0, .int 0, .ref m_flags, .ref m_part, .int 0, .ref m_text, .int 0, .ref m_ringX, .ref m_ringY, .ref m_ringOn, .int 0, .ref m_curves, .ref m_windings, .ref m_rows])), (m_file, .inl (c_file, 1200, .inl (fun _ => 0)))] sz)) 0 0 (va_A [(h1, .inr (10, [.int 0, .int 0, .ref m_file, .int 0, .int 0, .ref m_bytes, .ref m_places, .ref m_lengths, .ref m_glyphCount, .ref m_ems, .ref m_wides, .ref m_forms, .ref m_parts, .ref m_charts, .ref m_pointCount, .ref m_contourCount, .ref m_depths, .ref m_xs, .ref m_ys, .ref m_ons, .ref m_contours, .int 0, .int 0, .int 0, .ref m_flags, .ref m_part, .int 0, .ref m_text, .int 0, .ref m_ringX, .ref m_ringY, .ref m_ringOn, .int 0, .ref m_curves, .ref m_windings, .ref m_rows])), (m_file, .inl (c_file, 1200, .inl (fun _ => 0)))] sz) := by
  refine Met.ofW (cc := b_MD_feed) (maxL := 3) (ret := (some .int)) (by decide) rfl ?_
  intro p e s m args below meth c s₁ B hml hv
  obtain ⟨rfl, hsz, hP, hK, hD0⟩ := hv
  have hx := B.exec
  have hb := B.bytes
  have hr := B.returns
  have hts := atoms_spec (ws := s_MD_feed) B.pre
  have hown : s.vm.findClass R_MD = some m.cls := findClass_of_methodNamed B.named
  have hlocks := B.notSynchronized
  subst hsz
  have hD := hD0.self (sz := s.heap.size)
  generalize hAe : va_A [(h1, .inr (10, [.int 0, .int 0, .ref m_file, .int 0, .int 0, .ref m_bytes, .ref m_places, .ref m_lengths, .ref m_glyphCount, .ref m_ems, .ref m_wides, .ref m_forms, .ref m_parts, .ref m_charts, .ref m_pointCount, .ref m_contourCount, .ref m_depths, .ref m_xs, .ref m_ys, .ref m_ons, .ref m_contours, .int 0, .int 0, .int 0, .ref m_flags, .ref m_part, .int 0, .ref m_text, .int 0, .ref m_ringX, .ref m_ringY, .ref m_ringOn, .int 0, .ref m_curves, .ref m_windings, .ref m_rows])), (m_file, .inl (c_file, 1200, .inl (fun _ => 0)))] s.heap.size = A at hD ⊢
  have hA : ∀ q : Nat, s.heap.size ≤ q → A q := fun q h => by rw [← hAe]; exact Or.inr h
  have hS : va_S A s.heap s.heap [] := va_S.rf
  have hP : va_P (dC, dI) cls_ [(h1, .inr (10, [.int 0, .int 0, .ref m_file, .int 0, .int 0, .ref m_bytes, .ref m_places, .ref m_lengths, .ref m_glyphCount, .ref m_ems, .ref m_wides, .ref m_forms, .ref m_parts, .ref m_charts, .ref m_pointCount, .ref m_contourCount, .ref m_depths, .ref m_xs, .ref m_ys, .ref m_ons, .ref m_contours, .int 0, .int 0, .int 0, .ref m_flags, .ref m_part, .int 0, .ref m_text, .int 0, .ref m_ringX, .ref m_ringY, .ref m_ringOn, .int 0, .ref m_curves, .ref m_windings, .ref m_rows])), (m_file, .inl (c_file, 1200, .inl (fun _ => 0)))] s.heap := hP
  have hl := lv_entry ([.ref h1, .int w]) (n := 3) (Nat.le_of_ble_eq_true rfl)
  rw [lg_entry_eq]
  generalize (lg_sl ([.ref h1, .int w]) ++ List.replicate (3 - (lg_sl ([.ref h1, .int w])).length) Slot.unset).toArray = ls at hl ⊢
  have hl : lv_has ls 3 [(0, .ref h1), (1, .int w)] := hl
  refine lv_aload_n hx hb d_MD_feed_0 rfl (lv_at hl 0 rfl) ?_
  refine lv_iconst (v := 0) hx hb d_MD_feed_1 (by decide) ?_
  refine va_put (D := (dC, dI)) (ci := 10) (v := .int 0) (ty := .int) (C := R_MD) (T := F_MD) (N := 36) hx hb hts in_MD t_MD t_MD_ok n_MD hown hK hP hD hS 0 rfl rfl 0 (by decide) (hts _ (List.mem_cons_of_mem _ w_852)) (fun _ h9 => h9) rfl  (by decide +kernel) rfl rfl (Nat.le_of_ble_eq_true rfl) d_MD_feed_2 (fun H locs hP hD hS => ?_)
  have hP : va_P (dC, dI) cls_ [(h1, .inr (10, [.int 0, .int 0, .ref m_file, .int 0, .int 0, .ref m_bytes, .ref m_places, .ref m_lengths, .ref m_glyphCount, .ref m_ems, .ref m_wides, .ref m_forms, .ref m_parts, .ref m_charts, .ref m_pointCount, .ref m_contourCount, .ref m_depths, .ref m_xs, .ref m_ys, .ref m_ons, .ref m_contours, .int 0, .int 0, .int 0, .ref m_flags, .ref m_part, .int 0, .ref m_text, .int 0, .ref m_ringX, .ref m_ringY, .ref m_ringOn, .int 0, .ref m_curves, .ref m_windings, .ref m_rows])), (m_file, .inl (c_file, 1200, .inl (fun _ => 0)))] H := hP
  have hD : va_D A [(h1, .inr (10, [.int 0, .int 0, .ref m_file, .int 0, .int 0, .ref m_bytes, .ref m_places, .ref m_lengths, .ref m_glyphCount, .ref m_ems, .ref m_wides, .ref m_forms, .ref m_parts, .ref m_charts, .ref m_pointCount, .ref m_contourCount, .ref m_depths, .ref m_xs, .ref m_ys, .ref m_ons, .ref m_contours, .int 0, .int 0, .int 0, .ref m_flags, .ref m_part, .int 0, .ref m_text, .int 0, .ref m_ringX, .ref m_ringY, .ref m_ringOn, .int 0, .ref m_curves, .ref m_windings, .ref m_rows])), (m_file, .inl (c_file, 1200, .inl (fun _ => 0)))] := hD
  refine lv_aload_n hx hb d_MD_feed_5 rfl (lv_at hl 0 rfl) ?_
  refine va_get (D := (dC, dI)) (ci := 10) (v := .int 0) (C := R_MD) (T := F_MD) (N := 36) hx hb hts in_MD hown hK hP 0 rfl rfl 1 (by decide) (hts _ (List.mem_cons_of_mem _ w_853)) (fun _ h9 => h9) rfl d_MD_feed_6 ?_
  refine lv_iconst (v := 4) hx hb d_MD_feed_9 (by decide) ?_
  refine lv_iadd hx hb d_MD_feed_10 ?_
  refine lv_ci (y := 4) (by decide +kernel) ?_
  refine lv_sipush (v := 1200) hx hb d_MD_feed_11 (by decide) ?_
  refine lv_icmp_le (tgt := 19) hx hb d_MD_feed_14 (by decide) (fun _ => ?_) (fun hc => absurd hc (by decide +kernel))
  refine lv_iconst (v := 3) hx hb d_MD_feed_19 (by decide) ?_
  refine lv_istore_n (lv' := [(2, .int 3), (0, .ref h1), (1, .int w)]) hx hb d_MD_feed_20 rfl hl (by decide) rfl (fun ls hl => ?_)
  refine lv_iload_n hx hb d_MD_feed_21 rfl (lv_at hl 0 rfl) ?_
  refine lv_if_lt (tgt := 60) hx hb d_MD_feed_22 (by decide) (fun hc => absurd hc (by decide +kernel)) (fun _ => ?_)
  refine lv_aload_n hx hb d_MD_feed_25 rfl (lv_at hl 1 rfl) ?_
  refine va_get (D := (dC, dI)) (ci := 10) (v := .ref m_file) (C := R_MD) (T := F_MD) (N := 36) hx hb hts in_MD hown hK hP 0 rfl rfl 2 (by decide) (hts _ (List.mem_cons_of_mem _ w_854)) (fun _ h9 => h9) rfl d_MD_feed_26 ?_
  refine lv_aload_n hx hb d_MD_feed_29 rfl (lv_at hl 1 rfl) ?_
  refine va_get (D := (dC, dI)) (ci := 10) (v := .int 0) (C := R_MD) (T := F_MD) (N := 36) hx hb hts in_MD hown hK hP 0 rfl rfl 1 (by decide) (hts _ (List.mem_cons_of_mem _ w_853)) (fun _ h9 => h9) rfl d_MD_feed_30 ?_
  refine lv_iload_n hx hb d_MD_feed_33 rfl (lv_at hl 2 rfl) ?_
  refine lv_bipush (v := 8) hx hb d_MD_feed_34 (by decide) ?_
  refine lv_iload_n hx hb d_MD_feed_36 rfl (lv_at hl 0 rfl) ?_
  refine lv_imul hx hb d_MD_feed_37 ?_
  refine lv_ci (y := 24) (by decide +kernel) ?_
  refine lv_ishr hx hb d_MD_feed_38 ?_
  refine lv_sipush (v := 255) hx hb d_MD_feed_39 (by decide) ?_
  refine lv_iand hx hb d_MD_feed_42 ?_
  refine va_iast hx hb hK hP hD hS 1 0 rfl rfl (pk_in 0 1200 (by decide) (by decide +kernel) (by decide)) d_MD_feed_43 (fun H locs hP hD hS => ?_)
  have hP : va_P (dC, dI) cls_ [(h1, .inr (10, [.int 0, .int 0, .ref m_file, .int 0, .int 0, .ref m_bytes, .ref m_places, .ref m_lengths, .ref m_glyphCount, .ref m_ems, .ref m_wides, .ref m_forms, .ref m_parts, .ref m_charts, .ref m_pointCount, .ref m_contourCount, .ref m_depths, .ref m_xs, .ref m_ys, .ref m_ons, .ref m_contours, .int 0, .int 0, .int 0, .ref m_flags, .ref m_part, .int 0, .ref m_text, .int 0, .ref m_ringX, .ref m_ringY, .ref m_ringOn, .int 0, .ref m_curves, .ref m_windings, .ref m_rows])), (m_file, .inl (c_file, 1200, .inl (upd (fun _ => 0) (Int32.toNatClampNeg 0) (w >>> (24 &&& 31) &&& 255))))] H := hP
  have hD : va_D A [(h1, .inr (10, [.int 0, .int 0, .ref m_file, .int 0, .int 0, .ref m_bytes, .ref m_places, .ref m_lengths, .ref m_glyphCount, .ref m_ems, .ref m_wides, .ref m_forms, .ref m_parts, .ref m_charts, .ref m_pointCount, .ref m_contourCount, .ref m_depths, .ref m_xs, .ref m_ys, .ref m_ons, .ref m_contours, .int 0, .int 0, .int 0, .ref m_flags, .ref m_part, .int 0, .ref m_text, .int 0, .ref m_ringX, .ref m_ringY, .ref m_ringOn, .int 0, .ref m_curves, .ref m_windings, .ref m_rows])), (m_file, .inl (c_file, 1200, .inl (upd (fun _ => 0) (Int32.toNatClampNeg 0) (w >>> (24 &&& 31) &&& 255))))] := hD
  refine lv_aload_n hx hb d_MD_feed_44 rfl (lv_at hl 1 rfl) ?_
  refine lv_dup hx hb d_MD_feed_45 rfl ?_
  refine va_get (D := (dC, dI)) (ci := 10) (v := .int 0) (C := R_MD) (T := F_MD) (N := 36) hx hb hts in_MD hown hK hP 0 rfl rfl 1 (by decide) (hts _ (List.mem_cons_of_mem _ w_853)) (fun _ h9 => h9) rfl d_MD_feed_46 ?_
  refine lv_iconst (v := 1) hx hb d_MD_feed_49 (by decide) ?_
  refine lv_iadd hx hb d_MD_feed_50 ?_
  refine lv_ci (y := 1) (by decide +kernel) ?_
  refine va_put (D := (dC, dI)) (ci := 10) (v := .int 1) (ty := .int) (C := R_MD) (T := F_MD) (N := 36) hx hb hts in_MD t_MD t_MD_ok n_MD hown hK hP hD hS 0 rfl rfl 1 (by decide) (hts _ (List.mem_cons_of_mem _ w_853)) (fun _ h9 => h9) rfl  (by decide +kernel) rfl rfl (Nat.le_of_ble_eq_true rfl) d_MD_feed_51 (fun H locs hP hD hS => ?_)
  have hP : va_P (dC, dI) cls_ [(h1, .inr (10, [.int 0, .int 1, .ref m_file, .int 0, .int 0, .ref m_bytes, .ref m_places, .ref m_lengths, .ref m_glyphCount, .ref m_ems, .ref m_wides, .ref m_forms, .ref m_parts, .ref m_charts, .ref m_pointCount, .ref m_contourCount, .ref m_depths, .ref m_xs, .ref m_ys, .ref m_ons, .ref m_contours, .int 0, .int 0, .int 0, .ref m_flags, .ref m_part, .int 0, .ref m_text, .int 0, .ref m_ringX, .ref m_ringY, .ref m_ringOn, .int 0, .ref m_curves, .ref m_windings, .ref m_rows])), (m_file, .inl (c_file, 1200, .inl (upd (fun _ => 0) (Int32.toNatClampNeg 0) (w >>> (24 &&& 31) &&& 255))))] H := hP
  have hD : va_D A [(h1, .inr (10, [.int 0, .int 1, .ref m_file, .int 0, .int 0, .ref m_bytes, .ref m_places, .ref m_lengths, .ref m_glyphCount, .ref m_ems, .ref m_wides, .ref m_forms, .ref m_parts, .ref m_charts, .ref m_pointCount, .ref m_contourCount, .ref m_depths, .ref m_xs, .ref m_ys, .ref m_ons, .ref m_contours, .int 0, .int 0, .int 0, .ref m_flags, .ref m_part, .int 0, .ref m_text, .int 0, .ref m_ringX, .ref m_ringY, .ref m_ringOn, .int 0, .ref m_curves, .ref m_windings, .ref m_rows])), (m_file, .inl (c_file, 1200, .inl (upd (fun _ => 0) (Int32.toNatClampNeg 0) (w >>> (24 &&& 31) &&& 255))))] := hD
  refine lv_iinc (k := 0) (v := 2) (lv' := [(2, .int 2), (0, .ref h1), (1, .int w)]) hx hb d_MD_feed_54 hl rfl (by first | rfl | decide +kernel) (by decide) rfl (fun ls hl => ?_)
  refine lv_goto (tgt := 21) hx hb d_MD_feed_57 (by decide) ?_
  refine lv_iload_n hx hb d_MD_feed_21 rfl (lv_at hl 0 rfl) ?_
  refine lv_if_lt (tgt := 60) hx hb d_MD_feed_22 (by decide) (fun hc => absurd hc (by decide +kernel)) (fun _ => ?_)
  refine lv_aload_n hx hb d_MD_feed_25 rfl (lv_at hl 1 rfl) ?_
  refine va_get (D := (dC, dI)) (ci := 10) (v := .ref m_file) (C := R_MD) (T := F_MD) (N := 36) hx hb hts in_MD hown hK hP 0 rfl rfl 2 (by decide) (hts _ (List.mem_cons_of_mem _ w_854)) (fun _ h9 => h9) rfl d_MD_feed_26 ?_
  refine lv_aload_n hx hb d_MD_feed_29 rfl (lv_at hl 1 rfl) ?_
  refine va_get (D := (dC, dI)) (ci := 10) (v := .int 1) (C := R_MD) (T := F_MD) (N := 36) hx hb hts in_MD hown hK hP 0 rfl rfl 1 (by decide) (hts _ (List.mem_cons_of_mem _ w_853)) (fun _ h9 => h9) rfl d_MD_feed_30 ?_
  refine lv_iload_n hx hb d_MD_feed_33 rfl (lv_at hl 2 rfl) ?_
  refine lv_bipush (v := 8) hx hb d_MD_feed_34 (by decide) ?_
  refine lv_iload_n hx hb d_MD_feed_36 rfl (lv_at hl 0 rfl) ?_
  refine lv_imul hx hb d_MD_feed_37 ?_
  refine lv_ci (y := 16) (by decide +kernel) ?_
  refine lv_ishr hx hb d_MD_feed_38 ?_
  refine lv_sipush (v := 255) hx hb d_MD_feed_39 (by decide) ?_
  refine lv_iand hx hb d_MD_feed_42 ?_
  refine va_iast hx hb hK hP hD hS 1 0 rfl rfl (pk_in 1 1200 (by decide) (by decide +kernel) (by decide)) d_MD_feed_43 (fun H locs hP hD hS => ?_)
  have hP : va_P (dC, dI) cls_ [(h1, .inr (10, [.int 0, .int 1, .ref m_file, .int 0, .int 0, .ref m_bytes, .ref m_places, .ref m_lengths, .ref m_glyphCount, .ref m_ems, .ref m_wides, .ref m_forms, .ref m_parts, .ref m_charts, .ref m_pointCount, .ref m_contourCount, .ref m_depths, .ref m_xs, .ref m_ys, .ref m_ons, .ref m_contours, .int 0, .int 0, .int 0, .ref m_flags, .ref m_part, .int 0, .ref m_text, .int 0, .ref m_ringX, .ref m_ringY, .ref m_ringOn, .int 0, .ref m_curves, .ref m_windings, .ref m_rows])), (m_file, .inl (c_file, 1200, .inl (upd (upd (fun _ => 0) (Int32.toNatClampNeg 0) (w >>> (24 &&& 31) &&& 255)) (Int32.toNatClampNeg 1) (w >>> (16 &&& 31) &&& 255))))] H := hP
  have hD : va_D A [(h1, .inr (10, [.int 0, .int 1, .ref m_file, .int 0, .int 0, .ref m_bytes, .ref m_places, .ref m_lengths, .ref m_glyphCount, .ref m_ems, .ref m_wides, .ref m_forms, .ref m_parts, .ref m_charts, .ref m_pointCount, .ref m_contourCount, .ref m_depths, .ref m_xs, .ref m_ys, .ref m_ons, .ref m_contours, .int 0, .int 0, .int 0, .ref m_flags, .ref m_part, .int 0, .ref m_text, .int 0, .ref m_ringX, .ref m_ringY, .ref m_ringOn, .int 0, .ref m_curves, .ref m_windings, .ref m_rows])), (m_file, .inl (c_file, 1200, .inl (upd (upd (fun _ => 0) (Int32.toNatClampNeg 0) (w >>> (24 &&& 31) &&& 255)) (Int32.toNatClampNeg 1) (w >>> (16 &&& 31) &&& 255))))] := hD
  refine lv_aload_n hx hb d_MD_feed_44 rfl (lv_at hl 1 rfl) ?_
  refine lv_dup hx hb d_MD_feed_45 rfl ?_
  refine va_get (D := (dC, dI)) (ci := 10) (v := .int 1) (C := R_MD) (T := F_MD) (N := 36) hx hb hts in_MD hown hK hP 0 rfl rfl 1 (by decide) (hts _ (List.mem_cons_of_mem _ w_853)) (fun _ h9 => h9) rfl d_MD_feed_46 ?_
  refine lv_iconst (v := 1) hx hb d_MD_feed_49 (by decide) ?_
  refine lv_iadd hx hb d_MD_feed_50 ?_
  refine lv_ci (y := 2) (by decide +kernel) ?_
  refine va_put (D := (dC, dI)) (ci := 10) (v := .int 2) (ty := .int) (C := R_MD) (T := F_MD) (N := 36) hx hb hts in_MD t_MD t_MD_ok n_MD hown hK hP hD hS 0 rfl rfl 1 (by decide) (hts _ (List.mem_cons_of_mem _ w_853)) (fun _ h9 => h9) rfl  (by decide +kernel) rfl rfl (Nat.le_of_ble_eq_true rfl) d_MD_feed_51 (fun H locs hP hD hS => ?_)
  have hP : va_P (dC, dI) cls_ [(h1, .inr (10, [.int 0, .int 2, .ref m_file, .int 0, .int 0, .ref m_bytes, .ref m_places, .ref m_lengths, .ref m_glyphCount, .ref m_ems, .ref m_wides, .ref m_forms, .ref m_parts, .ref m_charts, .ref m_pointCount, .ref m_contourCount, .ref m_depths, .ref m_xs, .ref m_ys, .ref m_ons, .ref m_contours, .int 0, .int 0, .int 0, .ref m_flags, .ref m_part, .int 0, .ref m_text, .int 0, .ref m_ringX, .ref m_ringY, .ref m_ringOn, .int 0, .ref m_curves, .ref m_windings, .ref m_rows])), (m_file, .inl (c_file, 1200, .inl (upd (upd (fun _ => 0) (Int32.toNatClampNeg 0) (w >>> (24 &&& 31) &&& 255)) (Int32.toNatClampNeg 1) (w >>> (16 &&& 31) &&& 255))))] H := hP
  have hD : va_D A [(h1, .inr (10, [.int 0, .int 2, .ref m_file, .int 0, .int 0, .ref m_bytes, .ref m_places, .ref m_lengths, .ref m_glyphCount, .ref m_ems, .ref m_wides, .ref m_forms, .ref m_parts, .ref m_charts, .ref m_pointCount, .ref m_contourCount, .ref m_depths, .ref m_xs, .ref m_ys, .ref m_ons, .ref m_contours, .int 0, .int 0, .int 0, .ref m_flags, .ref m_part, .int 0, .ref m_text, .int 0, .ref m_ringX, .ref m_ringY, .ref m_ringOn, .int 0, .ref m_curves, .ref m_windings, .ref m_rows])), (m_file, .inl (c_file, 1200, .inl (upd (upd (fun _ => 0) (Int32.toNatClampNeg 0) (w >>> (24 &&& 31) &&& 255)) (Int32.toNatClampNeg 1) (w >>> (16 &&& 31) &&& 255))))] := hD
  refine lv_iinc (k := 0) (v := 1) (lv' := [(2, .int 1), (0, .ref h1), (1, .int w)]) hx hb d_MD_feed_54 hl rfl (by first | rfl | decide +kernel) (by decide) rfl (fun ls hl => ?_)
  refine lv_goto (tgt := 21) hx hb d_MD_feed_57 (by decide) ?_
  refine lv_iload_n hx hb d_MD_feed_21 rfl (lv_at hl 0 rfl) ?_
  refine lv_if_lt (tgt := 60) hx hb d_MD_feed_22 (by decide) (fun hc => absurd hc (by decide +kernel)) (fun _ => ?_)
  refine lv_aload_n hx hb d_MD_feed_25 rfl (lv_at hl 1 rfl) ?_
  refine va_get (D := (dC, dI)) (ci := 10) (v := .ref m_file) (C := R_MD) (T := F_MD) (N := 36) hx hb hts in_MD hown hK hP 0 rfl rfl 2 (by decide) (hts _ (List.mem_cons_of_mem _ w_854)) (fun _ h9 => h9) rfl d_MD_feed_26 ?_
  refine lv_aload_n hx hb d_MD_feed_29 rfl (lv_at hl 1 rfl) ?_
  refine va_get (D := (dC, dI)) (ci := 10) (v := .int 2) (C := R_MD) (T := F_MD) (N := 36) hx hb hts in_MD hown hK hP 0 rfl rfl 1 (by decide) (hts _ (List.mem_cons_of_mem _ w_853)) (fun _ h9 => h9) rfl d_MD_feed_30 ?_
  refine lv_iload_n hx hb d_MD_feed_33 rfl (lv_at hl 2 rfl) ?_
  refine lv_bipush (v := 8) hx hb d_MD_feed_34 (by decide) ?_
  refine lv_iload_n hx hb d_MD_feed_36 rfl (lv_at hl 0 rfl) ?_
  refine lv_imul hx hb d_MD_feed_37 ?_
  refine lv_ci (y := 8) (by decide +kernel) ?_
  refine lv_ishr hx hb d_MD_feed_38 ?_
  refine lv_sipush (v := 255) hx hb d_MD_feed_39 (by decide) ?_
  refine lv_iand hx hb d_MD_feed_42 ?_
  refine va_iast hx hb hK hP hD hS 1 0 rfl rfl (pk_in 2 1200 (by decide) (by decide +kernel) (by decide)) d_MD_feed_43 (fun H locs hP hD hS => ?_)
  have hP : va_P (dC, dI) cls_ [(h1, .inr (10, [.int 0, .int 2, .ref m_file, .int 0, .int 0, .ref m_bytes, .ref m_places, .ref m_lengths, .ref m_glyphCount, .ref m_ems, .ref m_wides, .ref m_forms, .ref m_parts, .ref m_charts, .ref m_pointCount, .ref m_contourCount, .ref m_depths, .ref m_xs, .ref m_ys, .ref m_ons, .ref m_contours, .int 0, .int 0, .int 0, .ref m_flags, .ref m_part, .int 0, .ref m_text, .int 0, .ref m_ringX, .ref m_ringY, .ref m_ringOn, .int 0, .ref m_curves, .ref m_windings, .ref m_rows])), (m_file, .inl (c_file, 1200, .inl (upd (upd (upd (fun _ => 0) (Int32.toNatClampNeg 0) (w >>> (24 &&& 31) &&& 255)) (Int32.toNatClampNeg 1) (w >>> (16 &&& 31) &&& 255)) (Int32.toNatClampNeg 2) (w >>> (8 &&& 31) &&& 255))))] H := hP
  have hD : va_D A [(h1, .inr (10, [.int 0, .int 2, .ref m_file, .int 0, .int 0, .ref m_bytes, .ref m_places, .ref m_lengths, .ref m_glyphCount, .ref m_ems, .ref m_wides, .ref m_forms, .ref m_parts, .ref m_charts, .ref m_pointCount, .ref m_contourCount, .ref m_depths, .ref m_xs, .ref m_ys, .ref m_ons, .ref m_contours, .int 0, .int 0, .int 0, .ref m_flags, .ref m_part, .int 0, .ref m_text, .int 0, .ref m_ringX, .ref m_ringY, .ref m_ringOn, .int 0, .ref m_curves, .ref m_windings, .ref m_rows])), (m_file, .inl (c_file, 1200, .inl (upd (upd (upd (fun _ => 0) (Int32.toNatClampNeg 0) (w >>> (24 &&& 31) &&& 255)) (Int32.toNatClampNeg 1) (w >>> (16 &&& 31) &&& 255)) (Int32.toNatClampNeg 2) (w >>> (8 &&& 31) &&& 255))))] := hD
  refine lv_aload_n hx hb d_MD_feed_44 rfl (lv_at hl 1 rfl) ?_
  refine lv_dup hx hb d_MD_feed_45 rfl ?_
  refine va_get (D := (dC, dI)) (ci := 10) (v := .int 2) (C := R_MD) (T := F_MD) (N := 36) hx hb hts in_MD hown hK hP 0 rfl rfl 1 (by decide) (hts _ (List.mem_cons_of_mem _ w_853)) (fun _ h9 => h9) rfl d_MD_feed_46 ?_
  refine lv_iconst (v := 1) hx hb d_MD_feed_49 (by decide) ?_
  refine lv_iadd hx hb d_MD_feed_50 ?_
  refine lv_ci (y := 3) (by decide +kernel) ?_
  refine va_put (D := (dC, dI)) (ci := 10) (v := .int 3) (ty := .int) (C := R_MD) (T := F_MD) (N := 36) hx hb hts in_MD t_MD t_MD_ok n_MD hown hK hP hD hS 0 rfl rfl 1 (by decide) (hts _ (List.mem_cons_of_mem _ w_853)) (fun _ h9 => h9) rfl  (by decide +kernel) rfl rfl (Nat.le_of_ble_eq_true rfl) d_MD_feed_51 (fun H locs hP hD hS => ?_)
  have hP : va_P (dC, dI) cls_ [(h1, .inr (10, [.int 0, .int 3, .ref m_file, .int 0, .int 0, .ref m_bytes, .ref m_places, .ref m_lengths, .ref m_glyphCount, .ref m_ems, .ref m_wides, .ref m_forms, .ref m_parts, .ref m_charts, .ref m_pointCount, .ref m_contourCount, .ref m_depths, .ref m_xs, .ref m_ys, .ref m_ons, .ref m_contours, .int 0, .int 0, .int 0, .ref m_flags, .ref m_part, .int 0, .ref m_text, .int 0, .ref m_ringX, .ref m_ringY, .ref m_ringOn, .int 0, .ref m_curves, .ref m_windings, .ref m_rows])), (m_file, .inl (c_file, 1200, .inl (upd (upd (upd (fun _ => 0) (Int32.toNatClampNeg 0) (w >>> (24 &&& 31) &&& 255)) (Int32.toNatClampNeg 1) (w >>> (16 &&& 31) &&& 255)) (Int32.toNatClampNeg 2) (w >>> (8 &&& 31) &&& 255))))] H := hP
  have hD : va_D A [(h1, .inr (10, [.int 0, .int 3, .ref m_file, .int 0, .int 0, .ref m_bytes, .ref m_places, .ref m_lengths, .ref m_glyphCount, .ref m_ems, .ref m_wides, .ref m_forms, .ref m_parts, .ref m_charts, .ref m_pointCount, .ref m_contourCount, .ref m_depths, .ref m_xs, .ref m_ys, .ref m_ons, .ref m_contours, .int 0, .int 0, .int 0, .ref m_flags, .ref m_part, .int 0, .ref m_text, .int 0, .ref m_ringX, .ref m_ringY, .ref m_ringOn, .int 0, .ref m_curves, .ref m_windings, .ref m_rows])), (m_file, .inl (c_file, 1200, .inl (upd (upd (upd (fun _ => 0) (Int32.toNatClampNeg 0) (w >>> (24 &&& 31) &&& 255)) (Int32.toNatClampNeg 1) (w >>> (16 &&& 31) &&& 255)) (Int32.toNatClampNeg 2) (w >>> (8 &&& 31) &&& 255))))] := hD
  refine lv_iinc (k := 0) (v := 0) (lv' := [(2, .int 0), (0, .ref h1), (1, .int w)]) hx hb d_MD_feed_54 hl rfl (by first | rfl | decide +kernel) (by decide) rfl (fun ls hl => ?_)
  refine lv_goto (tgt := 21) hx hb d_MD_feed_57 (by decide) ?_
  refine lv_iload_n hx hb d_MD_feed_21 rfl (lv_at hl 0 rfl) ?_
  refine lv_if_lt (tgt := 60) hx hb d_MD_feed_22 (by decide) (fun hc => absurd hc (by decide +kernel)) (fun _ => ?_)
  refine lv_aload_n hx hb d_MD_feed_25 rfl (lv_at hl 1 rfl) ?_
  refine va_get (D := (dC, dI)) (ci := 10) (v := .ref m_file) (C := R_MD) (T := F_MD) (N := 36) hx hb hts in_MD hown hK hP 0 rfl rfl 2 (by decide) (hts _ (List.mem_cons_of_mem _ w_854)) (fun _ h9 => h9) rfl d_MD_feed_26 ?_
  refine lv_aload_n hx hb d_MD_feed_29 rfl (lv_at hl 1 rfl) ?_
  refine va_get (D := (dC, dI)) (ci := 10) (v := .int 3) (C := R_MD) (T := F_MD) (N := 36) hx hb hts in_MD hown hK hP 0 rfl rfl 1 (by decide) (hts _ (List.mem_cons_of_mem _ w_853)) (fun _ h9 => h9) rfl d_MD_feed_30 ?_
  refine lv_iload_n hx hb d_MD_feed_33 rfl (lv_at hl 2 rfl) ?_
  refine lv_bipush (v := 8) hx hb d_MD_feed_34 (by decide) ?_
  refine lv_iload_n hx hb d_MD_feed_36 rfl (lv_at hl 0 rfl) ?_
  refine lv_imul hx hb d_MD_feed_37 ?_
  refine lv_ci (y := 0) (by decide +kernel) ?_
  refine lv_ishr hx hb d_MD_feed_38 ?_
  refine lv_sipush (v := 255) hx hb d_MD_feed_39 (by decide) ?_
  refine lv_iand hx hb d_MD_feed_42 ?_
  refine va_iast hx hb hK hP hD hS 1 0 rfl rfl (pk_in 3 1200 (by decide) (by decide +kernel) (by decide)) d_MD_feed_43 (fun H locs hP hD hS => ?_)
  have hP : va_P (dC, dI) cls_ [(h1, .inr (10, [.int 0, .int 3, .ref m_file, .int 0, .int 0, .ref m_bytes, .ref m_places, .ref m_lengths, .ref m_glyphCount, .ref m_ems, .ref m_wides, .ref m_forms, .ref m_parts, .ref m_charts, .ref m_pointCount, .ref m_contourCount, .ref m_depths, .ref m_xs, .ref m_ys, .ref m_ons, .ref m_contours, .int 0, .int 0, .int 0, .ref m_flags, .ref m_part, .int 0, .ref m_text, .int 0, .ref m_ringX, .ref m_ringY, .ref m_ringOn, .int 0, .ref m_curves, .ref m_windings, .ref m_rows])), (m_file, .inl (c_file, 1200, .inl (upd (upd (upd (upd (fun _ => 0) (Int32.toNatClampNeg 0) (w >>> (24 &&& 31) &&& 255)) (Int32.toNatClampNeg 1) (w >>> (16 &&& 31) &&& 255)) (Int32.toNatClampNeg 2) (w >>> (8 &&& 31) &&& 255)) (Int32.toNatClampNeg 3) (w >>> (0 &&& 31) &&& 255))))] H := hP
  have hD : va_D A [(h1, .inr (10, [.int 0, .int 3, .ref m_file, .int 0, .int 0, .ref m_bytes, .ref m_places, .ref m_lengths, .ref m_glyphCount, .ref m_ems, .ref m_wides, .ref m_forms, .ref m_parts, .ref m_charts, .ref m_pointCount, .ref m_contourCount, .ref m_depths, .ref m_xs, .ref m_ys, .ref m_ons, .ref m_contours, .int 0, .int 0, .int 0, .ref m_flags, .ref m_part, .int 0, .ref m_text, .int 0, .ref m_ringX, .ref m_ringY, .ref m_ringOn, .int 0, .ref m_curves, .ref m_windings, .ref m_rows])), (m_file, .inl (c_file, 1200, .inl (upd (upd (upd (upd (fun _ => 0) (Int32.toNatClampNeg 0) (w >>> (24 &&& 31) &&& 255)) (Int32.toNatClampNeg 1) (w >>> (16 &&& 31) &&& 255)) (Int32.toNatClampNeg 2) (w >>> (8 &&& 31) &&& 255)) (Int32.toNatClampNeg 3) (w >>> (0 &&& 31) &&& 255))))] := hD
  refine lv_aload_n hx hb d_MD_feed_44 rfl (lv_at hl 1 rfl) ?_
  refine lv_dup hx hb d_MD_feed_45 rfl ?_
  refine va_get (D := (dC, dI)) (ci := 10) (v := .int 3) (C := R_MD) (T := F_MD) (N := 36) hx hb hts in_MD hown hK hP 0 rfl rfl 1 (by decide) (hts _ (List.mem_cons_of_mem _ w_853)) (fun _ h9 => h9) rfl d_MD_feed_46 ?_
  refine lv_iconst (v := 1) hx hb d_MD_feed_49 (by decide) ?_
  refine lv_iadd hx hb d_MD_feed_50 ?_
  refine lv_ci (y := 4) (by decide +kernel) ?_
  refine va_put (D := (dC, dI)) (ci := 10) (v := .int 4) (ty := .int) (C := R_MD) (T := F_MD) (N := 36) hx hb hts in_MD t_MD t_MD_ok n_MD hown hK hP hD hS 0 rfl rfl 1 (by decide) (hts _ (List.mem_cons_of_mem _ w_853)) (fun _ h9 => h9) rfl  (by decide +kernel) rfl rfl (Nat.le_of_ble_eq_true rfl) d_MD_feed_51 (fun H locs hP hD hS => ?_)
  have hP : va_P (dC, dI) cls_ [(h1, .inr (10, [.int 0, .int 4, .ref m_file, .int 0, .int 0, .ref m_bytes, .ref m_places, .ref m_lengths, .ref m_glyphCount, .ref m_ems, .ref m_wides, .ref m_forms, .ref m_parts, .ref m_charts, .ref m_pointCount, .ref m_contourCount, .ref m_depths, .ref m_xs, .ref m_ys, .ref m_ons, .ref m_contours, .int 0, .int 0, .int 0, .ref m_flags, .ref m_part, .int 0, .ref m_text, .int 0, .ref m_ringX, .ref m_ringY, .ref m_ringOn, .int 0, .ref m_curves, .ref m_windings, .ref m_rows])), (m_file, .inl (c_file, 1200, .inl (upd (upd (upd (upd (fun _ => 0) (Int32.toNatClampNeg 0) (w >>> (24 &&& 31) &&& 255)) (Int32.toNatClampNeg 1) (w >>> (16 &&& 31) &&& 255)) (Int32.toNatClampNeg 2) (w >>> (8 &&& 31) &&& 255)) (Int32.toNatClampNeg 3) (w >>> (0 &&& 31) &&& 255))))] H := hP
  have hD : va_D A [(h1, .inr (10, [.int 0, .int 4, .ref m_file, .int 0, .int 0, .ref m_bytes, .ref m_places, .ref m_lengths, .ref m_glyphCount, .ref m_ems, .ref m_wides, .ref m_forms, .ref m_parts, .ref m_charts, .ref m_pointCount, .ref m_contourCount, .ref m_depths, .ref m_xs, .ref m_ys, .ref m_ons, .ref m_contours, .int 0, .int 0, .int 0, .ref m_flags, .ref m_part, .int 0, .ref m_text, .int 0, .ref m_ringX, .ref m_ringY, .ref m_ringOn, .int 0, .ref m_curves, .ref m_windings, .ref m_rows])), (m_file, .inl (c_file, 1200, .inl (upd (upd (upd (upd (fun _ => 0) (Int32.toNatClampNeg 0) (w >>> (24 &&& 31) &&& 255)) (Int32.toNatClampNeg 1) (w >>> (16 &&& 31) &&& 255)) (Int32.toNatClampNeg 2) (w >>> (8 &&& 31) &&& 255)) (Int32.toNatClampNeg 3) (w >>> (0 &&& 31) &&& 255))))] := hD
  refine lv_iinc (k := 0) (v := (-1)) (lv' := [(2, .int ((-1))), (0, .ref h1), (1, .int w)]) hx hb d_MD_feed_54 hl rfl (by first | rfl | decide +kernel) (by decide) rfl (fun ls hl => ?_)
  refine lv_goto (tgt := 21) hx hb d_MD_feed_57 (by decide) ?_
  refine lv_iload_n hx hb d_MD_feed_21 rfl (lv_at hl 0 rfl) ?_
  refine lv_if_lt (tgt := 60) hx hb d_MD_feed_22 (by decide) (fun _ => ?_) (fun hc => absurd hc (by decide +kernel))
  refine lv_aload_n hx hb d_MD_feed_60 rfl (lv_at hl 1 rfl) ?_
  refine va_get (D := (dC, dI)) (ci := 10) (v := .int 4) (C := R_MD) (T := F_MD) (N := 36) hx hb hts in_MD hown hK hP 0 rfl rfl 1 (by decide) (hts _ (List.mem_cons_of_mem _ w_853)) (fun _ h9 => h9) rfl d_MD_feed_61 ?_
  refine W.widen (k := 0) (n := 0) (Nat.le_of_ble_eq_true rfl) (Nat.le_of_ble_eq_true rfl) ?_
  exact W.iret (v := 4) hx hb hr (fun t ht hW => ⟨⟨4, (), rfl, rfl, trivial⟩, hS.F ht⟩) hS.2.2 d_MD_feed_64
set_option maxHeartbeats 4000000 in
set_option maxRecDepth 100000 in
/-- GlyphLinesModel.at -/
theorem c_MD_at (l : Launch) (dC : Nat → ClassId) (dI : Nat → Nat → Nat) (h1 m_file m_bytes m_places m_lengths m_glyphCount m_ems m_wides m_forms m_parts m_charts m_pointCount m_contourCount m_depths m_xs m_ys m_ons m_contours m_flags m_part m_text m_ringX m_ringY m_ringOn m_curves m_windings m_rows : Nat) (i : Int32) (sz : Nat) : Met l y_MD_at s_MD_at ({ frames := 8, cells := 0, slots := 0, locals := 200 }) (va_Pc [.ref h1, .int i] (fun U => U.heap.size = sz ∧ va_P (dC, dI) cls_ [(h1, .inr (10, [.int 0, .int 0, .ref m_file, .int 0, .int 0, .ref m_bytes, .ref m_places, .ref m_lengths, .ref m_glyphCount, .ref m_ems, .ref m_wides, .ref m_forms, .ref m_parts, .ref m_charts, .ref m_pointCount, .ref m_contourCount, .ref m_depths, .ref m_xs, .ref m_ys, .ref m_ons, .ref m_contours, .int 0, .int 0, .int 0, .ref m_flags, .ref m_part, .int 0, .ref m_text, .int 0, .ref m_ringX, .ref m_ringY, .ref m_ringOn, .int 0, .ref m_curves, .ref m_windings, .ref m_rows]))] U.heap ∧ va_K (dC, dI) cls_ [] U ∧ va_D (fun _ => True) [(h1, .inr (10, [.int 0, .int 0, .ref m_file, .int 0, .int 0, .ref m_bytes, .ref m_places, .ref m_lengths, .ref m_glyphCount, .ref m_ems, .ref m_wides, .ref m_forms, .ref m_parts, .ref m_charts, .ref m_pointCount, .ref m_contourCount, .ref m_depths, .ref m_xs, .ref m_ys, .ref m_ons, .ref m_contours, .int 0, .int 0, .int 0, .ref m_flags, .ref m_part, .int 0, .ref m_text, .int 0, .ref m_ringX, .ref m_ringY, .ref m_ringOn, .int 0, .ref m_curves, .ref m_windings, .ref m_rows]))])) (va_Qi (fun (r : Int32) (_ : Unit) => r = -1) (fun (_ : Unit) (t : State) => True) (va_A [(h1, .inr (10, [.int 0, .int 0, .ref m_file, .int 0, .int 0, .ref m_bytes, .ref m_places, .ref m_lengths, .ref m_glyphCount, .ref m_ems, .ref m_wides, .ref m_forms, .ref m_parts, .ref m_charts, .ref m_pointCount, .ref m_contourCount, .ref m_depths, .ref m_xs, .ref m_ys, .ref m_ons, .ref m_contours, .int 0, .int 0, .int 0, .ref m_flags, .ref m_part, .int 0, .ref m_text, .int 0, .ref m_ringX, .ref m_ringY, .ref m_ringOn, .int 0, .ref m_curves, .ref m_windings, .ref m_rows]))] sz)) 0 0 (va_A [(h1, .inr (10, [.int 0, .int 0, .ref m_file, .int 0, .int 0, .ref m_bytes, .ref m_places, .ref m_lengths, .ref m_glyphCount, .ref m_ems, .ref m_wides, .ref m_forms, .ref m_parts, .ref m_charts, .ref m_pointCount, .ref m_contourCount, .ref m_depths, .ref m_xs, .ref m_ys, .ref m_ons, .ref m_contours, .int 0, .int 0, .int 0, .ref m_flags, .ref m_part, .int 0, .ref m_text, .int 0, .ref m_ringX, .ref m_ringY, .ref m_ringOn, .int 0, .ref m_curves, .ref m_windings, .ref m_rows]))] sz) := by
  refine Met.ofW (cc := b_MD_at) (maxL := 2) (ret := (some .int)) (by decide) rfl ?_
  intro p e s m args below meth c s₁ B hml hv
  obtain ⟨rfl, hsz, hP, hK, hD0⟩ := hv
  have hx := B.exec
  have hb := B.bytes
  have hr := B.returns
  have hts := atoms_spec (ws := s_MD_at) B.pre
  have hown : s.vm.findClass R_MD = some m.cls := findClass_of_methodNamed B.named
  have hlocks := B.notSynchronized
  subst hsz
  have hD := hD0.self (sz := s.heap.size)
  generalize hAe : va_A [(h1, .inr (10, [.int 0, .int 0, .ref m_file, .int 0, .int 0, .ref m_bytes, .ref m_places, .ref m_lengths, .ref m_glyphCount, .ref m_ems, .ref m_wides, .ref m_forms, .ref m_parts, .ref m_charts, .ref m_pointCount, .ref m_contourCount, .ref m_depths, .ref m_xs, .ref m_ys, .ref m_ons, .ref m_contours, .int 0, .int 0, .int 0, .ref m_flags, .ref m_part, .int 0, .ref m_text, .int 0, .ref m_ringX, .ref m_ringY, .ref m_ringOn, .int 0, .ref m_curves, .ref m_windings, .ref m_rows]))] s.heap.size = A at hD ⊢
  have hA : ∀ q : Nat, s.heap.size ≤ q → A q := fun q h => by rw [← hAe]; exact Or.inr h
  have hS : va_S A s.heap s.heap [] := va_S.rf
  have hP : va_P (dC, dI) cls_ [(h1, .inr (10, [.int 0, .int 0, .ref m_file, .int 0, .int 0, .ref m_bytes, .ref m_places, .ref m_lengths, .ref m_glyphCount, .ref m_ems, .ref m_wides, .ref m_forms, .ref m_parts, .ref m_charts, .ref m_pointCount, .ref m_contourCount, .ref m_depths, .ref m_xs, .ref m_ys, .ref m_ons, .ref m_contours, .int 0, .int 0, .int 0, .ref m_flags, .ref m_part, .int 0, .ref m_text, .int 0, .ref m_ringX, .ref m_ringY, .ref m_ringOn, .int 0, .ref m_curves, .ref m_windings, .ref m_rows]))] s.heap := hP
  have hl := lv_entry ([.ref h1, .int i]) (n := 2) (Nat.le_of_ble_eq_true rfl)
  rw [lg_entry_eq]
  generalize (lg_sl ([.ref h1, .int i]) ++ List.replicate (2 - (lg_sl ([.ref h1, .int i])).length) Slot.unset).toArray = ls at hl ⊢
  have hl : lv_has ls 2 [(0, .ref h1), (1, .int i)] := hl
  refine lv_aload_n hx hb d_MD_at_0 rfl (lv_at hl 0 rfl) ?_
  refine lv_iconst (v := 0) hx hb d_MD_at_1 (by decide) ?_
  refine va_put (D := (dC, dI)) (ci := 10) (v := .int 0) (ty := .int) (C := R_MD) (T := F_MD) (N := 36) hx hb hts in_MD t_MD t_MD_ok n_MD hown hK hP hD hS 0 rfl rfl 0 (by decide) (hts _ (List.mem_cons_of_mem _ w_852)) (fun _ h9 => h9) rfl  (by decide +kernel) rfl rfl (Nat.le_of_ble_eq_true rfl) d_MD_at_2 (fun H locs hP hD hS => ?_)
  have hP : va_P (dC, dI) cls_ [(h1, .inr (10, [.int 0, .int 0, .ref m_file, .int 0, .int 0, .ref m_bytes, .ref m_places, .ref m_lengths, .ref m_glyphCount, .ref m_ems, .ref m_wides, .ref m_forms, .ref m_parts, .ref m_charts, .ref m_pointCount, .ref m_contourCount, .ref m_depths, .ref m_xs, .ref m_ys, .ref m_ons, .ref m_contours, .int 0, .int 0, .int 0, .ref m_flags, .ref m_part, .int 0, .ref m_text, .int 0, .ref m_ringX, .ref m_ringY, .ref m_ringOn, .int 0, .ref m_curves, .ref m_windings, .ref m_rows]))] H := hP
  have hD : va_D A [(h1, .inr (10, [.int 0, .int 0, .ref m_file, .int 0, .int 0, .ref m_bytes, .ref m_places, .ref m_lengths, .ref m_glyphCount, .ref m_ems, .ref m_wides, .ref m_forms, .ref m_parts, .ref m_charts, .ref m_pointCount, .ref m_contourCount, .ref m_depths, .ref m_xs, .ref m_ys, .ref m_ons, .ref m_contours, .int 0, .int 0, .int 0, .ref m_flags, .ref m_part, .int 0, .ref m_text, .int 0, .ref m_ringX, .ref m_ringY, .ref m_ringOn, .int 0, .ref m_curves, .ref m_windings, .ref m_rows]))] := hD
  refine lv_iload_n hx hb d_MD_at_5 rfl (lv_at hl 1 rfl) ?_
  refine lv_if_lt (tgt := 17) hx hb d_MD_at_6 (by decide) (fun hc178 => ?_) (fun hc178 => ?_)
  · skip
    refine lv_iconst (v := (-1)) hx hb d_MD_at_17 (by decide) ?_
    refine lv_goto (tgt := 27) hx hb d_MD_at_18 (by decide) ?_
    refine W.widen (k := 0) (n := 0) (Nat.le_of_ble_eq_true rfl) (Nat.le_of_ble_eq_true rfl) ?_
    exact W.iret (v := (-1)) hx hb hr (fun t ht hW => ⟨⟨(-1), (), rfl, rfl, trivial⟩, hS.F ht⟩) hS.2.2 d_MD_at_27
  · skip
    refine lv_iload_n hx hb d_MD_at_9 rfl (lv_at hl 1 rfl) ?_
    refine lv_aload_n hx hb d_MD_at_10 rfl (lv_at hl 0 rfl) ?_
    refine va_get (D := (dC, dI)) (ci := 10) (v := .int 0) (C := R_MD) (T := F_MD) (N := 36) hx hb hts in_MD hown hK hP 0 rfl rfl 1 (by decide) (hts _ (List.mem_cons_of_mem _ w_853)) (fun _ h9 => h9) rfl d_MD_at_11 ?_
    refine lv_icmp_lt (tgt := 21) hx hb d_MD_at_14 (by decide) (fun hc179 => ?_) (fun hc179 => ?_)
    · skip
      exact absurd hc179 hc178
    · skip
      refine lv_iconst (v := (-1)) hx hb d_MD_at_17 (by decide) ?_
      refine lv_goto (tgt := 27) hx hb d_MD_at_18 (by decide) ?_
      refine W.widen (k := 0) (n := 0) (Nat.le_of_ble_eq_true rfl) (Nat.le_of_ble_eq_true rfl) ?_
      exact W.iret (v := (-1)) hx hb hr (fun t ht hW => ⟨⟨(-1), (), rfl, rfl, trivial⟩, hS.F ht⟩) hS.2.2 d_MD_at_27
set_option maxHeartbeats 4000000 in
set_option maxRecDepth 100000 in
/-- GlyphLinesModel.wipe -/
theorem c_MD_wipe (l : Launch) (dC : Nat → ClassId) (dI : Nat → Nat → Nat) (h1 m_file m_bytes m_places m_lengths m_glyphCount m_ems m_wides m_forms m_parts m_charts m_pointCount m_contourCount m_depths m_xs m_ys m_ons m_contours m_flags m_part m_text m_ringX m_ringY m_ringOn m_curves m_windings m_rows : Nat) (sz : Nat) : Met l y_MD_wipe s_MD_wipe ({ frames := 8, cells := 0, slots := 0, locals := 200 }) (va_Pc [.ref h1] (fun U => U.heap.size = sz ∧ va_P (dC, dI) cls_ [(h1, .inr (10, [.int 0, .int 0, .ref m_file, .int 0, .int 0, .ref m_bytes, .ref m_places, .ref m_lengths, .ref m_glyphCount, .ref m_ems, .ref m_wides, .ref m_forms, .ref m_parts, .ref m_charts, .ref m_pointCount, .ref m_contourCount, .ref m_depths, .ref m_xs, .ref m_ys, .ref m_ons, .ref m_contours, .int 0, .int 0, .int 0, .ref m_flags, .ref m_part, .int 0, .ref m_text, .int 0, .ref m_ringX, .ref m_ringY, .ref m_ringOn, .int 0, .ref m_curves, .ref m_windings, .ref m_rows]))] U.heap ∧ va_K (dC, dI) cls_ [] U ∧ va_D (fun _ => True) [(h1, .inr (10, [.int 0, .int 0, .ref m_file, .int 0, .int 0, .ref m_bytes, .ref m_places, .ref m_lengths, .ref m_glyphCount, .ref m_ems, .ref m_wides, .ref m_forms, .ref m_parts, .ref m_charts, .ref m_pointCount, .ref m_contourCount, .ref m_depths, .ref m_xs, .ref m_ys, .ref m_ons, .ref m_contours, .int 0, .int 0, .int 0, .ref m_flags, .ref m_part, .int 0, .ref m_text, .int 0, .ref m_ringX, .ref m_ringY, .ref m_ringOn, .int 0, .ref m_curves, .ref m_windings, .ref m_rows]))])) (va_Qi (fun (r : Int32) (_ : Unit) => r = 0) (fun (_ : Unit) (t : State) => True) (va_A [(h1, .inr (10, [.int 0, .int 0, .ref m_file, .int 0, .int 0, .ref m_bytes, .ref m_places, .ref m_lengths, .ref m_glyphCount, .ref m_ems, .ref m_wides, .ref m_forms, .ref m_parts, .ref m_charts, .ref m_pointCount, .ref m_contourCount, .ref m_depths, .ref m_xs, .ref m_ys, .ref m_ons, .ref m_contours, .int 0, .int 0, .int 0, .ref m_flags, .ref m_part, .int 0, .ref m_text, .int 0, .ref m_ringX, .ref m_ringY, .ref m_ringOn, .int 0, .ref m_curves, .ref m_windings, .ref m_rows]))] sz)) 0 0 (va_A [(h1, .inr (10, [.int 0, .int 0, .ref m_file, .int 0, .int 0, .ref m_bytes, .ref m_places, .ref m_lengths, .ref m_glyphCount, .ref m_ems, .ref m_wides, .ref m_forms, .ref m_parts, .ref m_charts, .ref m_pointCount, .ref m_contourCount, .ref m_depths, .ref m_xs, .ref m_ys, .ref m_ons, .ref m_contours, .int 0, .int 0, .int 0, .ref m_flags, .ref m_part, .int 0, .ref m_text, .int 0, .ref m_ringX, .ref m_ringY, .ref m_ringOn, .int 0, .ref m_curves, .ref m_windings, .ref m_rows]))] sz) := by
  refine Met.ofW (cc := b_MD_wipe) (maxL := 2) (ret := (some .int)) (by decide) rfl ?_
  intro p e s m args below meth c s₁ B hml hv
  obtain ⟨rfl, hsz, hP, hK, hD0⟩ := hv
  have hx := B.exec
  have hb := B.bytes
  have hr := B.returns
  have hts := atoms_spec (ws := s_MD_wipe) B.pre
  have hown : s.vm.findClass R_MD = some m.cls := findClass_of_methodNamed B.named
  have hlocks := B.notSynchronized
  subst hsz
  have hD := hD0.self (sz := s.heap.size)
  generalize hAe : va_A [(h1, .inr (10, [.int 0, .int 0, .ref m_file, .int 0, .int 0, .ref m_bytes, .ref m_places, .ref m_lengths, .ref m_glyphCount, .ref m_ems, .ref m_wides, .ref m_forms, .ref m_parts, .ref m_charts, .ref m_pointCount, .ref m_contourCount, .ref m_depths, .ref m_xs, .ref m_ys, .ref m_ons, .ref m_contours, .int 0, .int 0, .int 0, .ref m_flags, .ref m_part, .int 0, .ref m_text, .int 0, .ref m_ringX, .ref m_ringY, .ref m_ringOn, .int 0, .ref m_curves, .ref m_windings, .ref m_rows]))] s.heap.size = A at hD ⊢
  have hA : ∀ q : Nat, s.heap.size ≤ q → A q := fun q h => by rw [← hAe]; exact Or.inr h
  have hS : va_S A s.heap s.heap [] := va_S.rf
  have hP : va_P (dC, dI) cls_ [(h1, .inr (10, [.int 0, .int 0, .ref m_file, .int 0, .int 0, .ref m_bytes, .ref m_places, .ref m_lengths, .ref m_glyphCount, .ref m_ems, .ref m_wides, .ref m_forms, .ref m_parts, .ref m_charts, .ref m_pointCount, .ref m_contourCount, .ref m_depths, .ref m_xs, .ref m_ys, .ref m_ons, .ref m_contours, .int 0, .int 0, .int 0, .ref m_flags, .ref m_part, .int 0, .ref m_text, .int 0, .ref m_ringX, .ref m_ringY, .ref m_ringOn, .int 0, .ref m_curves, .ref m_windings, .ref m_rows]))] s.heap := hP
  have hl := lv_entry ([.ref h1]) (n := 2) (Nat.le_of_ble_eq_true rfl)
  rw [lg_entry_eq]
  generalize (lg_sl ([.ref h1]) ++ List.replicate (2 - (lg_sl ([.ref h1])).length) Slot.unset).toArray = ls at hl ⊢
  have hl : lv_has ls 2 [(0, .ref h1)] := hl
  refine lv_aload_n hx hb d_MD_wipe_0 rfl (lv_at hl 0 rfl) ?_
  refine lv_iconst (v := 0) hx hb d_MD_wipe_1 (by decide) ?_
  refine va_put (D := (dC, dI)) (ci := 10) (v := .int 0) (ty := .int) (C := R_MD) (T := F_MD) (N := 36) hx hb hts in_MD t_MD t_MD_ok n_MD hown hK hP hD hS 0 rfl rfl 0 (by decide) (hts _ (List.mem_cons_of_mem _ w_852)) (fun _ h9 => h9) rfl  (by decide +kernel) rfl rfl (Nat.le_of_ble_eq_true rfl) d_MD_wipe_2 (fun H locs hP hD hS => ?_)
  have hP : va_P (dC, dI) cls_ [(h1, .inr (10, [.int 0, .int 0, .ref m_file, .int 0, .int 0, .ref m_bytes, .ref m_places, .ref m_lengths, .ref m_glyphCount, .ref m_ems, .ref m_wides, .ref m_forms, .ref m_parts, .ref m_charts, .ref m_pointCount, .ref m_contourCount, .ref m_depths, .ref m_xs, .ref m_ys, .ref m_ons, .ref m_contours, .int 0, .int 0, .int 0, .ref m_flags, .ref m_part, .int 0, .ref m_text, .int 0, .ref m_ringX, .ref m_ringY, .ref m_ringOn, .int 0, .ref m_curves, .ref m_windings, .ref m_rows]))] H := hP
  have hD : va_D A [(h1, .inr (10, [.int 0, .int 0, .ref m_file, .int 0, .int 0, .ref m_bytes, .ref m_places, .ref m_lengths, .ref m_glyphCount, .ref m_ems, .ref m_wides, .ref m_forms, .ref m_parts, .ref m_charts, .ref m_pointCount, .ref m_contourCount, .ref m_depths, .ref m_xs, .ref m_ys, .ref m_ons, .ref m_contours, .int 0, .int 0, .int 0, .ref m_flags, .ref m_part, .int 0, .ref m_text, .int 0, .ref m_ringX, .ref m_ringY, .ref m_ringOn, .int 0, .ref m_curves, .ref m_windings, .ref m_rows]))] := hD
  refine lv_aload_n hx hb d_MD_wipe_5 rfl (lv_at hl 0 rfl) ?_
  refine va_get (D := (dC, dI)) (ci := 10) (v := .int 0) (C := R_MD) (T := F_MD) (N := 36) hx hb hts in_MD hown hK hP 0 rfl rfl 26 (by decide) (hts _ (List.mem_cons_of_mem _ w_878)) (fun _ h9 => h9) rfl d_MD_wipe_6 ?_
  refine lv_istore_n (lv' := [(1, .int 0), (0, .ref h1)]) hx hb d_MD_wipe_9 rfl hl (by decide) rfl (fun ls hl => ?_)
  refine lv_aload_n hx hb d_MD_wipe_10 rfl (lv_at hl 1 rfl) ?_
  refine lv_iconst (v := 0) hx hb d_MD_wipe_11 (by decide) ?_
  refine va_put (D := (dC, dI)) (ci := 10) (v := .int 0) (ty := .int) (C := R_MD) (T := F_MD) (N := 36) hx hb hts in_MD t_MD t_MD_ok n_MD hown hK hP hD hS 0 rfl rfl 26 (by decide) (hts _ (List.mem_cons_of_mem _ w_878)) (fun _ h9 => h9) rfl  (by decide +kernel) rfl rfl (Nat.le_of_ble_eq_true rfl) d_MD_wipe_12 (fun H locs hP hD hS => ?_)
  have hP : va_P (dC, dI) cls_ [(h1, .inr (10, [.int 0, .int 0, .ref m_file, .int 0, .int 0, .ref m_bytes, .ref m_places, .ref m_lengths, .ref m_glyphCount, .ref m_ems, .ref m_wides, .ref m_forms, .ref m_parts, .ref m_charts, .ref m_pointCount, .ref m_contourCount, .ref m_depths, .ref m_xs, .ref m_ys, .ref m_ons, .ref m_contours, .int 0, .int 0, .int 0, .ref m_flags, .ref m_part, .int 0, .ref m_text, .int 0, .ref m_ringX, .ref m_ringY, .ref m_ringOn, .int 0, .ref m_curves, .ref m_windings, .ref m_rows]))] H := hP
  have hD : va_D A [(h1, .inr (10, [.int 0, .int 0, .ref m_file, .int 0, .int 0, .ref m_bytes, .ref m_places, .ref m_lengths, .ref m_glyphCount, .ref m_ems, .ref m_wides, .ref m_forms, .ref m_parts, .ref m_charts, .ref m_pointCount, .ref m_contourCount, .ref m_depths, .ref m_xs, .ref m_ys, .ref m_ons, .ref m_contours, .int 0, .int 0, .int 0, .ref m_flags, .ref m_part, .int 0, .ref m_text, .int 0, .ref m_ringX, .ref m_ringY, .ref m_ringOn, .int 0, .ref m_curves, .ref m_windings, .ref m_rows]))] := hD
  refine lv_iload_n hx hb d_MD_wipe_15 rfl (lv_at hl 0 rfl) ?_
  refine W.widen (k := 0) (n := 0) (Nat.le_of_ble_eq_true rfl) (Nat.le_of_ble_eq_true rfl) ?_
  exact W.iret (v := 0) hx hb hr (fun t ht hW => ⟨⟨0, (), rfl, rfl, trivial⟩, hS.F ht⟩) hS.2.2 d_MD_wipe_16
set_option maxHeartbeats 4000000 in
set_option maxRecDepth 100000 in
/-- GlyphLinesModel.type -/
theorem c_MD_type (l : Launch) (dC : Nat → ClassId) (dI : Nat → Nat → Nat) (h1 m_file m_bytes m_places m_lengths m_glyphCount m_ems m_wides m_forms m_parts m_charts m_pointCount m_contourCount m_depths m_xs m_ys m_ons m_contours m_flags m_part m_text m_ringX m_ringY m_ringOn m_curves m_windings m_rows : Nat) (c_text : ClassId) (ch : Int32) (sz : Nat) : Met l y_MD_type s_MD_type ({ frames := 8, cells := 0, slots := 0, locals := 200 }) (va_Pc [.ref h1, .int ch] (fun U => U.heap.size = sz ∧ va_P (dC, dI) cls_ [(h1, .inr (10, [.int 0, .int 0, .ref m_file, .int 0, .int 0, .ref m_bytes, .ref m_places, .ref m_lengths, .ref m_glyphCount, .ref m_ems, .ref m_wides, .ref m_forms, .ref m_parts, .ref m_charts, .ref m_pointCount, .ref m_contourCount, .ref m_depths, .ref m_xs, .ref m_ys, .ref m_ons, .ref m_contours, .int 0, .int 0, .int 0, .ref m_flags, .ref m_part, .int 0, .ref m_text, .int 0, .ref m_ringX, .ref m_ringY, .ref m_ringOn, .int 0, .ref m_curves, .ref m_windings, .ref m_rows])), (m_text, .inl (c_text, 12, .inl (fun _ => 0)))] U.heap ∧ va_K (dC, dI) cls_ [(c_text, .int)] U ∧ va_D (fun _ => True) [(h1, .inr (10, [.int 0, .int 0, .ref m_file, .int 0, .int 0, .ref m_bytes, .ref m_places, .ref m_lengths, .ref m_glyphCount, .ref m_ems, .ref m_wides, .ref m_forms, .ref m_parts, .ref m_charts, .ref m_pointCount, .ref m_contourCount, .ref m_depths, .ref m_xs, .ref m_ys, .ref m_ons, .ref m_contours, .int 0, .int 0, .int 0, .ref m_flags, .ref m_part, .int 0, .ref m_text, .int 0, .ref m_ringX, .ref m_ringY, .ref m_ringOn, .int 0, .ref m_curves, .ref m_windings, .ref m_rows])), (m_text, .inl (c_text, 12, .inl (fun _ => 0)))])) (va_Qi (fun (r : Int32) (_ : Unit) => r = (if 0 ≤ ch ∧ ch ≤ 65535 then 1 else 0)) (fun (_ : Unit) (t : State) => True) (va_A [(h1, .inr (10, [.int 0, .int 0, .ref m_file, .int 0, .int 0, .ref m_bytes, .ref m_places, .ref m_lengths, .ref m_glyphCount, .ref m_ems, .ref m_wides, .ref m_forms, .ref m_parts, .ref m_charts, .ref m_pointCount, .ref m_contourCount, .ref m_depths, .ref m_xs, .ref m_ys, .ref m_ons, .ref m_contours, .int 0, .int 0, .int 0, .ref m_flags, .ref m_part, .int 0, .ref m_text, .int 0, .ref m_ringX, .ref m_ringY, .ref m_ringOn, .int 0, .ref m_curves, .ref m_windings, .ref m_rows])), (m_text, .inl (c_text, 12, .inl (fun _ => 0)))] sz)) 0 0 (va_A [(h1, .inr (10, [.int 0, .int 0, .ref m_file, .int 0, .int 0, .ref m_bytes, .ref m_places, .ref m_lengths, .ref m_glyphCount, .ref m_ems, .ref m_wides, .ref m_forms, .ref m_parts, .ref m_charts, .ref m_pointCount, .ref m_contourCount, .ref m_depths, .ref m_xs, .ref m_ys, .ref m_ons, .ref m_contours, .int 0, .int 0, .int 0, .ref m_flags, .ref m_part, .int 0, .ref m_text, .int 0, .ref m_ringX, .ref m_ringY, .ref m_ringOn, .int 0, .ref m_curves, .ref m_windings, .ref m_rows])), (m_text, .inl (c_text, 12, .inl (fun _ => 0)))] sz) := by
  refine Met.ofW (cc := b_MD_type) (maxL := 2) (ret := (some .boolean)) (by decide) rfl ?_
  intro p e s m args below meth c s₁ B hml hv
  obtain ⟨rfl, hsz, hP, hK, hD0⟩ := hv
  have hx := B.exec
  have hb := B.bytes
  have hr := B.returns
  have hts := atoms_spec (ws := s_MD_type) B.pre
  have hown : s.vm.findClass R_MD = some m.cls := findClass_of_methodNamed B.named
  have hlocks := B.notSynchronized
  subst hsz
  have hD := hD0.self (sz := s.heap.size)
  generalize hAe : va_A [(h1, .inr (10, [.int 0, .int 0, .ref m_file, .int 0, .int 0, .ref m_bytes, .ref m_places, .ref m_lengths, .ref m_glyphCount, .ref m_ems, .ref m_wides, .ref m_forms, .ref m_parts, .ref m_charts, .ref m_pointCount, .ref m_contourCount, .ref m_depths, .ref m_xs, .ref m_ys, .ref m_ons, .ref m_contours, .int 0, .int 0, .int 0, .ref m_flags, .ref m_part, .int 0, .ref m_text, .int 0, .ref m_ringX, .ref m_ringY, .ref m_ringOn, .int 0, .ref m_curves, .ref m_windings, .ref m_rows])), (m_text, .inl (c_text, 12, .inl (fun _ => 0)))] s.heap.size = A at hD ⊢
  have hA : ∀ q : Nat, s.heap.size ≤ q → A q := fun q h => by rw [← hAe]; exact Or.inr h
  have hS : va_S A s.heap s.heap [] := va_S.rf
  have hP : va_P (dC, dI) cls_ [(h1, .inr (10, [.int 0, .int 0, .ref m_file, .int 0, .int 0, .ref m_bytes, .ref m_places, .ref m_lengths, .ref m_glyphCount, .ref m_ems, .ref m_wides, .ref m_forms, .ref m_parts, .ref m_charts, .ref m_pointCount, .ref m_contourCount, .ref m_depths, .ref m_xs, .ref m_ys, .ref m_ons, .ref m_contours, .int 0, .int 0, .int 0, .ref m_flags, .ref m_part, .int 0, .ref m_text, .int 0, .ref m_ringX, .ref m_ringY, .ref m_ringOn, .int 0, .ref m_curves, .ref m_windings, .ref m_rows])), (m_text, .inl (c_text, 12, .inl (fun _ => 0)))] s.heap := hP
  have hl := lv_entry ([.ref h1, .int ch]) (n := 2) (Nat.le_of_ble_eq_true rfl)
  rw [lg_entry_eq]
  generalize (lg_sl ([.ref h1, .int ch]) ++ List.replicate (2 - (lg_sl ([.ref h1, .int ch])).length) Slot.unset).toArray = ls at hl ⊢
  have hl : lv_has ls 2 [(0, .ref h1), (1, .int ch)] := hl
  refine lv_aload_n hx hb d_MD_type_0 rfl (lv_at hl 0 rfl) ?_
  refine lv_iconst (v := 0) hx hb d_MD_type_1 (by decide) ?_
  refine va_put (D := (dC, dI)) (ci := 10) (v := .int 0) (ty := .int) (C := R_MD) (T := F_MD) (N := 36) hx hb hts in_MD t_MD t_MD_ok n_MD hown hK hP hD hS 0 rfl rfl 0 (by decide) (hts _ (List.mem_cons_of_mem _ w_852)) (fun _ h9 => h9) rfl  (by decide +kernel) rfl rfl (Nat.le_of_ble_eq_true rfl) d_MD_type_2 (fun H locs hP hD hS => ?_)
  have hP : va_P (dC, dI) cls_ [(h1, .inr (10, [.int 0, .int 0, .ref m_file, .int 0, .int 0, .ref m_bytes, .ref m_places, .ref m_lengths, .ref m_glyphCount, .ref m_ems, .ref m_wides, .ref m_forms, .ref m_parts, .ref m_charts, .ref m_pointCount, .ref m_contourCount, .ref m_depths, .ref m_xs, .ref m_ys, .ref m_ons, .ref m_contours, .int 0, .int 0, .int 0, .ref m_flags, .ref m_part, .int 0, .ref m_text, .int 0, .ref m_ringX, .ref m_ringY, .ref m_ringOn, .int 0, .ref m_curves, .ref m_windings, .ref m_rows])), (m_text, .inl (c_text, 12, .inl (fun _ => 0)))] H := hP
  have hD : va_D A [(h1, .inr (10, [.int 0, .int 0, .ref m_file, .int 0, .int 0, .ref m_bytes, .ref m_places, .ref m_lengths, .ref m_glyphCount, .ref m_ems, .ref m_wides, .ref m_forms, .ref m_parts, .ref m_charts, .ref m_pointCount, .ref m_contourCount, .ref m_depths, .ref m_xs, .ref m_ys, .ref m_ons, .ref m_contours, .int 0, .int 0, .int 0, .ref m_flags, .ref m_part, .int 0, .ref m_text, .int 0, .ref m_ringX, .ref m_ringY, .ref m_ringOn, .int 0, .ref m_curves, .ref m_windings, .ref m_rows])), (m_text, .inl (c_text, 12, .inl (fun _ => 0)))] := hD
  refine lv_iload_n hx hb d_MD_type_5 rfl (lv_at hl 1 rfl) ?_
  refine lv_if_lt (tgt := 24) hx hb d_MD_type_6 (by decide) (fun hc180 => ?_) (fun hc180 => ?_)
  · skip
    refine lv_iconst (v := 0) hx hb d_MD_type_24 (by decide) ?_
    refine W.widen (k := 0) (n := 0) (Nat.le_of_ble_eq_true rfl) (Nat.le_of_ble_eq_true rfl) ?_
    exact W.zret (v := 0) (ty := .boolean) hx hb hr (by decide +kernel) (fun t ht hW => ⟨⟨0, (), rfl, (if_neg (fun z => absurd hc180 (Int32.not_lt.mpr z.1))).symm, trivial⟩, hS.F ht⟩) hS.2.2 d_MD_type_25
  · skip
    refine lv_iload_n hx hb d_MD_type_9 rfl (lv_at hl 1 rfl) ?_
    refine lv_ldc (v := 65535) hx hb hown (hts _ (List.mem_cons_of_mem _ w_1043)) d_MD_type_10 ?_
    refine lv_icmp_gt (tgt := 24) hx hb d_MD_type_12 (by decide) (fun hc181 => ?_) (fun hc181 => ?_)
    · skip
      refine lv_iconst (v := 0) hx hb d_MD_type_24 (by decide) ?_
      refine W.widen (k := 0) (n := 0) (Nat.le_of_ble_eq_true rfl) (Nat.le_of_ble_eq_true rfl) ?_
      exact W.zret (v := 0) (ty := .boolean) hx hb hr (by decide +kernel) (fun t ht hW => ⟨⟨0, (), rfl, (if_neg (fun z => absurd hc181 (Int32.not_lt.mpr z.2))).symm, trivial⟩, hS.F ht⟩) hS.2.2 d_MD_type_25
    · skip
      refine lv_aload_n hx hb d_MD_type_15 rfl (lv_at hl 0 rfl) ?_
      refine va_get (D := (dC, dI)) (ci := 10) (v := .int 0) (C := R_MD) (T := F_MD) (N := 36) hx hb hts in_MD hown hK hP 0 rfl rfl 26 (by decide) (hts _ (List.mem_cons_of_mem _ w_878)) (fun _ h9 => h9) rfl d_MD_type_16 ?_
      refine lv_bipush (v := 12) hx hb d_MD_type_19 (by decide) ?_
      refine lv_icmp_ne (tgt := 26) hx hb d_MD_type_21 (by decide) (fun _ => ?_) (fun hc => absurd hc (by decide +kernel))
      refine lv_aload_n hx hb d_MD_type_26 rfl (lv_at hl 0 rfl) ?_
      refine va_get (D := (dC, dI)) (ci := 10) (v := .ref m_text) (C := R_MD) (T := F_MD) (N := 36) hx hb hts in_MD hown hK hP 0 rfl rfl 27 (by decide) (hts _ (List.mem_cons_of_mem _ w_879)) (fun _ h9 => h9) rfl d_MD_type_27 ?_
      refine lv_aload_n hx hb d_MD_type_30 rfl (lv_at hl 0 rfl) ?_
      refine va_get (D := (dC, dI)) (ci := 10) (v := .int 0) (C := R_MD) (T := F_MD) (N := 36) hx hb hts in_MD hown hK hP 0 rfl rfl 26 (by decide) (hts _ (List.mem_cons_of_mem _ w_878)) (fun _ h9 => h9) rfl d_MD_type_31 ?_
      refine lv_iload_n hx hb d_MD_type_34 rfl (lv_at hl 1 rfl) ?_
      refine va_iast hx hb hK hP hD hS 1 0 rfl rfl (pk_in 0 12 (by decide) (by decide +kernel) (by decide)) d_MD_type_35 (fun H locs hP hD hS => ?_)
      have hP : va_P (dC, dI) cls_ [(h1, .inr (10, [.int 0, .int 0, .ref m_file, .int 0, .int 0, .ref m_bytes, .ref m_places, .ref m_lengths, .ref m_glyphCount, .ref m_ems, .ref m_wides, .ref m_forms, .ref m_parts, .ref m_charts, .ref m_pointCount, .ref m_contourCount, .ref m_depths, .ref m_xs, .ref m_ys, .ref m_ons, .ref m_contours, .int 0, .int 0, .int 0, .ref m_flags, .ref m_part, .int 0, .ref m_text, .int 0, .ref m_ringX, .ref m_ringY, .ref m_ringOn, .int 0, .ref m_curves, .ref m_windings, .ref m_rows])), (m_text, .inl (c_text, 12, .inl (upd (fun _ => 0) (Int32.toNatClampNeg 0) (ch))))] H := hP
      have hD : va_D A [(h1, .inr (10, [.int 0, .int 0, .ref m_file, .int 0, .int 0, .ref m_bytes, .ref m_places, .ref m_lengths, .ref m_glyphCount, .ref m_ems, .ref m_wides, .ref m_forms, .ref m_parts, .ref m_charts, .ref m_pointCount, .ref m_contourCount, .ref m_depths, .ref m_xs, .ref m_ys, .ref m_ons, .ref m_contours, .int 0, .int 0, .int 0, .ref m_flags, .ref m_part, .int 0, .ref m_text, .int 0, .ref m_ringX, .ref m_ringY, .ref m_ringOn, .int 0, .ref m_curves, .ref m_windings, .ref m_rows])), (m_text, .inl (c_text, 12, .inl (upd (fun _ => 0) (Int32.toNatClampNeg 0) (ch))))] := hD
      refine lv_aload_n hx hb d_MD_type_36 rfl (lv_at hl 0 rfl) ?_
      refine lv_dup hx hb d_MD_type_37 rfl ?_
      refine va_get (D := (dC, dI)) (ci := 10) (v := .int 0) (C := R_MD) (T := F_MD) (N := 36) hx hb hts in_MD hown hK hP 0 rfl rfl 26 (by decide) (hts _ (List.mem_cons_of_mem _ w_878)) (fun _ h9 => h9) rfl d_MD_type_38 ?_
      refine lv_iconst (v := 1) hx hb d_MD_type_41 (by decide) ?_
      refine lv_iadd hx hb d_MD_type_42 ?_
      refine lv_ci (y := 1) (by decide +kernel) ?_
      refine va_put (D := (dC, dI)) (ci := 10) (v := .int 1) (ty := .int) (C := R_MD) (T := F_MD) (N := 36) hx hb hts in_MD t_MD t_MD_ok n_MD hown hK hP hD hS 0 rfl rfl 26 (by decide) (hts _ (List.mem_cons_of_mem _ w_878)) (fun _ h9 => h9) rfl  (by decide +kernel) rfl rfl (Nat.le_of_ble_eq_true rfl) d_MD_type_43 (fun H locs hP hD hS => ?_)
      have hP : va_P (dC, dI) cls_ [(h1, .inr (10, [.int 0, .int 0, .ref m_file, .int 0, .int 0, .ref m_bytes, .ref m_places, .ref m_lengths, .ref m_glyphCount, .ref m_ems, .ref m_wides, .ref m_forms, .ref m_parts, .ref m_charts, .ref m_pointCount, .ref m_contourCount, .ref m_depths, .ref m_xs, .ref m_ys, .ref m_ons, .ref m_contours, .int 0, .int 0, .int 0, .ref m_flags, .ref m_part, .int 1, .ref m_text, .int 0, .ref m_ringX, .ref m_ringY, .ref m_ringOn, .int 0, .ref m_curves, .ref m_windings, .ref m_rows])), (m_text, .inl (c_text, 12, .inl (upd (fun _ => 0) (Int32.toNatClampNeg 0) (ch))))] H := hP
      have hD : va_D A [(h1, .inr (10, [.int 0, .int 0, .ref m_file, .int 0, .int 0, .ref m_bytes, .ref m_places, .ref m_lengths, .ref m_glyphCount, .ref m_ems, .ref m_wides, .ref m_forms, .ref m_parts, .ref m_charts, .ref m_pointCount, .ref m_contourCount, .ref m_depths, .ref m_xs, .ref m_ys, .ref m_ons, .ref m_contours, .int 0, .int 0, .int 0, .ref m_flags, .ref m_part, .int 1, .ref m_text, .int 0, .ref m_ringX, .ref m_ringY, .ref m_ringOn, .int 0, .ref m_curves, .ref m_windings, .ref m_rows])), (m_text, .inl (c_text, 12, .inl (upd (fun _ => 0) (Int32.toNatClampNeg 0) (ch))))] := hD
      refine lv_iconst (v := 1) hx hb d_MD_type_46 (by decide) ?_
      refine W.widen (k := 0) (n := 0) (Nat.le_of_ble_eq_true rfl) (Nat.le_of_ble_eq_true rfl) ?_
      exact W.zret (v := 1) (ty := .boolean) hx hb hr (by decide +kernel) (fun t ht hW => ⟨⟨1, (), rfl, (if_pos ⟨Int32.not_lt.mp hc180, Int32.not_lt.mp hc181⟩).symm, trivial⟩, hS.F ht⟩) hS.2.2 d_MD_type_47
set_option maxHeartbeats 4000000 in
set_option maxRecDepth 100000 in
/-- GlyphLinesModel.isFile -/
theorem c_MD_isFile (l : Launch) (dC : Nat → ClassId) (dI : Nat → Nat → Nat) (h1 m_file m_bytes m_places m_lengths m_glyphCount m_ems m_wides m_forms m_parts m_charts m_pointCount m_contourCount m_depths m_xs m_ys m_ons m_contours m_flags m_part m_text m_ringX m_ringY m_ringOn m_curves m_windings m_rows : Nat) (c_places : ClassId) (sz : Nat) : Met l y_MD_isFile s_MD_isFile ({ frames := 8, cells := 0, slots := 0, locals := 200 }) (va_Pc [.ref h1, .int 1] (fun U => U.heap.size = sz ∧ va_P (dC, dI) cls_ [(h1, .inr (10, [.int 0, .int 0, .ref m_file, .int 0, .int 0, .ref m_bytes, .ref m_places, .ref m_lengths, .ref m_glyphCount, .ref m_ems, .ref m_wides, .ref m_forms, .ref m_parts, .ref m_charts, .ref m_pointCount, .ref m_contourCount, .ref m_depths, .ref m_xs, .ref m_ys, .ref m_ons, .ref m_contours, .int 0, .int 0, .int 0, .ref m_flags, .ref m_part, .int 0, .ref m_text, .int 0, .ref m_ringX, .ref m_ringY, .ref m_ringOn, .int 0, .ref m_curves, .ref m_windings, .ref m_rows])), (m_places, .inl (c_places, 16, .inl (fun _ => 0)))] U.heap ∧ va_K (dC, dI) cls_ [(c_places, .int)] U ∧ va_D (fun _ => True) [(h1, .inr (10, [.int 0, .int 0, .ref m_file, .int 0, .int 0, .ref m_bytes, .ref m_places, .ref m_lengths, .ref m_glyphCount, .ref m_ems, .ref m_wides, .ref m_forms, .ref m_parts, .ref m_charts, .ref m_pointCount, .ref m_contourCount, .ref m_depths, .ref m_xs, .ref m_ys, .ref m_ons, .ref m_contours, .int 0, .int 0, .int 0, .ref m_flags, .ref m_part, .int 0, .ref m_text, .int 0, .ref m_ringX, .ref m_ringY, .ref m_ringOn, .int 0, .ref m_curves, .ref m_windings, .ref m_rows])), (m_places, .inl (c_places, 16, .inl (fun _ => 0)))])) (va_Qi (fun (r : Int32) (_ : Unit) => r = 0) (fun (_ : Unit) (t : State) => True) (va_A [(h1, .inr (10, [.int 0, .int 0, .ref m_file, .int 0, .int 0, .ref m_bytes, .ref m_places, .ref m_lengths, .ref m_glyphCount, .ref m_ems, .ref m_wides, .ref m_forms, .ref m_parts, .ref m_charts, .ref m_pointCount, .ref m_contourCount, .ref m_depths, .ref m_xs, .ref m_ys, .ref m_ons, .ref m_contours, .int 0, .int 0, .int 0, .ref m_flags, .ref m_part, .int 0, .ref m_text, .int 0, .ref m_ringX, .ref m_ringY, .ref m_ringOn, .int 0, .ref m_curves, .ref m_windings, .ref m_rows])), (m_places, .inl (c_places, 16, .inl (fun _ => 0)))] sz)) 0 0 (va_A [(h1, .inr (10, [.int 0, .int 0, .ref m_file, .int 0, .int 0, .ref m_bytes, .ref m_places, .ref m_lengths, .ref m_glyphCount, .ref m_ems, .ref m_wides, .ref m_forms, .ref m_parts, .ref m_charts, .ref m_pointCount, .ref m_contourCount, .ref m_depths, .ref m_xs, .ref m_ys, .ref m_ons, .ref m_contours, .int 0, .int 0, .int 0, .ref m_flags, .ref m_part, .int 0, .ref m_text, .int 0, .ref m_ringX, .ref m_ringY, .ref m_ringOn, .int 0, .ref m_curves, .ref m_windings, .ref m_rows])), (m_places, .inl (c_places, 16, .inl (fun _ => 0)))] sz) := by
  refine Met.ofW (cc := b_MD_isFile) (maxL := 13) (ret := (some .boolean)) (by decide) rfl ?_
  intro p e s m args below meth c s₁ B hml hv
  obtain ⟨rfl, hsz, hP, hK, hD0⟩ := hv
  have hx := B.exec
  have hb := B.bytes
  have hr := B.returns
  have hts := atoms_spec (ws := s_MD_isFile) B.pre
  have hown : s.vm.findClass R_MD = some m.cls := findClass_of_methodNamed B.named
  have hlocks := B.notSynchronized
  subst hsz
  have hD := hD0.self (sz := s.heap.size)
  generalize hAe : va_A [(h1, .inr (10, [.int 0, .int 0, .ref m_file, .int 0, .int 0, .ref m_bytes, .ref m_places, .ref m_lengths, .ref m_glyphCount, .ref m_ems, .ref m_wides, .ref m_forms, .ref m_parts, .ref m_charts, .ref m_pointCount, .ref m_contourCount, .ref m_depths, .ref m_xs, .ref m_ys, .ref m_ons, .ref m_contours, .int 0, .int 0, .int 0, .ref m_flags, .ref m_part, .int 0, .ref m_text, .int 0, .ref m_ringX, .ref m_ringY, .ref m_ringOn, .int 0, .ref m_curves, .ref m_windings, .ref m_rows])), (m_places, .inl (c_places, 16, .inl (fun _ => 0)))] s.heap.size = A at hD ⊢
  have hA : ∀ q : Nat, s.heap.size ≤ q → A q := fun q h => by rw [← hAe]; exact Or.inr h
  have hS : va_S A s.heap s.heap [] := va_S.rf
  have hP : va_P (dC, dI) cls_ [(h1, .inr (10, [.int 0, .int 0, .ref m_file, .int 0, .int 0, .ref m_bytes, .ref m_places, .ref m_lengths, .ref m_glyphCount, .ref m_ems, .ref m_wides, .ref m_forms, .ref m_parts, .ref m_charts, .ref m_pointCount, .ref m_contourCount, .ref m_depths, .ref m_xs, .ref m_ys, .ref m_ons, .ref m_contours, .int 0, .int 0, .int 0, .ref m_flags, .ref m_part, .int 0, .ref m_text, .int 0, .ref m_ringX, .ref m_ringY, .ref m_ringOn, .int 0, .ref m_curves, .ref m_windings, .ref m_rows])), (m_places, .inl (c_places, 16, .inl (fun _ => 0)))] s.heap := hP
  have hl := lv_entry ([.ref h1, .int 1]) (n := 13) (Nat.le_of_ble_eq_true rfl)
  rw [lg_entry_eq]
  generalize (lg_sl ([.ref h1, .int 1]) ++ List.replicate (13 - (lg_sl ([.ref h1, .int 1])).length) Slot.unset).toArray = ls at hl ⊢
  have hl : lv_has ls 13 [(0, .ref h1), (1, .int 1)] := hl
  refine lv_iconst (v := 0) hx hb d_MD_isFile_0 (by decide) ?_
  refine lv_istore_n (lv' := [(2, .int 0), (0, .ref h1), (1, .int 1)]) hx hb d_MD_isFile_1 rfl hl (by decide) rfl (fun ls hl => ?_)
  refine lv_iload_n hx hb d_MD_isFile_2 rfl (lv_at hl 0 rfl) ?_
  refine lv_bipush (v := 8) hx hb d_MD_isFile_3 (by decide) ?_
  refine lv_icmp_ge (tgt := 26) hx hb d_MD_isFile_5 (by decide) (fun hc => absurd hc (by decide +kernel)) (fun _ => ?_)
  refine lv_aload_n hx hb d_MD_isFile_8 rfl (lv_at hl 1 rfl) ?_
  refine va_get (D := (dC, dI)) (ci := 10) (v := .ref m_places) (C := R_MD) (T := F_MD) (N := 36) hx hb hts in_MD hown hK hP 0 rfl rfl 6 (by decide) (hts _ (List.mem_cons_of_mem _ w_858)) (fun _ h9 => h9) rfl d_MD_isFile_9 ?_
  refine lv_bipush (v := 8) hx hb d_MD_isFile_12 (by decide) ?_
  refine lv_iload_n hx hb d_MD_isFile_14 rfl (lv_at hl 2 rfl) ?_
  refine lv_imul hx hb d_MD_isFile_15 ?_
  refine lv_ci (y := 8) (by decide +kernel) ?_
  refine lv_iload_n hx hb d_MD_isFile_16 rfl (lv_at hl 0 rfl) ?_
  refine lv_iadd hx hb d_MD_isFile_17 ?_
  refine lv_ci (y := 8) (by decide +kernel) ?_
  refine lv_iconst (v := (-1)) hx hb d_MD_isFile_18 (by decide) ?_
  refine va_iast hx hb hK hP hD hS 1 0 rfl rfl (pk_in 8 16 (by decide) (by decide +kernel) (by decide)) d_MD_isFile_19 (fun H locs hP hD hS => ?_)
  have hP : va_P (dC, dI) cls_ [(h1, .inr (10, [.int 0, .int 0, .ref m_file, .int 0, .int 0, .ref m_bytes, .ref m_places, .ref m_lengths, .ref m_glyphCount, .ref m_ems, .ref m_wides, .ref m_forms, .ref m_parts, .ref m_charts, .ref m_pointCount, .ref m_contourCount, .ref m_depths, .ref m_xs, .ref m_ys, .ref m_ons, .ref m_contours, .int 0, .int 0, .int 0, .ref m_flags, .ref m_part, .int 0, .ref m_text, .int 0, .ref m_ringX, .ref m_ringY, .ref m_ringOn, .int 0, .ref m_curves, .ref m_windings, .ref m_rows])), (m_places, .inl (c_places, 16, .inl (upd (fun _ => 0) (Int32.toNatClampNeg 8) ((-1)))))] H := hP
  have hD : va_D A [(h1, .inr (10, [.int 0, .int 0, .ref m_file, .int 0, .int 0, .ref m_bytes, .ref m_places, .ref m_lengths, .ref m_glyphCount, .ref m_ems, .ref m_wides, .ref m_forms, .ref m_parts, .ref m_charts, .ref m_pointCount, .ref m_contourCount, .ref m_depths, .ref m_xs, .ref m_ys, .ref m_ons, .ref m_contours, .int 0, .int 0, .int 0, .ref m_flags, .ref m_part, .int 0, .ref m_text, .int 0, .ref m_ringX, .ref m_ringY, .ref m_ringOn, .int 0, .ref m_curves, .ref m_windings, .ref m_rows])), (m_places, .inl (c_places, 16, .inl (upd (fun _ => 0) (Int32.toNatClampNeg 8) ((-1)))))] := hD
  refine lv_iinc (k := 0) (v := 1) (lv' := [(2, .int 1), (0, .ref h1), (1, .int 1)]) hx hb d_MD_isFile_20 hl rfl (by first | rfl | decide +kernel) (by decide) rfl (fun ls hl => ?_)
  refine lv_goto (tgt := 2) hx hb d_MD_isFile_23 (by decide) ?_
  refine lv_iload_n hx hb d_MD_isFile_2 rfl (lv_at hl 0 rfl) ?_
  refine lv_bipush (v := 8) hx hb d_MD_isFile_3 (by decide) ?_
  refine lv_icmp_ge (tgt := 26) hx hb d_MD_isFile_5 (by decide) (fun hc => absurd hc (by decide +kernel)) (fun _ => ?_)
  refine lv_aload_n hx hb d_MD_isFile_8 rfl (lv_at hl 1 rfl) ?_
  refine va_get (D := (dC, dI)) (ci := 10) (v := .ref m_places) (C := R_MD) (T := F_MD) (N := 36) hx hb hts in_MD hown hK hP 0 rfl rfl 6 (by decide) (hts _ (List.mem_cons_of_mem _ w_858)) (fun _ h9 => h9) rfl d_MD_isFile_9 ?_
  refine lv_bipush (v := 8) hx hb d_MD_isFile_12 (by decide) ?_
  refine lv_iload_n hx hb d_MD_isFile_14 rfl (lv_at hl 2 rfl) ?_
  refine lv_imul hx hb d_MD_isFile_15 ?_
  refine lv_ci (y := 8) (by decide +kernel) ?_
  refine lv_iload_n hx hb d_MD_isFile_16 rfl (lv_at hl 0 rfl) ?_
  refine lv_iadd hx hb d_MD_isFile_17 ?_
  refine lv_ci (y := 9) (by decide +kernel) ?_
  refine lv_iconst (v := (-1)) hx hb d_MD_isFile_18 (by decide) ?_
  refine va_iast hx hb hK hP hD hS 1 0 rfl rfl (pk_in 9 16 (by decide) (by decide +kernel) (by decide)) d_MD_isFile_19 (fun H locs hP hD hS => ?_)
  have hP : va_P (dC, dI) cls_ [(h1, .inr (10, [.int 0, .int 0, .ref m_file, .int 0, .int 0, .ref m_bytes, .ref m_places, .ref m_lengths, .ref m_glyphCount, .ref m_ems, .ref m_wides, .ref m_forms, .ref m_parts, .ref m_charts, .ref m_pointCount, .ref m_contourCount, .ref m_depths, .ref m_xs, .ref m_ys, .ref m_ons, .ref m_contours, .int 0, .int 0, .int 0, .ref m_flags, .ref m_part, .int 0, .ref m_text, .int 0, .ref m_ringX, .ref m_ringY, .ref m_ringOn, .int 0, .ref m_curves, .ref m_windings, .ref m_rows])), (m_places, .inl (c_places, 16, .inl (upd (upd (fun _ => 0) (Int32.toNatClampNeg 8) ((-1))) (Int32.toNatClampNeg 9) ((-1)))))] H := hP
  have hD : va_D A [(h1, .inr (10, [.int 0, .int 0, .ref m_file, .int 0, .int 0, .ref m_bytes, .ref m_places, .ref m_lengths, .ref m_glyphCount, .ref m_ems, .ref m_wides, .ref m_forms, .ref m_parts, .ref m_charts, .ref m_pointCount, .ref m_contourCount, .ref m_depths, .ref m_xs, .ref m_ys, .ref m_ons, .ref m_contours, .int 0, .int 0, .int 0, .ref m_flags, .ref m_part, .int 0, .ref m_text, .int 0, .ref m_ringX, .ref m_ringY, .ref m_ringOn, .int 0, .ref m_curves, .ref m_windings, .ref m_rows])), (m_places, .inl (c_places, 16, .inl (upd (upd (fun _ => 0) (Int32.toNatClampNeg 8) ((-1))) (Int32.toNatClampNeg 9) ((-1)))))] := hD
  refine lv_iinc (k := 0) (v := 2) (lv' := [(2, .int 2), (0, .ref h1), (1, .int 1)]) hx hb d_MD_isFile_20 hl rfl (by first | rfl | decide +kernel) (by decide) rfl (fun ls hl => ?_)
  refine lv_goto (tgt := 2) hx hb d_MD_isFile_23 (by decide) ?_
  refine lv_iload_n hx hb d_MD_isFile_2 rfl (lv_at hl 0 rfl) ?_
  refine lv_bipush (v := 8) hx hb d_MD_isFile_3 (by decide) ?_
  refine lv_icmp_ge (tgt := 26) hx hb d_MD_isFile_5 (by decide) (fun hc => absurd hc (by decide +kernel)) (fun _ => ?_)
  refine lv_aload_n hx hb d_MD_isFile_8 rfl (lv_at hl 1 rfl) ?_
  refine va_get (D := (dC, dI)) (ci := 10) (v := .ref m_places) (C := R_MD) (T := F_MD) (N := 36) hx hb hts in_MD hown hK hP 0 rfl rfl 6 (by decide) (hts _ (List.mem_cons_of_mem _ w_858)) (fun _ h9 => h9) rfl d_MD_isFile_9 ?_
  refine lv_bipush (v := 8) hx hb d_MD_isFile_12 (by decide) ?_
  refine lv_iload_n hx hb d_MD_isFile_14 rfl (lv_at hl 2 rfl) ?_
  refine lv_imul hx hb d_MD_isFile_15 ?_
  refine lv_ci (y := 8) (by decide +kernel) ?_
  refine lv_iload_n hx hb d_MD_isFile_16 rfl (lv_at hl 0 rfl) ?_
  refine lv_iadd hx hb d_MD_isFile_17 ?_
  refine lv_ci (y := 10) (by decide +kernel) ?_
  refine lv_iconst (v := (-1)) hx hb d_MD_isFile_18 (by decide) ?_
  refine va_iast hx hb hK hP hD hS 1 0 rfl rfl (pk_in 10 16 (by decide) (by decide +kernel) (by decide)) d_MD_isFile_19 (fun H locs hP hD hS => ?_)
  have hP : va_P (dC, dI) cls_ [(h1, .inr (10, [.int 0, .int 0, .ref m_file, .int 0, .int 0, .ref m_bytes, .ref m_places, .ref m_lengths, .ref m_glyphCount, .ref m_ems, .ref m_wides, .ref m_forms, .ref m_parts, .ref m_charts, .ref m_pointCount, .ref m_contourCount, .ref m_depths, .ref m_xs, .ref m_ys, .ref m_ons, .ref m_contours, .int 0, .int 0, .int 0, .ref m_flags, .ref m_part, .int 0, .ref m_text, .int 0, .ref m_ringX, .ref m_ringY, .ref m_ringOn, .int 0, .ref m_curves, .ref m_windings, .ref m_rows])), (m_places, .inl (c_places, 16, .inl (upd (upd (upd (fun _ => 0) (Int32.toNatClampNeg 8) ((-1))) (Int32.toNatClampNeg 9) ((-1))) (Int32.toNatClampNeg 10) ((-1)))))] H := hP
  have hD : va_D A [(h1, .inr (10, [.int 0, .int 0, .ref m_file, .int 0, .int 0, .ref m_bytes, .ref m_places, .ref m_lengths, .ref m_glyphCount, .ref m_ems, .ref m_wides, .ref m_forms, .ref m_parts, .ref m_charts, .ref m_pointCount, .ref m_contourCount, .ref m_depths, .ref m_xs, .ref m_ys, .ref m_ons, .ref m_contours, .int 0, .int 0, .int 0, .ref m_flags, .ref m_part, .int 0, .ref m_text, .int 0, .ref m_ringX, .ref m_ringY, .ref m_ringOn, .int 0, .ref m_curves, .ref m_windings, .ref m_rows])), (m_places, .inl (c_places, 16, .inl (upd (upd (upd (fun _ => 0) (Int32.toNatClampNeg 8) ((-1))) (Int32.toNatClampNeg 9) ((-1))) (Int32.toNatClampNeg 10) ((-1)))))] := hD
  refine lv_iinc (k := 0) (v := 3) (lv' := [(2, .int 3), (0, .ref h1), (1, .int 1)]) hx hb d_MD_isFile_20 hl rfl (by first | rfl | decide +kernel) (by decide) rfl (fun ls hl => ?_)
  refine lv_goto (tgt := 2) hx hb d_MD_isFile_23 (by decide) ?_
  refine lv_iload_n hx hb d_MD_isFile_2 rfl (lv_at hl 0 rfl) ?_
  refine lv_bipush (v := 8) hx hb d_MD_isFile_3 (by decide) ?_
  refine lv_icmp_ge (tgt := 26) hx hb d_MD_isFile_5 (by decide) (fun hc => absurd hc (by decide +kernel)) (fun _ => ?_)
  refine lv_aload_n hx hb d_MD_isFile_8 rfl (lv_at hl 1 rfl) ?_
  refine va_get (D := (dC, dI)) (ci := 10) (v := .ref m_places) (C := R_MD) (T := F_MD) (N := 36) hx hb hts in_MD hown hK hP 0 rfl rfl 6 (by decide) (hts _ (List.mem_cons_of_mem _ w_858)) (fun _ h9 => h9) rfl d_MD_isFile_9 ?_
  refine lv_bipush (v := 8) hx hb d_MD_isFile_12 (by decide) ?_
  refine lv_iload_n hx hb d_MD_isFile_14 rfl (lv_at hl 2 rfl) ?_
  refine lv_imul hx hb d_MD_isFile_15 ?_
  refine lv_ci (y := 8) (by decide +kernel) ?_
  refine lv_iload_n hx hb d_MD_isFile_16 rfl (lv_at hl 0 rfl) ?_
  refine lv_iadd hx hb d_MD_isFile_17 ?_
  refine lv_ci (y := 11) (by decide +kernel) ?_
  refine lv_iconst (v := (-1)) hx hb d_MD_isFile_18 (by decide) ?_
  refine va_iast hx hb hK hP hD hS 1 0 rfl rfl (pk_in 11 16 (by decide) (by decide +kernel) (by decide)) d_MD_isFile_19 (fun H locs hP hD hS => ?_)
  have hP : va_P (dC, dI) cls_ [(h1, .inr (10, [.int 0, .int 0, .ref m_file, .int 0, .int 0, .ref m_bytes, .ref m_places, .ref m_lengths, .ref m_glyphCount, .ref m_ems, .ref m_wides, .ref m_forms, .ref m_parts, .ref m_charts, .ref m_pointCount, .ref m_contourCount, .ref m_depths, .ref m_xs, .ref m_ys, .ref m_ons, .ref m_contours, .int 0, .int 0, .int 0, .ref m_flags, .ref m_part, .int 0, .ref m_text, .int 0, .ref m_ringX, .ref m_ringY, .ref m_ringOn, .int 0, .ref m_curves, .ref m_windings, .ref m_rows])), (m_places, .inl (c_places, 16, .inl (upd (upd (upd (upd (fun _ => 0) (Int32.toNatClampNeg 8) ((-1))) (Int32.toNatClampNeg 9) ((-1))) (Int32.toNatClampNeg 10) ((-1))) (Int32.toNatClampNeg 11) ((-1)))))] H := hP
  have hD : va_D A [(h1, .inr (10, [.int 0, .int 0, .ref m_file, .int 0, .int 0, .ref m_bytes, .ref m_places, .ref m_lengths, .ref m_glyphCount, .ref m_ems, .ref m_wides, .ref m_forms, .ref m_parts, .ref m_charts, .ref m_pointCount, .ref m_contourCount, .ref m_depths, .ref m_xs, .ref m_ys, .ref m_ons, .ref m_contours, .int 0, .int 0, .int 0, .ref m_flags, .ref m_part, .int 0, .ref m_text, .int 0, .ref m_ringX, .ref m_ringY, .ref m_ringOn, .int 0, .ref m_curves, .ref m_windings, .ref m_rows])), (m_places, .inl (c_places, 16, .inl (upd (upd (upd (upd (fun _ => 0) (Int32.toNatClampNeg 8) ((-1))) (Int32.toNatClampNeg 9) ((-1))) (Int32.toNatClampNeg 10) ((-1))) (Int32.toNatClampNeg 11) ((-1)))))] := hD
  refine lv_iinc (k := 0) (v := 4) (lv' := [(2, .int 4), (0, .ref h1), (1, .int 1)]) hx hb d_MD_isFile_20 hl rfl (by first | rfl | decide +kernel) (by decide) rfl (fun ls hl => ?_)
  refine lv_goto (tgt := 2) hx hb d_MD_isFile_23 (by decide) ?_
  refine lv_iload_n hx hb d_MD_isFile_2 rfl (lv_at hl 0 rfl) ?_
  refine lv_bipush (v := 8) hx hb d_MD_isFile_3 (by decide) ?_
  refine lv_icmp_ge (tgt := 26) hx hb d_MD_isFile_5 (by decide) (fun hc => absurd hc (by decide +kernel)) (fun _ => ?_)
  refine lv_aload_n hx hb d_MD_isFile_8 rfl (lv_at hl 1 rfl) ?_
  refine va_get (D := (dC, dI)) (ci := 10) (v := .ref m_places) (C := R_MD) (T := F_MD) (N := 36) hx hb hts in_MD hown hK hP 0 rfl rfl 6 (by decide) (hts _ (List.mem_cons_of_mem _ w_858)) (fun _ h9 => h9) rfl d_MD_isFile_9 ?_
  refine lv_bipush (v := 8) hx hb d_MD_isFile_12 (by decide) ?_
  refine lv_iload_n hx hb d_MD_isFile_14 rfl (lv_at hl 2 rfl) ?_
  refine lv_imul hx hb d_MD_isFile_15 ?_
  refine lv_ci (y := 8) (by decide +kernel) ?_
  refine lv_iload_n hx hb d_MD_isFile_16 rfl (lv_at hl 0 rfl) ?_
  refine lv_iadd hx hb d_MD_isFile_17 ?_
  refine lv_ci (y := 12) (by decide +kernel) ?_
  refine lv_iconst (v := (-1)) hx hb d_MD_isFile_18 (by decide) ?_
  refine va_iast hx hb hK hP hD hS 1 0 rfl rfl (pk_in 12 16 (by decide) (by decide +kernel) (by decide)) d_MD_isFile_19 (fun H locs hP hD hS => ?_)
  have hP : va_P (dC, dI) cls_ [(h1, .inr (10, [.int 0, .int 0, .ref m_file, .int 0, .int 0, .ref m_bytes, .ref m_places, .ref m_lengths, .ref m_glyphCount, .ref m_ems, .ref m_wides, .ref m_forms, .ref m_parts, .ref m_charts, .ref m_pointCount, .ref m_contourCount, .ref m_depths, .ref m_xs, .ref m_ys, .ref m_ons, .ref m_contours, .int 0, .int 0, .int 0, .ref m_flags, .ref m_part, .int 0, .ref m_text, .int 0, .ref m_ringX, .ref m_ringY, .ref m_ringOn, .int 0, .ref m_curves, .ref m_windings, .ref m_rows])), (m_places, .inl (c_places, 16, .inl (upd (upd (upd (upd (upd (fun _ => 0) (Int32.toNatClampNeg 8) ((-1))) (Int32.toNatClampNeg 9) ((-1))) (Int32.toNatClampNeg 10) ((-1))) (Int32.toNatClampNeg 11) ((-1))) (Int32.toNatClampNeg 12) ((-1)))))] H := hP
  have hD : va_D A [(h1, .inr (10, [.int 0, .int 0, .ref m_file, .int 0, .int 0, .ref m_bytes, .ref m_places, .ref m_lengths, .ref m_glyphCount, .ref m_ems, .ref m_wides, .ref m_forms, .ref m_parts, .ref m_charts, .ref m_pointCount, .ref m_contourCount, .ref m_depths, .ref m_xs, .ref m_ys, .ref m_ons, .ref m_contours, .int 0, .int 0, .int 0, .ref m_flags, .ref m_part, .int 0, .ref m_text, .int 0, .ref m_ringX, .ref m_ringY, .ref m_ringOn, .int 0, .ref m_curves, .ref m_windings, .ref m_rows])), (m_places, .inl (c_places, 16, .inl (upd (upd (upd (upd (upd (fun _ => 0) (Int32.toNatClampNeg 8) ((-1))) (Int32.toNatClampNeg 9) ((-1))) (Int32.toNatClampNeg 10) ((-1))) (Int32.toNatClampNeg 11) ((-1))) (Int32.toNatClampNeg 12) ((-1)))))] := hD
  refine lv_iinc (k := 0) (v := 5) (lv' := [(2, .int 5), (0, .ref h1), (1, .int 1)]) hx hb d_MD_isFile_20 hl rfl (by first | rfl | decide +kernel) (by decide) rfl (fun ls hl => ?_)
  refine lv_goto (tgt := 2) hx hb d_MD_isFile_23 (by decide) ?_
  refine lv_iload_n hx hb d_MD_isFile_2 rfl (lv_at hl 0 rfl) ?_
  refine lv_bipush (v := 8) hx hb d_MD_isFile_3 (by decide) ?_
  refine lv_icmp_ge (tgt := 26) hx hb d_MD_isFile_5 (by decide) (fun hc => absurd hc (by decide +kernel)) (fun _ => ?_)
  refine lv_aload_n hx hb d_MD_isFile_8 rfl (lv_at hl 1 rfl) ?_
  refine va_get (D := (dC, dI)) (ci := 10) (v := .ref m_places) (C := R_MD) (T := F_MD) (N := 36) hx hb hts in_MD hown hK hP 0 rfl rfl 6 (by decide) (hts _ (List.mem_cons_of_mem _ w_858)) (fun _ h9 => h9) rfl d_MD_isFile_9 ?_
  refine lv_bipush (v := 8) hx hb d_MD_isFile_12 (by decide) ?_
  refine lv_iload_n hx hb d_MD_isFile_14 rfl (lv_at hl 2 rfl) ?_
  refine lv_imul hx hb d_MD_isFile_15 ?_
  refine lv_ci (y := 8) (by decide +kernel) ?_
  refine lv_iload_n hx hb d_MD_isFile_16 rfl (lv_at hl 0 rfl) ?_
  refine lv_iadd hx hb d_MD_isFile_17 ?_
  refine lv_ci (y := 13) (by decide +kernel) ?_
  refine lv_iconst (v := (-1)) hx hb d_MD_isFile_18 (by decide) ?_
  refine va_iast hx hb hK hP hD hS 1 0 rfl rfl (pk_in 13 16 (by decide) (by decide +kernel) (by decide)) d_MD_isFile_19 (fun H locs hP hD hS => ?_)
  have hP : va_P (dC, dI) cls_ [(h1, .inr (10, [.int 0, .int 0, .ref m_file, .int 0, .int 0, .ref m_bytes, .ref m_places, .ref m_lengths, .ref m_glyphCount, .ref m_ems, .ref m_wides, .ref m_forms, .ref m_parts, .ref m_charts, .ref m_pointCount, .ref m_contourCount, .ref m_depths, .ref m_xs, .ref m_ys, .ref m_ons, .ref m_contours, .int 0, .int 0, .int 0, .ref m_flags, .ref m_part, .int 0, .ref m_text, .int 0, .ref m_ringX, .ref m_ringY, .ref m_ringOn, .int 0, .ref m_curves, .ref m_windings, .ref m_rows])), (m_places, .inl (c_places, 16, .inl (upd (upd (upd (upd (upd (upd (fun _ => 0) (Int32.toNatClampNeg 8) ((-1))) (Int32.toNatClampNeg 9) ((-1))) (Int32.toNatClampNeg 10) ((-1))) (Int32.toNatClampNeg 11) ((-1))) (Int32.toNatClampNeg 12) ((-1))) (Int32.toNatClampNeg 13) ((-1)))))] H := hP
  have hD : va_D A [(h1, .inr (10, [.int 0, .int 0, .ref m_file, .int 0, .int 0, .ref m_bytes, .ref m_places, .ref m_lengths, .ref m_glyphCount, .ref m_ems, .ref m_wides, .ref m_forms, .ref m_parts, .ref m_charts, .ref m_pointCount, .ref m_contourCount, .ref m_depths, .ref m_xs, .ref m_ys, .ref m_ons, .ref m_contours, .int 0, .int 0, .int 0, .ref m_flags, .ref m_part, .int 0, .ref m_text, .int 0, .ref m_ringX, .ref m_ringY, .ref m_ringOn, .int 0, .ref m_curves, .ref m_windings, .ref m_rows])), (m_places, .inl (c_places, 16, .inl (upd (upd (upd (upd (upd (upd (fun _ => 0) (Int32.toNatClampNeg 8) ((-1))) (Int32.toNatClampNeg 9) ((-1))) (Int32.toNatClampNeg 10) ((-1))) (Int32.toNatClampNeg 11) ((-1))) (Int32.toNatClampNeg 12) ((-1))) (Int32.toNatClampNeg 13) ((-1)))))] := hD
  refine lv_iinc (k := 0) (v := 6) (lv' := [(2, .int 6), (0, .ref h1), (1, .int 1)]) hx hb d_MD_isFile_20 hl rfl (by first | rfl | decide +kernel) (by decide) rfl (fun ls hl => ?_)
  refine lv_goto (tgt := 2) hx hb d_MD_isFile_23 (by decide) ?_
  refine lv_iload_n hx hb d_MD_isFile_2 rfl (lv_at hl 0 rfl) ?_
  refine lv_bipush (v := 8) hx hb d_MD_isFile_3 (by decide) ?_
  refine lv_icmp_ge (tgt := 26) hx hb d_MD_isFile_5 (by decide) (fun hc => absurd hc (by decide +kernel)) (fun _ => ?_)
  refine lv_aload_n hx hb d_MD_isFile_8 rfl (lv_at hl 1 rfl) ?_
  refine va_get (D := (dC, dI)) (ci := 10) (v := .ref m_places) (C := R_MD) (T := F_MD) (N := 36) hx hb hts in_MD hown hK hP 0 rfl rfl 6 (by decide) (hts _ (List.mem_cons_of_mem _ w_858)) (fun _ h9 => h9) rfl d_MD_isFile_9 ?_
  refine lv_bipush (v := 8) hx hb d_MD_isFile_12 (by decide) ?_
  refine lv_iload_n hx hb d_MD_isFile_14 rfl (lv_at hl 2 rfl) ?_
  refine lv_imul hx hb d_MD_isFile_15 ?_
  refine lv_ci (y := 8) (by decide +kernel) ?_
  refine lv_iload_n hx hb d_MD_isFile_16 rfl (lv_at hl 0 rfl) ?_
  refine lv_iadd hx hb d_MD_isFile_17 ?_
  refine lv_ci (y := 14) (by decide +kernel) ?_
  refine lv_iconst (v := (-1)) hx hb d_MD_isFile_18 (by decide) ?_
  refine va_iast hx hb hK hP hD hS 1 0 rfl rfl (pk_in 14 16 (by decide) (by decide +kernel) (by decide)) d_MD_isFile_19 (fun H locs hP hD hS => ?_)
  have hP : va_P (dC, dI) cls_ [(h1, .inr (10, [.int 0, .int 0, .ref m_file, .int 0, .int 0, .ref m_bytes, .ref m_places, .ref m_lengths, .ref m_glyphCount, .ref m_ems, .ref m_wides, .ref m_forms, .ref m_parts, .ref m_charts, .ref m_pointCount, .ref m_contourCount, .ref m_depths, .ref m_xs, .ref m_ys, .ref m_ons, .ref m_contours, .int 0, .int 0, .int 0, .ref m_flags, .ref m_part, .int 0, .ref m_text, .int 0, .ref m_ringX, .ref m_ringY, .ref m_ringOn, .int 0, .ref m_curves, .ref m_windings, .ref m_rows])), (m_places, .inl (c_places, 16, .inl (upd (upd (upd (upd (upd (upd (upd (fun _ => 0) (Int32.toNatClampNeg 8) ((-1))) (Int32.toNatClampNeg 9) ((-1))) (Int32.toNatClampNeg 10) ((-1))) (Int32.toNatClampNeg 11) ((-1))) (Int32.toNatClampNeg 12) ((-1))) (Int32.toNatClampNeg 13) ((-1))) (Int32.toNatClampNeg 14) ((-1)))))] H := hP
  have hD : va_D A [(h1, .inr (10, [.int 0, .int 0, .ref m_file, .int 0, .int 0, .ref m_bytes, .ref m_places, .ref m_lengths, .ref m_glyphCount, .ref m_ems, .ref m_wides, .ref m_forms, .ref m_parts, .ref m_charts, .ref m_pointCount, .ref m_contourCount, .ref m_depths, .ref m_xs, .ref m_ys, .ref m_ons, .ref m_contours, .int 0, .int 0, .int 0, .ref m_flags, .ref m_part, .int 0, .ref m_text, .int 0, .ref m_ringX, .ref m_ringY, .ref m_ringOn, .int 0, .ref m_curves, .ref m_windings, .ref m_rows])), (m_places, .inl (c_places, 16, .inl (upd (upd (upd (upd (upd (upd (upd (fun _ => 0) (Int32.toNatClampNeg 8) ((-1))) (Int32.toNatClampNeg 9) ((-1))) (Int32.toNatClampNeg 10) ((-1))) (Int32.toNatClampNeg 11) ((-1))) (Int32.toNatClampNeg 12) ((-1))) (Int32.toNatClampNeg 13) ((-1))) (Int32.toNatClampNeg 14) ((-1)))))] := hD
  refine lv_iinc (k := 0) (v := 7) (lv' := [(2, .int 7), (0, .ref h1), (1, .int 1)]) hx hb d_MD_isFile_20 hl rfl (by first | rfl | decide +kernel) (by decide) rfl (fun ls hl => ?_)
  refine lv_goto (tgt := 2) hx hb d_MD_isFile_23 (by decide) ?_
  refine lv_iload_n hx hb d_MD_isFile_2 rfl (lv_at hl 0 rfl) ?_
  refine lv_bipush (v := 8) hx hb d_MD_isFile_3 (by decide) ?_
  refine lv_icmp_ge (tgt := 26) hx hb d_MD_isFile_5 (by decide) (fun hc => absurd hc (by decide +kernel)) (fun _ => ?_)
  refine lv_aload_n hx hb d_MD_isFile_8 rfl (lv_at hl 1 rfl) ?_
  refine va_get (D := (dC, dI)) (ci := 10) (v := .ref m_places) (C := R_MD) (T := F_MD) (N := 36) hx hb hts in_MD hown hK hP 0 rfl rfl 6 (by decide) (hts _ (List.mem_cons_of_mem _ w_858)) (fun _ h9 => h9) rfl d_MD_isFile_9 ?_
  refine lv_bipush (v := 8) hx hb d_MD_isFile_12 (by decide) ?_
  refine lv_iload_n hx hb d_MD_isFile_14 rfl (lv_at hl 2 rfl) ?_
  refine lv_imul hx hb d_MD_isFile_15 ?_
  refine lv_ci (y := 8) (by decide +kernel) ?_
  refine lv_iload_n hx hb d_MD_isFile_16 rfl (lv_at hl 0 rfl) ?_
  refine lv_iadd hx hb d_MD_isFile_17 ?_
  refine lv_ci (y := 15) (by decide +kernel) ?_
  refine lv_iconst (v := (-1)) hx hb d_MD_isFile_18 (by decide) ?_
  refine va_iast hx hb hK hP hD hS 1 0 rfl rfl (pk_in 15 16 (by decide) (by decide +kernel) (by decide)) d_MD_isFile_19 (fun H locs hP hD hS => ?_)
  have hP : va_P (dC, dI) cls_ [(h1, .inr (10, [.int 0, .int 0, .ref m_file, .int 0, .int 0, .ref m_bytes, .ref m_places, .ref m_lengths, .ref m_glyphCount, .ref m_ems, .ref m_wides, .ref m_forms, .ref m_parts, .ref m_charts, .ref m_pointCount, .ref m_contourCount, .ref m_depths, .ref m_xs, .ref m_ys, .ref m_ons, .ref m_contours, .int 0, .int 0, .int 0, .ref m_flags, .ref m_part, .int 0, .ref m_text, .int 0, .ref m_ringX, .ref m_ringY, .ref m_ringOn, .int 0, .ref m_curves, .ref m_windings, .ref m_rows])), (m_places, .inl (c_places, 16, .inl (upd (upd (upd (upd (upd (upd (upd (upd (fun _ => 0) (Int32.toNatClampNeg 8) ((-1))) (Int32.toNatClampNeg 9) ((-1))) (Int32.toNatClampNeg 10) ((-1))) (Int32.toNatClampNeg 11) ((-1))) (Int32.toNatClampNeg 12) ((-1))) (Int32.toNatClampNeg 13) ((-1))) (Int32.toNatClampNeg 14) ((-1))) (Int32.toNatClampNeg 15) ((-1)))))] H := hP
  have hD : va_D A [(h1, .inr (10, [.int 0, .int 0, .ref m_file, .int 0, .int 0, .ref m_bytes, .ref m_places, .ref m_lengths, .ref m_glyphCount, .ref m_ems, .ref m_wides, .ref m_forms, .ref m_parts, .ref m_charts, .ref m_pointCount, .ref m_contourCount, .ref m_depths, .ref m_xs, .ref m_ys, .ref m_ons, .ref m_contours, .int 0, .int 0, .int 0, .ref m_flags, .ref m_part, .int 0, .ref m_text, .int 0, .ref m_ringX, .ref m_ringY, .ref m_ringOn, .int 0, .ref m_curves, .ref m_windings, .ref m_rows])), (m_places, .inl (c_places, 16, .inl (upd (upd (upd (upd (upd (upd (upd (upd (fun _ => 0) (Int32.toNatClampNeg 8) ((-1))) (Int32.toNatClampNeg 9) ((-1))) (Int32.toNatClampNeg 10) ((-1))) (Int32.toNatClampNeg 11) ((-1))) (Int32.toNatClampNeg 12) ((-1))) (Int32.toNatClampNeg 13) ((-1))) (Int32.toNatClampNeg 14) ((-1))) (Int32.toNatClampNeg 15) ((-1)))))] := hD
  refine lv_iinc (k := 0) (v := 8) (lv' := [(2, .int 8), (0, .ref h1), (1, .int 1)]) hx hb d_MD_isFile_20 hl rfl (by first | rfl | decide +kernel) (by decide) rfl (fun ls hl => ?_)
  refine lv_goto (tgt := 2) hx hb d_MD_isFile_23 (by decide) ?_
  refine lv_iload_n hx hb d_MD_isFile_2 rfl (lv_at hl 0 rfl) ?_
  refine lv_bipush (v := 8) hx hb d_MD_isFile_3 (by decide) ?_
  refine lv_icmp_ge (tgt := 26) hx hb d_MD_isFile_5 (by decide) (fun _ => ?_) (fun hc => absurd hc (by decide +kernel))
  refine lv_aload_n hx hb d_MD_isFile_26 rfl (lv_at hl 1 rfl) ?_
  refine va_get (D := (dC, dI)) (ci := 10) (v := .int 0) (C := R_MD) (T := F_MD) (N := 36) hx hb hts in_MD hown hK hP 0 rfl rfl 1 (by decide) (hts _ (List.mem_cons_of_mem _ w_853)) (fun _ h9 => h9) rfl d_MD_isFile_27 ?_
  refine lv_bipush (v := 12) hx hb d_MD_isFile_30 (by decide) ?_
  refine lv_icmp_lt (tgt := 49) hx hb d_MD_isFile_32 (by decide) (fun _ => ?_) (fun hc => absurd hc (by decide +kernel))
  refine lv_iconst (v := 0) hx hb d_MD_isFile_49 (by decide) ?_
  refine W.widen (k := 0) (n := 0) (Nat.le_of_ble_eq_true rfl) (Nat.le_of_ble_eq_true rfl) ?_
  exact W.zret (v := 0) (ty := .boolean) hx hb hr (by decide +kernel) (fun t ht hW => ⟨⟨0, (), rfl, rfl, trivial⟩, hS.F ht⟩) hS.2.2 d_MD_isFile_50
