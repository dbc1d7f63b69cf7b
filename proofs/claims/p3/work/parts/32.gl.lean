abbrev b_GL_put : ByteArray := prog_1_method_3_code
def y_GL_put : MethodName := ⟨R_GL, "put", "(II)I"⟩
def s_GL_put : List Cond := .code y_GL_put b_GL_put 4 (some .int) :: tw_T
abbrev b_GL_at : ByteArray := prog_1_method_4_code
def y_GL_at : MethodName := ⟨R_GL, "at", "(I)I"⟩
def s_GL_at : List Cond := .code y_GL_at b_GL_at 2 (some .int) :: tw_T
abbrev b_GL_cut : ByteArray := prog_1_method_5_code
def y_GL_cut : MethodName := ⟨R_GL, "cut", "(I)I"⟩
def s_GL_cut : List Cond := .code y_GL_cut b_GL_cut 4 (some .int) :: tw_T
abbrev b_GL_row : ByteArray := prog_1_method_14_code
def y_GL_row : MethodName := ⟨R_GL, "row", "(I)J"⟩
def s_GL_row : List Cond := .code y_GL_row b_GL_row 2 (some .long) :: tw_T
abbrev b_GL_feed : ByteArray := prog_1_method_2_code
def y_GL_feed : MethodName := ⟨R_GL, "feed", "(I)I"⟩
def s_GL_feed : List Cond := .code y_GL_feed b_GL_feed 3 (some .int) :: tw_T
abbrev b_GL_isCharacter : ByteArray := prog_1_method_17_code
def y_GL_isCharacter : MethodName := ⟨R_GL, "isCharacter", "(I)Z"⟩
def s_GL_isCharacter : List Cond := .code y_GL_isCharacter b_GL_isCharacter 1 (some .boolean) :: tw_T
abbrev b_GL_type : ByteArray := prog_1_method_11_code
def y_GL_type : MethodName := ⟨R_GL, "type", "(I)Z"⟩
def s_GL_type : List Cond := .code y_GL_type b_GL_type 2 (some .boolean) :: tw_T
abbrev b_GL_wipe : ByteArray := prog_1_method_12_code
def y_GL_wipe : MethodName := ⟨R_GL, "wipe", "()I"⟩
def s_GL_wipe : List Cond := .code y_GL_wipe b_GL_wipe 2 (some .int) :: tw_T
theorem w_1 : (Jvm.Cond.initialized "GlyphLines") ∈ tw_T := tw_of 1 (by decide +kernel) (by decide +kernel)
theorem w_15 : (Jvm.Cond.initialized "java/lang/IndexOutOfBoundsException") ∈ tw_T := tw_of 15 (by decide +kernel) (by decide +kernel)
theorem w_16 : (Jvm.Cond.initialized "java/lang/IllegalArgumentException") ∈ tw_T := tw_of 16 (by decide +kernel) (by decide +kernel)
theorem w_287 : (Jvm.Cond.fieldLink "GlyphLines" (9 : Nat) "GlyphLines" "file" "[I") ∈ tw_T := tw_of 287 (by decide +kernel) (by decide +kernel)
theorem w_288 : (Jvm.Cond.fieldLink "GlyphLines" (13 : Nat) "GlyphLines" "fileSize" "I") ∈ tw_T := tw_of 288 (by decide +kernel) (by decide +kernel)
theorem w_293 : (Jvm.Cond.fieldLink "GlyphLines" (41 : Nat) "GlyphLines" "picture" "LGlyphLines$Picture;") ∈ tw_T := tw_of 293 (by decide +kernel) (by decide +kernel)
theorem w_295 : (Jvm.Cond.fieldLink "GlyphLines" (54 : Nat) "GlyphLines" "text" "[I") ∈ tw_T := tw_of 295 (by decide +kernel) (by decide +kernel)
theorem w_296 : (Jvm.Cond.fieldLink "GlyphLines" (57 : Nat) "GlyphLines" "textSize" "I") ∈ tw_T := tw_of 296 (by decide +kernel) (by decide +kernel)
theorem w_540 : (Jvm.Cond.methodLink "GlyphLines" (87 : Nat) ({ cls := "GlyphLines", name := "isCharacter", desc := "(I)Z" } : Jvm.MethodName)) ∈ tw_T := tw_of 540 (by decide +kernel) (by decide +kernel)
theorem w_541 : (Jvm.Cond.static ({ cls := "GlyphLines", name := "isCharacter", desc := "(I)Z" } : Jvm.MethodName)) ∈ tw_T := tw_of 541 (by decide +kernel) (by decide +kernel)
theorem w_542 : (Jvm.Cond.code ({ cls := "GlyphLines", name := "isCharacter", desc := "(I)Z" } : Jvm.MethodName) prog_1_method_17_code (1 : Nat) (Option.some Jvm.ClassFile.FieldType.boolean)) ∈ tw_T := tw_of 542 (by decide +kernel) (by decide +kernel)
theorem w_543 : (Jvm.Cond.constant "GlyphLines" (167 : Nat) (65535 : Int32)) ∈ tw_T := tw_of 543 (by decide +kernel) (by decide +kernel)
theorem w_557 : (Jvm.Cond.classLink "GlyphLines" (60 : Nat) "java/lang/IndexOutOfBoundsException") ∈ tw_T := tw_of 557 (by decide +kernel) (by decide +kernel)
theorem w_625 : (Jvm.Cond.classLink "GlyphLines" (67 : Nat) "java/lang/IllegalArgumentException") ∈ tw_T := tw_of 625 (by decide +kernel) (by decide +kernel)
theorem w_649 : (Jvm.Cond.methodLink "GlyphLines" (74 : Nat) ({ cls := "java/lang/Math", name := "min", desc := "(II)I" } : Jvm.MethodName)) ∈ tw_T := tw_of 649 (by decide +kernel) (by decide +kernel)
theorem d_GL_at_0 : decode b_GL_at 0 = .ok (.iload_n 1, 1) := by decide +kernel
theorem d_GL_at_1 : decode b_GL_at 1 = .ok (.ifCond .lt (20), 3) := by decide +kernel
theorem d_GL_at_12 : decode b_GL_at 12 = .ok (.aload_n 0, 1) := by decide +kernel
theorem d_GL_at_13 : decode b_GL_at 13 = .ok (.getfield 9, 3) := by decide +kernel
theorem d_GL_at_16 : decode b_GL_at 16 = .ok (.iload_n 1, 1) := by decide +kernel
theorem d_GL_at_17 : decode b_GL_at 17 = .ok (.iaload, 1) := by decide +kernel
theorem d_GL_at_18 : decode b_GL_at 18 = .ok (.goto (4), 3) := by decide +kernel
theorem d_GL_at_21 : decode b_GL_at 21 = .ok (.iconst (-1), 1) := by decide +kernel
theorem d_GL_at_22 : decode b_GL_at 22 = .ok (.ireturn, 1) := by decide +kernel
theorem d_GL_at_4 : decode b_GL_at 4 = .ok (.iload_n 1, 1) := by decide +kernel
theorem d_GL_at_5 : decode b_GL_at 5 = .ok (.aload_n 0, 1) := by decide +kernel
theorem d_GL_at_6 : decode b_GL_at 6 = .ok (.getfield 13, 3) := by decide +kernel
theorem d_GL_at_9 : decode b_GL_at 9 = .ok (.if_icmp .ge (12), 3) := by decide +kernel
theorem d_GL_cut_0 : decode b_GL_cut 0 = .ok (.iload_n 1, 1) := by decide +kernel
theorem d_GL_cut_1 : decode b_GL_cut 1 = .ok (.ifCond .ge (13), 3) := by decide +kernel
theorem d_GL_cut_10 : decode b_GL_cut 10 = .ok (.invokespecial 71, 3) := by decide +kernel
theorem d_GL_cut_13 : decode b_GL_cut 13 = .ok (.athrow, 1) := by decide +kernel
theorem d_GL_cut_14 : decode b_GL_cut 14 = .ok (.iload_n 1, 1) := by decide +kernel
theorem d_GL_cut_15 : decode b_GL_cut 15 = .ok (.aload_n 0, 1) := by decide +kernel
theorem d_GL_cut_16 : decode b_GL_cut 16 = .ok (.getfield 13, 3) := by decide +kernel
theorem d_GL_cut_19 : decode b_GL_cut 19 = .ok (.invokestatic 74, 3) := by decide +kernel
theorem d_GL_cut_22 : decode b_GL_cut 22 = .ok (.istore_n 2, 1) := by decide +kernel
theorem d_GL_cut_23 : decode b_GL_cut 23 = .ok (.aload_n 0, 1) := by decide +kernel
theorem d_GL_cut_24 : decode b_GL_cut 24 = .ok (.getfield 13, 3) := by decide +kernel
theorem d_GL_cut_27 : decode b_GL_cut 27 = .ok (.iload_n 2, 1) := by decide +kernel
theorem d_GL_cut_28 : decode b_GL_cut 28 = .ok (.isub, 1) := by decide +kernel
theorem d_GL_cut_29 : decode b_GL_cut 29 = .ok (.istore_n 3, 1) := by decide +kernel
theorem d_GL_cut_30 : decode b_GL_cut 30 = .ok (.aload_n 0, 1) := by decide +kernel
theorem d_GL_cut_31 : decode b_GL_cut 31 = .ok (.iload_n 2, 1) := by decide +kernel
theorem d_GL_cut_32 : decode b_GL_cut 32 = .ok (.putfield 13, 3) := by decide +kernel
theorem d_GL_cut_35 : decode b_GL_cut 35 = .ok (.iload_n 3, 1) := by decide +kernel
theorem d_GL_cut_36 : decode b_GL_cut 36 = .ok (.ireturn, 1) := by decide +kernel
theorem d_GL_cut_4 : decode b_GL_cut 4 = .ok (.new 67, 3) := by decide +kernel
theorem d_GL_cut_7 : decode b_GL_cut 7 = .ok (.dup, 1) := by decide +kernel
theorem d_GL_cut_8 : decode b_GL_cut 8 = .ok (.ldc 72, 2) := by decide +kernel
theorem d_GL_feed_0 : decode b_GL_feed 0 = .ok (.aload_n 0, 1) := by decide +kernel
theorem d_GL_feed_1 : decode b_GL_feed 1 = .ok (.getfield 13, 3) := by decide +kernel
theorem d_GL_feed_12 : decode b_GL_feed 12 = .ok (.iconst (-1), 1) := by decide +kernel
theorem d_GL_feed_13 : decode b_GL_feed 13 = .ok (.ireturn, 1) := by decide +kernel
theorem d_GL_feed_14 : decode b_GL_feed 14 = .ok (.bipush 24, 2) := by decide +kernel
theorem d_GL_feed_16 : decode b_GL_feed 16 = .ok (.istore_n 2, 1) := by decide +kernel
theorem d_GL_feed_17 : decode b_GL_feed 17 = .ok (.iload_n 2, 1) := by decide +kernel
theorem d_GL_feed_18 : decode b_GL_feed 18 = .ok (.ifCond .lt (35), 3) := by decide +kernel
theorem d_GL_feed_21 : decode b_GL_feed 21 = .ok (.aload_n 0, 1) := by decide +kernel
theorem d_GL_feed_22 : decode b_GL_feed 22 = .ok (.getfield 9, 3) := by decide +kernel
theorem d_GL_feed_25 : decode b_GL_feed 25 = .ok (.aload_n 0, 1) := by decide +kernel
theorem d_GL_feed_26 : decode b_GL_feed 26 = .ok (.getfield 13, 3) := by decide +kernel
theorem d_GL_feed_29 : decode b_GL_feed 29 = .ok (.iload_n 1, 1) := by decide +kernel
theorem d_GL_feed_30 : decode b_GL_feed 30 = .ok (.iload_n 2, 1) := by decide +kernel
theorem d_GL_feed_31 : decode b_GL_feed 31 = .ok (.ishr, 1) := by decide +kernel
theorem d_GL_feed_32 : decode b_GL_feed 32 = .ok (.sipush 255, 3) := by decide +kernel
theorem d_GL_feed_35 : decode b_GL_feed 35 = .ok (.iand, 1) := by decide +kernel
theorem d_GL_feed_36 : decode b_GL_feed 36 = .ok (.iastore, 1) := by decide +kernel
theorem d_GL_feed_37 : decode b_GL_feed 37 = .ok (.aload_n 0, 1) := by decide +kernel
theorem d_GL_feed_38 : decode b_GL_feed 38 = .ok (.dup, 1) := by decide +kernel
theorem d_GL_feed_39 : decode b_GL_feed 39 = .ok (.getfield 13, 3) := by decide +kernel
theorem d_GL_feed_4 : decode b_GL_feed 4 = .ok (.iconst 4, 1) := by decide +kernel
theorem d_GL_feed_42 : decode b_GL_feed 42 = .ok (.iconst 1, 1) := by decide +kernel
theorem d_GL_feed_43 : decode b_GL_feed 43 = .ok (.iadd, 1) := by decide +kernel
theorem d_GL_feed_44 : decode b_GL_feed 44 = .ok (.putfield 13, 3) := by decide +kernel
theorem d_GL_feed_47 : decode b_GL_feed 47 = .ok (.iinc 2 (-8), 3) := by decide +kernel
theorem d_GL_feed_5 : decode b_GL_feed 5 = .ok (.iadd, 1) := by decide +kernel
theorem d_GL_feed_50 : decode b_GL_feed 50 = .ok (.goto (-33), 3) := by decide +kernel
theorem d_GL_feed_53 : decode b_GL_feed 53 = .ok (.aload_n 0, 1) := by decide +kernel
theorem d_GL_feed_54 : decode b_GL_feed 54 = .ok (.getfield 13, 3) := by decide +kernel
theorem d_GL_feed_57 : decode b_GL_feed 57 = .ok (.ireturn, 1) := by decide +kernel
theorem d_GL_feed_6 : decode b_GL_feed 6 = .ok (.sipush 1200, 3) := by decide +kernel
theorem d_GL_feed_9 : decode b_GL_feed 9 = .ok (.if_icmp .le (5), 3) := by decide +kernel
theorem d_GL_isCharacter_0 : decode b_GL_isCharacter 0 = .ok (.iload_n 0, 1) := by decide +kernel
theorem d_GL_isCharacter_1 : decode b_GL_isCharacter 1 = .ok (.ifCond .lt (13), 3) := by decide +kernel
theorem d_GL_isCharacter_10 : decode b_GL_isCharacter 10 = .ok (.iconst 1, 1) := by decide +kernel
theorem d_GL_isCharacter_11 : decode b_GL_isCharacter 11 = .ok (.goto (4), 3) := by decide +kernel
theorem d_GL_isCharacter_14 : decode b_GL_isCharacter 14 = .ok (.iconst 0, 1) := by decide +kernel
theorem d_GL_isCharacter_15 : decode b_GL_isCharacter 15 = .ok (.ireturn, 1) := by decide +kernel
theorem d_GL_isCharacter_4 : decode b_GL_isCharacter 4 = .ok (.iload_n 0, 1) := by decide +kernel
theorem d_GL_isCharacter_5 : decode b_GL_isCharacter 5 = .ok (.ldc 167, 2) := by decide +kernel
theorem d_GL_isCharacter_7 : decode b_GL_isCharacter 7 = .ok (.if_icmp .gt (7), 3) := by decide +kernel
theorem d_GL_put_0 : decode b_GL_put 0 = .ok (.iload_n 1, 1) := by decide +kernel
theorem d_GL_put_1 : decode b_GL_put 1 = .ok (.ifCond .lt (11), 3) := by decide +kernel
theorem d_GL_put_12 : decode b_GL_put 12 = .ok (.new 60, 3) := by decide +kernel
theorem d_GL_put_15 : decode b_GL_put 15 = .ok (.dup, 1) := by decide +kernel
theorem d_GL_put_16 : decode b_GL_put 16 = .ok (.ldc 62, 2) := by decide +kernel
theorem d_GL_put_18 : decode b_GL_put 18 = .ok (.invokespecial 64, 3) := by decide +kernel
theorem d_GL_put_21 : decode b_GL_put 21 = .ok (.athrow, 1) := by decide +kernel
theorem d_GL_put_22 : decode b_GL_put 22 = .ok (.iload_n 2, 1) := by decide +kernel
theorem d_GL_put_23 : decode b_GL_put 23 = .ok (.ifCond .lt (10), 3) := by decide +kernel
theorem d_GL_put_26 : decode b_GL_put 26 = .ok (.iload_n 2, 1) := by decide +kernel
theorem d_GL_put_27 : decode b_GL_put 27 = .ok (.sipush 255, 3) := by decide +kernel
theorem d_GL_put_30 : decode b_GL_put 30 = .ok (.if_icmp .le (13), 3) := by decide +kernel
theorem d_GL_put_33 : decode b_GL_put 33 = .ok (.new 67, 3) := by decide +kernel
theorem d_GL_put_36 : decode b_GL_put 36 = .ok (.dup, 1) := by decide +kernel
theorem d_GL_put_37 : decode b_GL_put 37 = .ok (.ldc 69, 2) := by decide +kernel
theorem d_GL_put_39 : decode b_GL_put 39 = .ok (.invokespecial 71, 3) := by decide +kernel
theorem d_GL_put_4 : decode b_GL_put 4 = .ok (.iload_n 1, 1) := by decide +kernel
theorem d_GL_put_42 : decode b_GL_put 42 = .ok (.athrow, 1) := by decide +kernel
theorem d_GL_put_43 : decode b_GL_put 43 = .ok (.aload_n 0, 1) := by decide +kernel
theorem d_GL_put_44 : decode b_GL_put 44 = .ok (.getfield 9, 3) := by decide +kernel
theorem d_GL_put_47 : decode b_GL_put 47 = .ok (.iload_n 1, 1) := by decide +kernel
theorem d_GL_put_48 : decode b_GL_put 48 = .ok (.iaload, 1) := by decide +kernel
theorem d_GL_put_49 : decode b_GL_put 49 = .ok (.istore_n 3, 1) := by decide +kernel
theorem d_GL_put_5 : decode b_GL_put 5 = .ok (.aload_n 0, 1) := by decide +kernel
theorem d_GL_put_50 : decode b_GL_put 50 = .ok (.aload_n 0, 1) := by decide +kernel
theorem d_GL_put_51 : decode b_GL_put 51 = .ok (.getfield 9, 3) := by decide +kernel
theorem d_GL_put_54 : decode b_GL_put 54 = .ok (.iload_n 1, 1) := by decide +kernel
theorem d_GL_put_55 : decode b_GL_put 55 = .ok (.iload_n 2, 1) := by decide +kernel
theorem d_GL_put_56 : decode b_GL_put 56 = .ok (.iastore, 1) := by decide +kernel
theorem d_GL_put_57 : decode b_GL_put 57 = .ok (.iload_n 3, 1) := by decide +kernel
theorem d_GL_put_58 : decode b_GL_put 58 = .ok (.ireturn, 1) := by decide +kernel
theorem d_GL_put_6 : decode b_GL_put 6 = .ok (.getfield 13, 3) := by decide +kernel
theorem d_GL_put_9 : decode b_GL_put 9 = .ok (.if_icmp .lt (13), 3) := by decide +kernel
theorem d_GL_row_0 : decode b_GL_row 0 = .ok (.iload_n 1, 1) := by decide +kernel
theorem d_GL_row_1 : decode b_GL_row 1 = .ok (.ifCond .lt (9), 3) := by decide +kernel
theorem d_GL_row_10 : decode b_GL_row 10 = .ok (.new 60, 3) := by decide +kernel
theorem d_GL_row_13 : decode b_GL_row 13 = .ok (.dup, 1) := by decide +kernel
theorem d_GL_row_14 : decode b_GL_row 14 = .ok (.ldc 151, 2) := by decide +kernel
theorem d_GL_row_16 : decode b_GL_row 16 = .ok (.invokespecial 64, 3) := by decide +kernel
theorem d_GL_row_19 : decode b_GL_row 19 = .ok (.athrow, 1) := by decide +kernel
theorem d_GL_row_20 : decode b_GL_row 20 = .ok (.aload_n 0, 1) := by decide +kernel
theorem d_GL_row_21 : decode b_GL_row 21 = .ok (.getfield 41, 3) := by decide +kernel
theorem d_GL_row_24 : decode b_GL_row 24 = .ok (.getfield 153, 3) := by decide +kernel
theorem d_GL_row_27 : decode b_GL_row 27 = .ok (.iload_n 1, 1) := by decide +kernel
theorem d_GL_row_28 : decode b_GL_row 28 = .ok (.laload, 1) := by decide +kernel
theorem d_GL_row_29 : decode b_GL_row 29 = .ok (.lreturn, 1) := by decide +kernel
theorem d_GL_row_4 : decode b_GL_row 4 = .ok (.iload_n 1, 1) := by decide +kernel
theorem d_GL_row_5 : decode b_GL_row 5 = .ok (.bipush 24, 2) := by decide +kernel
theorem d_GL_row_7 : decode b_GL_row 7 = .ok (.if_icmp .lt (13), 3) := by decide +kernel
theorem d_GL_type_0 : decode b_GL_type 0 = .ok (.iload_n 1, 1) := by decide +kernel
theorem d_GL_type_1 : decode b_GL_type 1 = .ok (.invokestatic 87, 3) := by decide +kernel
theorem d_GL_type_11 : decode b_GL_type 11 = .ok (.bipush 12, 2) := by decide +kernel
theorem d_GL_type_13 : decode b_GL_type 13 = .ok (.if_icmp .lt (5), 3) := by decide +kernel
theorem d_GL_type_16 : decode b_GL_type 16 = .ok (.iconst 0, 1) := by decide +kernel
theorem d_GL_type_17 : decode b_GL_type 17 = .ok (.ireturn, 1) := by decide +kernel
theorem d_GL_type_18 : decode b_GL_type 18 = .ok (.aload_n 0, 1) := by decide +kernel
theorem d_GL_type_19 : decode b_GL_type 19 = .ok (.getfield 54, 3) := by decide +kernel
theorem d_GL_type_22 : decode b_GL_type 22 = .ok (.aload_n 0, 1) := by decide +kernel
theorem d_GL_type_23 : decode b_GL_type 23 = .ok (.getfield 57, 3) := by decide +kernel
theorem d_GL_type_26 : decode b_GL_type 26 = .ok (.iload_n 1, 1) := by decide +kernel
theorem d_GL_type_27 : decode b_GL_type 27 = .ok (.iastore, 1) := by decide +kernel
theorem d_GL_type_28 : decode b_GL_type 28 = .ok (.aload_n 0, 1) := by decide +kernel
theorem d_GL_type_29 : decode b_GL_type 29 = .ok (.dup, 1) := by decide +kernel
theorem d_GL_type_30 : decode b_GL_type 30 = .ok (.getfield 57, 3) := by decide +kernel
theorem d_GL_type_33 : decode b_GL_type 33 = .ok (.iconst 1, 1) := by decide +kernel
theorem d_GL_type_34 : decode b_GL_type 34 = .ok (.iadd, 1) := by decide +kernel
theorem d_GL_type_35 : decode b_GL_type 35 = .ok (.putfield 57, 3) := by decide +kernel
theorem d_GL_type_38 : decode b_GL_type 38 = .ok (.iconst 1, 1) := by decide +kernel
theorem d_GL_type_39 : decode b_GL_type 39 = .ok (.ireturn, 1) := by decide +kernel
theorem d_GL_type_4 : decode b_GL_type 4 = .ok (.ifCond .eq (12), 3) := by decide +kernel
theorem d_GL_type_7 : decode b_GL_type 7 = .ok (.aload_n 0, 1) := by decide +kernel
theorem d_GL_type_8 : decode b_GL_type 8 = .ok (.getfield 57, 3) := by decide +kernel
theorem d_GL_wipe_0 : decode b_GL_wipe 0 = .ok (.aload_n 0, 1) := by decide +kernel
theorem d_GL_wipe_1 : decode b_GL_wipe 1 = .ok (.getfield 57, 3) := by decide +kernel
theorem d_GL_wipe_10 : decode b_GL_wipe 10 = .ok (.iload_n 1, 1) := by decide +kernel
theorem d_GL_wipe_11 : decode b_GL_wipe 11 = .ok (.ireturn, 1) := by decide +kernel
theorem d_GL_wipe_4 : decode b_GL_wipe 4 = .ok (.istore_n 1, 1) := by decide +kernel
theorem d_GL_wipe_5 : decode b_GL_wipe 5 = .ok (.aload_n 0, 1) := by decide +kernel
theorem d_GL_wipe_6 : decode b_GL_wipe 6 = .ok (.iconst 0, 1) := by decide +kernel
theorem d_GL_wipe_7 : decode b_GL_wipe 7 = .ok (.putfield 57, 3) := by decide +kernel
theorem sw_3 {x : Int32} (h : ¬ (x.toInt < 0 ∨ 3 < x.toInt)) : x = 0 ∨ x = 1 ∨ x = 2 ∨ x = 3 := by
  rcases (show x.toInt = 0 ∨ x.toInt = 1 ∨ x.toInt = 2 ∨ x.toInt = 3 by omega) with h | h | h | h
  · exact Or.inl (Int32.toInt_inj.mp (h.trans (by decide +kernel)))
  · exact Or.inr (Or.inl (Int32.toInt_inj.mp (h.trans (by decide +kernel))))
  · exact Or.inr (Or.inr (Or.inl (Int32.toInt_inj.mp (h.trans (by decide +kernel)))))
  · exact Or.inr (Or.inr (Or.inr (Int32.toInt_inj.mp (h.trans (by decide +kernel)))))
theorem rw_of {x : Int32} (h1 : ¬ x < 0) (h2 : x < 24) : ∃ j : Nat, j < 24 ∧ x = nI j := sp_ix (n := 24) (by decide) h1 h2
theorem nI_min {a b : Nat} (ha : a < 2 ^ 31) (hb : b < 2 ^ 31) : (if nI b < nI a then nI b else nI a) = nI (min a b) := by
  by_cases h : b < a
  · rw [if_pos ((nI_ltI hb ha).mpr h), Nat.min_eq_right (Nat.le_of_lt h)]
  · rw [if_neg (fun z => h ((nI_ltI hb ha).mp z)), Nat.min_eq_left (Nat.not_lt.mp h)]
theorem isB_upd {f : Nat → Int32} {i : Nat} {x : Int32} (h : isB f) (hx : ∃ v : Nat, v < 256 ∧ x = nI v) : isB (upd f i x) := fun j => by
  unfold upd
  split
  · exact hx
  · exact h j
def fb (w k : Int32) : Int32 := (w >>> (k &&& 31)) &&& 255
theorem fb_ok (w k : Int32) : ∃ v : Nat, v < 256 ∧ fb w k = nI v := pk_andE (w >>> (k &&& 31)) (m := 255) 8 (by decide +kernel)
def fd (f : Nat → Int32) (n : Nat) (w : Int32) : Nat → Int32 := upd (upd (upd (upd f n (fb w 24)) (n + 1) (fb w 16)) (n + 2) (fb w 8)) (n + 3) (fb w 0)
theorem isB_fd {f : Nat → Int32} (n : Nat) (w : Int32) (h : isB f) : isB (fd f n w) := isB_upd (isB_upd (isB_upd (isB_upd h (fb_ok _ _)) (fb_ok _ _)) (fb_ok _ _)) (fb_ok _ _)
theorem fd_in {i n : Int32} (h : i < 0 ∨ ¬ i < n) (h1 : ¬ i < 0) : ¬ i < n := h.elim (fun z => absurd z h1) id
set_option maxHeartbeats 4000000 in
set_option maxRecDepth 100000 in
/-- GlyphLines.put -/
theorem g_GL_put_t1 (l : Launch) (hfl : l.flags = flags0) (dC : Nat → ClassId) (dI : Nat → Nat → Nat) (g0 : Nat) (fi : Nat) (fz : Nat) (qf : Nat) (qfB : Nat) (hf : Bool) (ko : Nat) (ki : Nat) (kb : Nat) (tx : Nat) (tz : Nat) (cF : ClassId) (fq : Nat → Int32) (i : Int32) (b9 : Int32) (sz : Nat) (hq0 : fz ≤ 1200) (hq1 : tz ≤ 12) (hq2 : (i : Int32) < 0 ∨ ¬ i < nI fz) : th_Met l y_GL_put s_GL_put ({ frames := 8, cells := 1, slots := 6, locals := 200 }) (va_Pc [.ref g0, .int i, .int b9] (fun U => U.heap.size = sz ∧ va_P (dC, dI) cls_ [(g0, .inr (9, [.ref fi, .int (nI (fz)), .ref qf, .ref qfB, .int (bI hf), .ref ko, .ref ki, .ref kb, .ref tx, .int (nI (tz))])), (fi, .inl (cF, 1200, .inl (fq)))] U.heap ∧ va_K (dC, dI) cls_ [(cF, .int)] U ∧ va_D (fun _ => True) [(g0, .inr (9, [.ref fi, .int (nI (fz)), .ref qf, .ref qfB, .int (bI hf), .ref ko, .ref ki, .ref kb, .ref tx, .int (nI (tz))])), (fi, .inl (cF, 1200, .inl (fq)))] ∧ th_All U)) X_io 1 6 := by
  refine th_ofW (cc := b_GL_put) (maxL := 4) (ret := (some .int)) (by decide) rfl ?_
  intro p e s m args below meth c s₁ B hml hv
  obtain ⟨rfl, hsz, hP, hK, hD0, hT9⟩ := hv
  have hx := B.exec
  have hb := B.bytes
  have hts := atoms_spec (ws := s_GL_put) B.pre
  have hown : s.vm.findClass R_GL = some m.cls := findClass_of_methodNamed B.named
  have hlocks := B.notSynchronized
  have htr : e.platform.stackTraces = false := Launch.traces_off hfl B.admits
  have hnoh := B.noHandlers (hts _ List.mem_cons_self)
  obtain ⟨hT1, hT2, hT3, ⟨qs62, hz62⟩, ⟨qs69, hz69⟩, ⟨qs72, hz72⟩, ⟨qs159, hz159⟩, ⟨qs91, hz91⟩, ⟨qs165, hz165⟩, ⟨qs114, hz114⟩, ⟨qs116, hz116⟩, ⟨qs131, hz131⟩, ⟨qs136, hz136⟩, ⟨qs151, hz151⟩⟩ := id hT9
  have hH : ∀ q : Nat, q < s.heap.size → s.heap[q]? = s.heap[q]? := fun _ _ => rfl
  subst hsz
  have hD := hD0.self (sz := s.heap.size)
  generalize hAe : va_A [(g0, .inr (9, [.ref fi, .int (nI (fz)), .ref qf, .ref qfB, .int (bI hf), .ref ko, .ref ki, .ref kb, .ref tx, .int (nI (tz))])), (fi, .inl (cF, 1200, .inl (fq)))] s.heap.size = A at hD
  have hA : ∀ q : Nat, s.heap.size ≤ q → A q := fun q h => by rw [← hAe]; exact Or.inr h
  have hS : va_S A s.heap s.heap [] := va_S.rf
  have hP : va_P (dC, dI) cls_ [(g0, .inr (9, [.ref fi, .int (nI (fz)), .ref qf, .ref qfB, .int (bI hf), .ref ko, .ref ki, .ref kb, .ref tx, .int (nI (tz))])), (fi, .inl (cF, 1200, .inl (fq)))] s.heap := hP
  have hl := lv_entry ([.ref g0, .int i, .int b9]) (n := 4) (Nat.le_of_ble_eq_true rfl)
  rw [lg_entry_eq]
  generalize (lg_sl ([.ref g0, .int i, .int b9]) ++ List.replicate (4 - (lg_sl ([.ref g0, .int i, .int b9])).length) Slot.unset).toArray = ls at hl ⊢
  have hl : lv_has ls 4 [(0, .ref g0), (1, .int i), (2, .int b9)] := hl
  refine lv_iload_n hx hb d_GL_put_0 rfl (lv_at hl 1 rfl) ?_
  refine lv_if_lt (tgt := 12) hx hb d_GL_put_1 (by decide) (fun hc6881 => ?_) (fun hc6881 => ?_)
  · skip
    exact th_throwS (names := th_nm) (tx := "no such byte") hx htr hb (by rw [hml]; exact hl.1.symm) hown (by decide +kernel) (by decide +kernel) (hT1 _) (hts _ (List.mem_cons_of_mem _ w_557)) (hts _ (List.mem_cons_of_mem _ w_15)) hz62 hnoh hlocks d_GL_put_12 d_GL_put_15 d_GL_put_16 d_GL_put_18 d_GL_put_21 (Nat.le_of_ble_eq_true rfl) (Nat.le_of_ble_eq_true rfl) (Nat.le_of_ble_eq_true rfl) (Nat.le_of_ble_eq_true rfl)
  · skip
    refine lv_iload_n hx hb d_GL_put_4 rfl (lv_at hl 1 rfl) ?_
    refine lv_aload_n hx hb d_GL_put_5 rfl (lv_at hl 0 rfl) ?_
    refine va_get (D := (dC, dI)) (ci := 9) (v := .int (nI (fz))) (C := R_GL) (T := F_GL) (N := 10) hx hb hts in_GL hown hK hP 0 rfl rfl 1 (by decide) (hts _ (List.mem_cons_of_mem _ w_288)) (fun _ h9 => h9) rfl d_GL_put_6 ?_
    refine lv_icmp_lt (tgt := 22) hx hb d_GL_put_9 (by decide) (fun hc6882 => ?_) (fun hc6882 => ?_)
    · skip
      exact absurd hc6882 (fd_in (by assumption) hc6881)
    · skip
      exact th_throwS (names := th_nm) (tx := "no such byte") hx htr hb (by rw [hml]; exact hl.1.symm) hown (by decide +kernel) (by decide +kernel) (hT1 _) (hts _ (List.mem_cons_of_mem _ w_557)) (hts _ (List.mem_cons_of_mem _ w_15)) hz62 hnoh hlocks d_GL_put_12 d_GL_put_15 d_GL_put_16 d_GL_put_18 d_GL_put_21 (Nat.le_of_ble_eq_true rfl) (Nat.le_of_ble_eq_true rfl) (Nat.le_of_ble_eq_true rfl) (Nat.le_of_ble_eq_true rfl)
set_option maxHeartbeats 4000000 in
set_option maxRecDepth 100000 in
/-- GlyphLines.put -/
theorem g_GL_put_t2 (l : Launch) (hfl : l.flags = flags0) (dC : Nat → ClassId) (dI : Nat → Nat → Nat) (g0 : Nat) (fi : Nat) (fz : Nat) (qf : Nat) (qfB : Nat) (hf : Bool) (ko : Nat) (ki : Nat) (kb : Nat) (tx : Nat) (tz : Nat) (cF : ClassId) (fq : Nat → Int32) (j9 : Nat) (b9 : Int32) (sz : Nat) (hq0 : fz ≤ 1200) (hq1 : tz ≤ 12) (hq2 : j9 < fz) (hq3 : (b9 : Int32) < 0 ∨ 255 < b9) : th_Met l y_GL_put s_GL_put ({ frames := 8, cells := 1, slots := 6, locals := 200 }) (va_Pc [.ref g0, .int (nI (j9)), .int b9] (fun U => U.heap.size = sz ∧ va_P (dC, dI) cls_ [(g0, .inr (9, [.ref fi, .int (nI (fz)), .ref qf, .ref qfB, .int (bI hf), .ref ko, .ref ki, .ref kb, .ref tx, .int (nI (tz))])), (fi, .inl (cF, 1200, .inl (fq)))] U.heap ∧ va_K (dC, dI) cls_ [(cF, .int)] U ∧ va_D (fun _ => True) [(g0, .inr (9, [.ref fi, .int (nI (fz)), .ref qf, .ref qfB, .int (bI hf), .ref ko, .ref ki, .ref kb, .ref tx, .int (nI (tz))])), (fi, .inl (cF, 1200, .inl (fq)))] ∧ th_All U)) X_ia 1 6 := by
  refine th_ofW (cc := b_GL_put) (maxL := 4) (ret := (some .int)) (by decide) rfl ?_
  intro p e s m args below meth c s₁ B hml hv
  obtain ⟨rfl, hsz, hP, hK, hD0, hT9⟩ := hv
  have hx := B.exec
  have hb := B.bytes
  have hts := atoms_spec (ws := s_GL_put) B.pre
  have hown : s.vm.findClass R_GL = some m.cls := findClass_of_methodNamed B.named
  have hlocks := B.notSynchronized
  have htr : e.platform.stackTraces = false := Launch.traces_off hfl B.admits
  have hnoh := B.noHandlers (hts _ List.mem_cons_self)
  obtain ⟨hT1, hT2, hT3, ⟨qs62, hz62⟩, ⟨qs69, hz69⟩, ⟨qs72, hz72⟩, ⟨qs159, hz159⟩, ⟨qs91, hz91⟩, ⟨qs165, hz165⟩, ⟨qs114, hz114⟩, ⟨qs116, hz116⟩, ⟨qs131, hz131⟩, ⟨qs136, hz136⟩, ⟨qs151, hz151⟩⟩ := id hT9
  have hH : ∀ q : Nat, q < s.heap.size → s.heap[q]? = s.heap[q]? := fun _ _ => rfl
  subst hsz
  have hD := hD0.self (sz := s.heap.size)
  generalize hAe : va_A [(g0, .inr (9, [.ref fi, .int (nI (fz)), .ref qf, .ref qfB, .int (bI hf), .ref ko, .ref ki, .ref kb, .ref tx, .int (nI (tz))])), (fi, .inl (cF, 1200, .inl (fq)))] s.heap.size = A at hD
  have hA : ∀ q : Nat, s.heap.size ≤ q → A q := fun q h => by rw [← hAe]; exact Or.inr h
  have hS : va_S A s.heap s.heap [] := va_S.rf
  have hP : va_P (dC, dI) cls_ [(g0, .inr (9, [.ref fi, .int (nI (fz)), .ref qf, .ref qfB, .int (bI hf), .ref ko, .ref ki, .ref kb, .ref tx, .int (nI (tz))])), (fi, .inl (cF, 1200, .inl (fq)))] s.heap := hP
  have hl := lv_entry ([.ref g0, .int (nI (j9)), .int b9]) (n := 4) (Nat.le_of_ble_eq_true rfl)
  rw [lg_entry_eq]
  generalize (lg_sl ([.ref g0, .int (nI (j9)), .int b9]) ++ List.replicate (4 - (lg_sl ([.ref g0, .int (nI (j9)), .int b9])).length) Slot.unset).toArray = ls at hl ⊢
  have hl : lv_has ls 4 [(0, .ref g0), (1, .int (nI (j9))), (2, .int b9)] := hl
  refine lv_iload_n hx hb d_GL_put_0 rfl (lv_at hl 1 rfl) ?_
  refine lv_if_lt (tgt := 12) hx hb d_GL_put_1 (by decide) (fun hc6883 => ?_) (fun hc6883 => ?_)
  · skip
    have hc6883n : j9 < 0 := (nI_ltI (a := j9) (b := 0) (by omega) (by omega)).mp hc6883
    omega
  · skip
    have hc6883n : ¬ (j9 < 0) := fun z => hc6883 ((nI_ltI (a := j9) (b := 0) (by omega) (by omega)).mpr z)
    refine lv_iload_n hx hb d_GL_put_4 rfl (lv_at hl 1 rfl) ?_
    refine lv_aload_n hx hb d_GL_put_5 rfl (lv_at hl 0 rfl) ?_
    refine va_get (D := (dC, dI)) (ci := 9) (v := .int (nI (fz))) (C := R_GL) (T := F_GL) (N := 10) hx hb hts in_GL hown hK hP 0 rfl rfl 1 (by decide) (hts _ (List.mem_cons_of_mem _ w_288)) (fun _ h9 => h9) rfl d_GL_put_6 ?_
    refine lv_icmp_lt (tgt := 22) hx hb d_GL_put_9 (by decide) (fun hc6884 => ?_) (fun hc6884 => ?_)
    · skip
      have hc6884n : j9 < fz := (nI_ltI (a := j9) (b := fz) (by omega) (by omega)).mp hc6884
      refine lv_iload_n hx hb d_GL_put_22 rfl (lv_at hl 2 rfl) ?_
      refine lv_if_lt (tgt := 33) hx hb d_GL_put_23 (by decide) (fun hc6885 => ?_) (fun hc6885 => ?_)
      · skip
        exact th_throwS (names := th_nm) (tx := "a byte is 0 .. 255") hx htr hb (by rw [hml]; exact hl.1.symm) hown (by decide +kernel) (by decide +kernel) (hT2 _) (hts _ (List.mem_cons_of_mem _ w_625)) (hts _ (List.mem_cons_of_mem _ w_16)) hz69 hnoh hlocks d_GL_put_33 d_GL_put_36 d_GL_put_37 d_GL_put_39 d_GL_put_42 (Nat.le_of_ble_eq_true rfl) (Nat.le_of_ble_eq_true rfl) (Nat.le_of_ble_eq_true rfl) (Nat.le_of_ble_eq_true rfl)
      · skip
        refine lv_iload_n hx hb d_GL_put_26 rfl (lv_at hl 2 rfl) ?_
        refine lv_sipush (v := 255) hx hb d_GL_put_27 (by decide) ?_
        refine lv_icmp_le (tgt := 43) hx hb d_GL_put_30 (by decide) (fun hc6886 => ?_) (fun hc6886 => ?_)
        · skip
          exact (‹(b9 : Int32) < 0 ∨ 255 < b9›).elim (fun z => absurd z hc6885) (fun z => absurd hc6886 (Int32.not_le.mpr z))
        · skip
          exact th_throwS (names := th_nm) (tx := "a byte is 0 .. 255") hx htr hb (by rw [hml]; exact hl.1.symm) hown (by decide +kernel) (by decide +kernel) (hT2 _) (hts _ (List.mem_cons_of_mem _ w_625)) (hts _ (List.mem_cons_of_mem _ w_16)) hz69 hnoh hlocks d_GL_put_33 d_GL_put_36 d_GL_put_37 d_GL_put_39 d_GL_put_42 (Nat.le_of_ble_eq_true rfl) (Nat.le_of_ble_eq_true rfl) (Nat.le_of_ble_eq_true rfl) (Nat.le_of_ble_eq_true rfl)
    · skip
      have hc6884n : ¬ (j9 < fz) := fun z => hc6884 ((nI_ltI (a := j9) (b := fz) (by omega) (by omega)).mpr z)
      omega
set_option maxHeartbeats 4000000 in
set_option maxRecDepth 100000 in
/-- GlyphLines.put -/
theorem g_GL_put (l : Launch) (dC : Nat → ClassId) (dI : Nat → Nat → Nat) (g0 : Nat) (fi : Nat) (fz : Nat) (qf : Nat) (qfB : Nat) (hf : Bool) (ko : Nat) (ki : Nat) (kb : Nat) (tx : Nat) (tz : Nat) (cF : ClassId) (fq : Nat → Int32) (j9 : Nat) (v9 : Nat) (sz : Nat) (hq0 : fz ≤ 1200) (hq1 : tz ≤ 12) (hq2 : j9 < fz) (hq3 : v9 < 256) (hq4 : isB fq) : Met l y_GL_put s_GL_put ({ frames := 8, cells := 0, slots := 0, locals := 200 }) (va_Pc [.ref g0, .int (nI (j9)), .int (nI (v9))] (fun U => U.heap.size = sz ∧ va_P (dC, dI) cls_ [(g0, .inr (9, [.ref fi, .int (nI (fz)), .ref qf, .ref qfB, .int (bI hf), .ref ko, .ref ki, .ref kb, .ref tx, .int (nI (tz))])), (fi, .inl (cF, 1200, .inl (fq)))] U.heap ∧ va_K (dC, dI) cls_ [(cF, .int)] U ∧ va_D (fun _ => True) [(g0, .inr (9, [.ref fi, .int (nI (fz)), .ref qf, .ref qfB, .int (bI hf), .ref ko, .ref ki, .ref kb, .ref tx, .int (nI (tz))])), (fi, .inl (cF, 1200, .inl (fq)))])) (va_Qi (fun (r : Int32) (_ : Unit) => r = fq j9) (fun (_ : Unit) (t : State) => ∃ (fq_2 : Nat → Int32), isB fq_2 ∧ fq_2 = upd fq j9 (nI v9) ∧ va_P (dC, dI) cls_ [(g0, .inr (9, [.ref fi, .int (nI (fz)), .ref qf, .ref qfB, .int (bI hf), .ref ko, .ref ki, .ref kb, .ref tx, .int (nI (tz))])), (fi, .inl (cF, 1200, .inl (fq_2)))] t.heap ∧ va_K (dC, dI) cls_ [(cF, .int)] t ∧ va_D (va_A [(g0, .inr (9, [.ref fi, .int (nI (fz)), .ref qf, .ref qfB, .int (bI hf), .ref ko, .ref ki, .ref kb, .ref tx, .int (nI (tz))])), (fi, .inl (cF, 1200, .inl (fq)))] sz) [(g0, .inr (9, [.ref fi, .int (nI (fz)), .ref qf, .ref qfB, .int (bI hf), .ref ko, .ref ki, .ref kb, .ref tx, .int (nI (tz))])), (fi, .inl (cF, 1200, .inl (fq_2)))]) (va_A [(g0, .inr (9, [.ref fi, .int (nI (fz)), .ref qf, .ref qfB, .int (bI hf), .ref ko, .ref ki, .ref kb, .ref tx, .int (nI (tz))])), (fi, .inl (cF, 1200, .inl (fq)))] sz)) 0 0 (va_A [(g0, .inr (9, [.ref fi, .int (nI (fz)), .ref qf, .ref qfB, .int (bI hf), .ref ko, .ref ki, .ref kb, .ref tx, .int (nI (tz))])), (fi, .inl (cF, 1200, .inl (fq)))] sz) := by
  refine Met.ofW (cc := b_GL_put) (maxL := 4) (ret := (some .int)) (by decide) rfl ?_
  intro p e s m args below meth c s₁ B hml hv
  obtain ⟨rfl, hsz, hP, hK, hD0⟩ := hv
  have hx := B.exec
  have hb := B.bytes
  have hr := B.returns
  have hts := atoms_spec (ws := s_GL_put) B.pre
  have hown : s.vm.findClass R_GL = some m.cls := findClass_of_methodNamed B.named
  have hlocks := B.notSynchronized
  subst hsz
  have hD := hD0.self (sz := s.heap.size)
  generalize hAe : va_A [(g0, .inr (9, [.ref fi, .int (nI (fz)), .ref qf, .ref qfB, .int (bI hf), .ref ko, .ref ki, .ref kb, .ref tx, .int (nI (tz))])), (fi, .inl (cF, 1200, .inl (fq)))] s.heap.size = A at hD ⊢
  have hA : ∀ q : Nat, s.heap.size ≤ q → A q := fun q h => by rw [← hAe]; exact Or.inr h
  have hS : va_S A s.heap s.heap [] := va_S.rf
  have hP : va_P (dC, dI) cls_ [(g0, .inr (9, [.ref fi, .int (nI (fz)), .ref qf, .ref qfB, .int (bI hf), .ref ko, .ref ki, .ref kb, .ref tx, .int (nI (tz))])), (fi, .inl (cF, 1200, .inl (fq)))] s.heap := hP
  have hl := lv_entry ([.ref g0, .int (nI (j9)), .int (nI (v9))]) (n := 4) (Nat.le_of_ble_eq_true rfl)
  rw [lg_entry_eq]
  generalize (lg_sl ([.ref g0, .int (nI (j9)), .int (nI (v9))]) ++ List.replicate (4 - (lg_sl ([.ref g0, .int (nI (j9)), .int (nI (v9))])).length) Slot.unset).toArray = ls at hl ⊢
  have hl : lv_has ls 4 [(0, .ref g0), (1, .int (nI (j9))), (2, .int (nI (v9)))] := hl
  refine lv_iload_n hx hb d_GL_put_0 rfl (lv_at hl 1 rfl) ?_
  refine lv_if_lt (tgt := 12) hx hb d_GL_put_1 (by decide) (fun hc6887 => ?_) (fun hc6887 => ?_)
  · skip
    have hc6887n : j9 < 0 := (nI_ltI (a := j9) (b := 0) (by omega) (by omega)).mp hc6887
    omega
  · skip
    have hc6887n : ¬ (j9 < 0) := fun z => hc6887 ((nI_ltI (a := j9) (b := 0) (by omega) (by omega)).mpr z)
    refine lv_iload_n hx hb d_GL_put_4 rfl (lv_at hl 1 rfl) ?_
    refine lv_aload_n hx hb d_GL_put_5 rfl (lv_at hl 0 rfl) ?_
    refine va_get (D := (dC, dI)) (ci := 9) (v := .int (nI (fz))) (C := R_GL) (T := F_GL) (N := 10) hx hb hts in_GL hown hK hP 0 rfl rfl 1 (by decide) (hts _ (List.mem_cons_of_mem _ w_288)) (fun _ h9 => h9) rfl d_GL_put_6 ?_
    refine lv_icmp_lt (tgt := 22) hx hb d_GL_put_9 (by decide) (fun hc6888 => ?_) (fun hc6888 => ?_)
    · skip
      have hc6888n : j9 < fz := (nI_ltI (a := j9) (b := fz) (by omega) (by omega)).mp hc6888
      refine lv_iload_n hx hb d_GL_put_22 rfl (lv_at hl 2 rfl) ?_
      refine lv_if_lt (tgt := 33) hx hb d_GL_put_23 (by decide) (fun hc6889 => ?_) (fun hc6889 => ?_)
      · skip
        have hc6889n : v9 < 0 := (nI_ltI (a := v9) (b := 0) (by omega) (by omega)).mp hc6889
        omega
      · skip
        have hc6889n : ¬ (v9 < 0) := fun z => hc6889 ((nI_ltI (a := v9) (b := 0) (by omega) (by omega)).mpr z)
        refine lv_iload_n hx hb d_GL_put_26 rfl (lv_at hl 2 rfl) ?_
        refine lv_sipush (v := 255) hx hb d_GL_put_27 (by decide) ?_
        refine lv_icmp_le (tgt := 43) hx hb d_GL_put_30 (by decide) (fun hc6890 => ?_) (fun hc6890 => ?_)
        · skip
          have hc6890n : v9 ≤ 255 := (nI_leI (a := v9) (b := 255) (by omega) (by omega)).mp hc6890
          refine lv_aload_n hx hb d_GL_put_43 rfl (lv_at hl 0 rfl) ?_
          refine va_get (D := (dC, dI)) (ci := 9) (v := .ref fi) (C := R_GL) (T := F_GL) (N := 10) hx hb hts in_GL hown hK hP 0 rfl rfl 0 (by decide) (hts _ (List.mem_cons_of_mem _ w_287)) (fun _ h9 => h9) rfl d_GL_put_44 ?_
          refine lv_iload_n hx hb d_GL_put_47 rfl (lv_at hl 1 rfl) ?_
          refine va_iald hx hb hK hP 1 0 rfl rfl (pk_in (j9) 1200 (by omega) rfl (by decide)) d_GL_put_48 ?_
          refine lv_topi (fun v6891 ev6891 => ?_)
          refine lv_istore_n (lv' := [(3, .int v6891), (0, .ref g0), (1, .int (nI (j9))), (2, .int (nI (v9)))]) hx hb d_GL_put_49 rfl hl (by decide) rfl (fun ls hl => ?_)
          refine lv_aload_n hx hb d_GL_put_50 rfl (lv_at hl 1 rfl) ?_
          refine va_get (D := (dC, dI)) (ci := 9) (v := .ref fi) (C := R_GL) (T := F_GL) (N := 10) hx hb hts in_GL hown hK hP 0 rfl rfl 0 (by decide) (hts _ (List.mem_cons_of_mem _ w_287)) (fun _ h9 => h9) rfl d_GL_put_51 ?_
          refine lv_iload_n hx hb d_GL_put_54 rfl (lv_at hl 2 rfl) ?_
          refine lv_iload_n hx hb d_GL_put_55 rfl (lv_at hl 3 rfl) ?_
          refine va_iast hx hb hK hP hD hS 1 0 rfl rfl (pk_in (j9) 1200 (by omega) rfl (by decide)) d_GL_put_56 (fun H locs hP hD hS => ?_)
          have hP : va_P (dC, dI) cls_ [(g0, .inr (9, [.ref fi, .int (nI (fz)), .ref qf, .ref qfB, .int (bI hf), .ref ko, .ref ki, .ref kb, .ref tx, .int (nI (tz))])), (fi, .inl (cF, 1200, .inl (upd (fq) (Int32.toNatClampNeg (nI (j9))) (nI (v9)))))] H := hP
          have hD : va_D A [(g0, .inr (9, [.ref fi, .int (nI (fz)), .ref qf, .ref qfB, .int (bI hf), .ref ko, .ref ki, .ref kb, .ref tx, .int (nI (tz))])), (fi, .inl (cF, 1200, .inl (upd (fq) (Int32.toNatClampNeg (nI (j9))) (nI (v9)))))] := hD
          obtain ⟨g6892, eg6892⟩ : ∃ z : Nat → Int32, z = upd (fq) (Int32.toNatClampNeg (nI (j9))) (nI (v9)) := ⟨_, rfl⟩
          rw [← eg6892] at hP hD
          have hP : va_P (dC, dI) cls_ [(g0, .inr (9, [.ref fi, .int (nI (fz)), .ref qf, .ref qfB, .int (bI hf), .ref ko, .ref ki, .ref kb, .ref tx, .int (nI (tz))])), (fi, .inl (cF, 1200, .inl (g6892)))] H := hP
          have hD : va_D A [(g0, .inr (9, [.ref fi, .int (nI (fz)), .ref qf, .ref qfB, .int (bI hf), .ref ko, .ref ki, .ref kb, .ref tx, .int (nI (tz))])), (fi, .inl (cF, 1200, .inl (g6892)))] := hD
          refine lv_iload_n hx hb d_GL_put_57 rfl (lv_at hl 0 rfl) ?_
          refine W.widen (k := 0) (n := 0) (Nat.le_of_ble_eq_true rfl) (Nat.le_of_ble_eq_true rfl) ?_
          have hP9 := hP.sub (ws' := [(g0, .inr (9, [.ref fi, .int (nI (fz)), .ref qf, .ref qfB, .int (bI hf), .ref ko, .ref ki, .ref kb, .ref tx, .int (nI (tz))])), (fi, .inl (cF, 1200, .inl (g6892)))]) [0, 1] rfl
          have hD9 := hD.sub (ws' := [(g0, .inr (9, [.ref fi, .int (nI (fz)), .ref qf, .ref qfB, .int (bI hf), .ref ko, .ref ki, .ref kb, .ref tx, .int (nI (tz))])), (fi, .inl (cF, 1200, .inl (g6892)))]) [0, 1] (by decide) rfl
          have hK9 := hK.sub (tys' := [(cF, .int)]) [0] rfl
          exact W.iret (v := v6891) hx hb hr (fun t ht hW => ⟨⟨v6891, (), rfl, (by rw [ev6891, nI_clamp (show j9 < 2 ^ 31 by omega)]), g6892, (by rw [eg6892]; exact isB_upd (by assumption) ⟨v9, by omega, rfl⟩), (by rw [eg6892, nI_clamp (show j9 < 2 ^ 31 by omega)]), by rw [ht]; exact hP9, va_K.moved hW.alike hK9, hD9⟩, hS.F ht⟩) hS.2.2 d_GL_put_58
        · skip
          have hc6890n : ¬ (v9 ≤ 255) := fun z => hc6890 ((nI_leI (a := v9) (b := 255) (by omega) (by omega)).mpr z)
          omega
    · skip
      have hc6888n : ¬ (j9 < fz) := fun z => hc6888 ((nI_ltI (a := j9) (b := fz) (by omega) (by omega)).mpr z)
      omega
set_option maxHeartbeats 4000000 in
set_option maxRecDepth 100000 in
/-- GlyphLines.at -/
theorem g_GL_at_no (l : Launch) (dC : Nat → ClassId) (dI : Nat → Nat → Nat) (g0 : Nat) (fi : Nat) (fz : Nat) (qf : Nat) (qfB : Nat) (hf : Bool) (ko : Nat) (ki : Nat) (kb : Nat) (tx : Nat) (tz : Nat) (cF : ClassId) (fq : Nat → Int32) (i : Int32) (sz : Nat) (hq0 : fz ≤ 1200) (hq1 : tz ≤ 12) (hq2 : (i : Int32) < 0 ∨ ¬ i < nI fz) : Met l y_GL_at s_GL_at ({ frames := 8, cells := 0, slots := 0, locals := 200 }) (va_Pc [.ref g0, .int i] (fun U => U.heap.size = sz ∧ va_P (dC, dI) cls_ [(g0, .inr (9, [.ref fi, .int (nI (fz)), .ref qf, .ref qfB, .int (bI hf), .ref ko, .ref ki, .ref kb, .ref tx, .int (nI (tz))])), (fi, .inl (cF, 1200, .inl (fq)))] U.heap ∧ va_K (dC, dI) cls_ [(cF, .int)] U ∧ va_D (fun _ => True) [(g0, .inr (9, [.ref fi, .int (nI (fz)), .ref qf, .ref qfB, .int (bI hf), .ref ko, .ref ki, .ref kb, .ref tx, .int (nI (tz))])), (fi, .inl (cF, 1200, .inl (fq)))])) (va_Qi (fun (r : Int32) (_ : Unit) => r = -1) (fun (_ : Unit) (t : State) => va_P (dC, dI) cls_ [(g0, .inr (9, [.ref fi, .int (nI (fz)), .ref qf, .ref qfB, .int (bI hf), .ref ko, .ref ki, .ref kb, .ref tx, .int (nI (tz))])), (fi, .inl (cF, 1200, .inl (fq)))] t.heap ∧ va_K (dC, dI) cls_ [(cF, .int)] t ∧ va_D (va_A [(g0, .inr (9, [.ref fi, .int (nI (fz)), .ref qf, .ref qfB, .int (bI hf), .ref ko, .ref ki, .ref kb, .ref tx, .int (nI (tz))])), (fi, .inl (cF, 1200, .inl (fq)))] sz) [(g0, .inr (9, [.ref fi, .int (nI (fz)), .ref qf, .ref qfB, .int (bI hf), .ref ko, .ref ki, .ref kb, .ref tx, .int (nI (tz))])), (fi, .inl (cF, 1200, .inl (fq)))]) (va_A [(g0, .inr (9, [.ref fi, .int (nI (fz)), .ref qf, .ref qfB, .int (bI hf), .ref ko, .ref ki, .ref kb, .ref tx, .int (nI (tz))])), (fi, .inl (cF, 1200, .inl (fq)))] sz)) 0 0 (va_A [(g0, .inr (9, [.ref fi, .int (nI (fz)), .ref qf, .ref qfB, .int (bI hf), .ref ko, .ref ki, .ref kb, .ref tx, .int (nI (tz))])), (fi, .inl (cF, 1200, .inl (fq)))] sz) := by
  refine Met.ofW (cc := b_GL_at) (maxL := 2) (ret := (some .int)) (by decide) rfl ?_
  intro p e s m args below meth c s₁ B hml hv
  obtain ⟨rfl, hsz, hP, hK, hD0⟩ := hv
  have hx := B.exec
  have hb := B.bytes
  have hr := B.returns
  have hts := atoms_spec (ws := s_GL_at) B.pre
  have hown : s.vm.findClass R_GL = some m.cls := findClass_of_methodNamed B.named
  have hlocks := B.notSynchronized
  subst hsz
  have hD := hD0.self (sz := s.heap.size)
  generalize hAe : va_A [(g0, .inr (9, [.ref fi, .int (nI (fz)), .ref qf, .ref qfB, .int (bI hf), .ref ko, .ref ki, .ref kb, .ref tx, .int (nI (tz))])), (fi, .inl (cF, 1200, .inl (fq)))] s.heap.size = A at hD ⊢
  have hA : ∀ q : Nat, s.heap.size ≤ q → A q := fun q h => by rw [← hAe]; exact Or.inr h
  have hS : va_S A s.heap s.heap [] := va_S.rf
  have hP : va_P (dC, dI) cls_ [(g0, .inr (9, [.ref fi, .int (nI (fz)), .ref qf, .ref qfB, .int (bI hf), .ref ko, .ref ki, .ref kb, .ref tx, .int (nI (tz))])), (fi, .inl (cF, 1200, .inl (fq)))] s.heap := hP
  have hl := lv_entry ([.ref g0, .int i]) (n := 2) (Nat.le_of_ble_eq_true rfl)
  rw [lg_entry_eq]
  generalize (lg_sl ([.ref g0, .int i]) ++ List.replicate (2 - (lg_sl ([.ref g0, .int i])).length) Slot.unset).toArray = ls at hl ⊢
  have hl : lv_has ls 2 [(0, .ref g0), (1, .int i)] := hl
  refine lv_iload_n hx hb d_GL_at_0 rfl (lv_at hl 1 rfl) ?_
  refine lv_if_lt (tgt := 21) hx hb d_GL_at_1 (by decide) (fun hc6893 => ?_) (fun hc6893 => ?_)
  · skip
    refine lv_iconst (v := (-1)) hx hb d_GL_at_21 (by decide) ?_
    refine W.widen (k := 0) (n := 0) (Nat.le_of_ble_eq_true rfl) (Nat.le_of_ble_eq_true rfl) ?_
    have hP9 := hP.sub (ws' := [(g0, .inr (9, [.ref fi, .int (nI (fz)), .ref qf, .ref qfB, .int (bI hf), .ref ko, .ref ki, .ref kb, .ref tx, .int (nI (tz))])), (fi, .inl (cF, 1200, .inl (fq)))]) [0, 1] rfl
    have hD9 := hD.sub (ws' := [(g0, .inr (9, [.ref fi, .int (nI (fz)), .ref qf, .ref qfB, .int (bI hf), .ref ko, .ref ki, .ref kb, .ref tx, .int (nI (tz))])), (fi, .inl (cF, 1200, .inl (fq)))]) [0, 1] (by decide) rfl
    have hK9 := hK.sub (tys' := [(cF, .int)]) [0] rfl
    exact W.iret (v := (-1)) hx hb hr (fun t ht hW => ⟨⟨(-1), (), rfl, rfl, by rw [ht]; exact hP9, va_K.moved hW.alike hK9, hD9⟩, hS.F ht⟩) hS.2.2 d_GL_at_22
  · skip
    refine lv_iload_n hx hb d_GL_at_4 rfl (lv_at hl 1 rfl) ?_
    refine lv_aload_n hx hb d_GL_at_5 rfl (lv_at hl 0 rfl) ?_
    refine va_get (D := (dC, dI)) (ci := 9) (v := .int (nI (fz))) (C := R_GL) (T := F_GL) (N := 10) hx hb hts in_GL hown hK hP 0 rfl rfl 1 (by decide) (hts _ (List.mem_cons_of_mem _ w_288)) (fun _ h9 => h9) rfl d_GL_at_6 ?_
    refine lv_icmp_ge (tgt := 21) hx hb d_GL_at_9 (by decide) (fun hc6894 => ?_) (fun hc6894 => ?_)
    · skip
      refine lv_iconst (v := (-1)) hx hb d_GL_at_21 (by decide) ?_
      refine W.widen (k := 0) (n := 0) (Nat.le_of_ble_eq_true rfl) (Nat.le_of_ble_eq_true rfl) ?_
      have hP9 := hP.sub (ws' := [(g0, .inr (9, [.ref fi, .int (nI (fz)), .ref qf, .ref qfB, .int (bI hf), .ref ko, .ref ki, .ref kb, .ref tx, .int (nI (tz))])), (fi, .inl (cF, 1200, .inl (fq)))]) [0, 1] rfl
      have hD9 := hD.sub (ws' := [(g0, .inr (9, [.ref fi, .int (nI (fz)), .ref qf, .ref qfB, .int (bI hf), .ref ko, .ref ki, .ref kb, .ref tx, .int (nI (tz))])), (fi, .inl (cF, 1200, .inl (fq)))]) [0, 1] (by decide) rfl
      have hK9 := hK.sub (tys' := [(cF, .int)]) [0] rfl
      exact W.iret (v := (-1)) hx hb hr (fun t ht hW => ⟨⟨(-1), (), rfl, rfl, by rw [ht]; exact hP9, va_K.moved hW.alike hK9, hD9⟩, hS.F ht⟩) hS.2.2 d_GL_at_22
    · skip
      exact absurd (Int32.not_le.mp hc6894) (fd_in (by assumption) hc6893)
set_option maxHeartbeats 4000000 in
set_option maxRecDepth 100000 in
/-- GlyphLines.at -/
theorem g_GL_at (l : Launch) (dC : Nat → ClassId) (dI : Nat → Nat → Nat) (g0 : Nat) (fi : Nat) (fz : Nat) (qf : Nat) (qfB : Nat) (hf : Bool) (ko : Nat) (ki : Nat) (kb : Nat) (tx : Nat) (tz : Nat) (cF : ClassId) (fq : Nat → Int32) (j9 : Nat) (sz : Nat) (hq0 : fz ≤ 1200) (hq1 : tz ≤ 12) (hq2 : j9 < fz) : Met l y_GL_at s_GL_at ({ frames := 8, cells := 0, slots := 0, locals := 200 }) (va_Pc [.ref g0, .int (nI (j9))] (fun U => U.heap.size = sz ∧ va_P (dC, dI) cls_ [(g0, .inr (9, [.ref fi, .int (nI (fz)), .ref qf, .ref qfB, .int (bI hf), .ref ko, .ref ki, .ref kb, .ref tx, .int (nI (tz))])), (fi, .inl (cF, 1200, .inl (fq)))] U.heap ∧ va_K (dC, dI) cls_ [(cF, .int)] U ∧ va_D (fun _ => True) [(g0, .inr (9, [.ref fi, .int (nI (fz)), .ref qf, .ref qfB, .int (bI hf), .ref ko, .ref ki, .ref kb, .ref tx, .int (nI (tz))])), (fi, .inl (cF, 1200, .inl (fq)))])) (va_Qi (fun (r : Int32) (_ : Unit) => r = fq j9) (fun (_ : Unit) (t : State) => va_P (dC, dI) cls_ [(g0, .inr (9, [.ref fi, .int (nI (fz)), .ref qf, .ref qfB, .int (bI hf), .ref ko, .ref ki, .ref kb, .ref tx, .int (nI (tz))])), (fi, .inl (cF, 1200, .inl (fq)))] t.heap ∧ va_K (dC, dI) cls_ [(cF, .int)] t ∧ va_D (va_A [(g0, .inr (9, [.ref fi, .int (nI (fz)), .ref qf, .ref qfB, .int (bI hf), .ref ko, .ref ki, .ref kb, .ref tx, .int (nI (tz))])), (fi, .inl (cF, 1200, .inl (fq)))] sz) [(g0, .inr (9, [.ref fi, .int (nI (fz)), .ref qf, .ref qfB, .int (bI hf), .ref ko, .ref ki, .ref kb, .ref tx, .int (nI (tz))])), (fi, .inl (cF, 1200, .inl (fq)))]) (va_A [(g0, .inr (9, [.ref fi, .int (nI (fz)), .ref qf, .ref qfB, .int (bI hf), .ref ko, .ref ki, .ref kb, .ref tx, .int (nI (tz))])), (fi, .inl (cF, 1200, .inl (fq)))] sz)) 0 0 (va_A [(g0, .inr (9, [.ref fi, .int (nI (fz)), .ref qf, .ref qfB, .int (bI hf), .ref ko, .ref ki, .ref kb, .ref tx, .int (nI (tz))])), (fi, .inl (cF, 1200, .inl (fq)))] sz) := by
  refine Met.ofW (cc := b_GL_at) (maxL := 2) (ret := (some .int)) (by decide) rfl ?_
  intro p e s m args below meth c s₁ B hml hv
  obtain ⟨rfl, hsz, hP, hK, hD0⟩ := hv
  have hx := B.exec
  have hb := B.bytes
  have hr := B.returns
  have hts := atoms_spec (ws := s_GL_at) B.pre
  have hown : s.vm.findClass R_GL = some m.cls := findClass_of_methodNamed B.named
  have hlocks := B.notSynchronized
  subst hsz
  have hD := hD0.self (sz := s.heap.size)
  generalize hAe : va_A [(g0, .inr (9, [.ref fi, .int (nI (fz)), .ref qf, .ref qfB, .int (bI hf), .ref ko, .ref ki, .ref kb, .ref tx, .int (nI (tz))])), (fi, .inl (cF, 1200, .inl (fq)))] s.heap.size = A at hD ⊢
  have hA : ∀ q : Nat, s.heap.size ≤ q → A q := fun q h => by rw [← hAe]; exact Or.inr h
  have hS : va_S A s.heap s.heap [] := va_S.rf
  have hP : va_P (dC, dI) cls_ [(g0, .inr (9, [.ref fi, .int (nI (fz)), .ref qf, .ref qfB, .int (bI hf), .ref ko, .ref ki, .ref kb, .ref tx, .int (nI (tz))])), (fi, .inl (cF, 1200, .inl (fq)))] s.heap := hP
  have hl := lv_entry ([.ref g0, .int (nI (j9))]) (n := 2) (Nat.le_of_ble_eq_true rfl)
  rw [lg_entry_eq]
  generalize (lg_sl ([.ref g0, .int (nI (j9))]) ++ List.replicate (2 - (lg_sl ([.ref g0, .int (nI (j9))])).length) Slot.unset).toArray = ls at hl ⊢
  have hl : lv_has ls 2 [(0, .ref g0), (1, .int (nI (j9)))] := hl
  refine lv_iload_n hx hb d_GL_at_0 rfl (lv_at hl 1 rfl) ?_
  refine lv_if_lt (tgt := 21) hx hb d_GL_at_1 (by decide) (fun hc6895 => ?_) (fun hc6895 => ?_)
  · skip
    have hc6895n : j9 < 0 := (nI_ltI (a := j9) (b := 0) (by omega) (by omega)).mp hc6895
    omega
  · skip
    have hc6895n : ¬ (j9 < 0) := fun z => hc6895 ((nI_ltI (a := j9) (b := 0) (by omega) (by omega)).mpr z)
    refine lv_iload_n hx hb d_GL_at_4 rfl (lv_at hl 1 rfl) ?_
    refine lv_aload_n hx hb d_GL_at_5 rfl (lv_at hl 0 rfl) ?_
    refine va_get (D := (dC, dI)) (ci := 9) (v := .int (nI (fz))) (C := R_GL) (T := F_GL) (N := 10) hx hb hts in_GL hown hK hP 0 rfl rfl 1 (by decide) (hts _ (List.mem_cons_of_mem _ w_288)) (fun _ h9 => h9) rfl d_GL_at_6 ?_
    refine lv_icmp_ge (tgt := 21) hx hb d_GL_at_9 (by decide) (fun hc6896 => ?_) (fun hc6896 => ?_)
    · skip
      have hc6896n : fz ≤ j9 := (nI_leI (a := fz) (b := j9) (by omega) (by omega)).mp hc6896
      omega
    · skip
      have hc6896n : ¬ (fz ≤ j9) := fun z => hc6896 ((nI_leI (a := fz) (b := j9) (by omega) (by omega)).mpr z)
      refine lv_aload_n hx hb d_GL_at_12 rfl (lv_at hl 0 rfl) ?_
      refine va_get (D := (dC, dI)) (ci := 9) (v := .ref fi) (C := R_GL) (T := F_GL) (N := 10) hx hb hts in_GL hown hK hP 0 rfl rfl 0 (by decide) (hts _ (List.mem_cons_of_mem _ w_287)) (fun _ h9 => h9) rfl d_GL_at_13 ?_
      refine lv_iload_n hx hb d_GL_at_16 rfl (lv_at hl 1 rfl) ?_
      refine va_iald hx hb hK hP 1 0 rfl rfl (pk_in (j9) 1200 (by omega) rfl (by decide)) d_GL_at_17 ?_
      refine lv_topi (fun v6897 ev6897 => ?_)
      refine lv_goto (tgt := 22) hx hb d_GL_at_18 (by decide) ?_
      refine W.widen (k := 0) (n := 0) (Nat.le_of_ble_eq_true rfl) (Nat.le_of_ble_eq_true rfl) ?_
      have hP9 := hP.sub (ws' := [(g0, .inr (9, [.ref fi, .int (nI (fz)), .ref qf, .ref qfB, .int (bI hf), .ref ko, .ref ki, .ref kb, .ref tx, .int (nI (tz))])), (fi, .inl (cF, 1200, .inl (fq)))]) [0, 1] rfl
      have hD9 := hD.sub (ws' := [(g0, .inr (9, [.ref fi, .int (nI (fz)), .ref qf, .ref qfB, .int (bI hf), .ref ko, .ref ki, .ref kb, .ref tx, .int (nI (tz))])), (fi, .inl (cF, 1200, .inl (fq)))]) [0, 1] (by decide) rfl
      have hK9 := hK.sub (tys' := [(cF, .int)]) [0] rfl
      exact W.iret (v := v6897) hx hb hr (fun t ht hW => ⟨⟨v6897, (), rfl, (by rw [ev6897, nI_clamp (show j9 < 2 ^ 31 by omega)]), by rw [ht]; exact hP9, va_K.moved hW.alike hK9, hD9⟩, hS.F ht⟩) hS.2.2 d_GL_at_22
set_option maxHeartbeats 4000000 in
set_option maxRecDepth 100000 in
/-- GlyphLines.cut -/
theorem g_GL_cut_t (l : Launch) (hfl : l.flags = flags0) (dC : Nat → ClassId) (dI : Nat → Nat → Nat) (g0 : Nat) (fi : Nat) (fz : Nat) (qf : Nat) (qfB : Nat) (hf : Bool) (ko : Nat) (ki : Nat) (kb : Nat) (tx : Nat) (tz : Nat) (i : Int32) (sz : Nat) (hq0 : fz ≤ 1200) (hq1 : tz ≤ 12) (hq2 : (i : Int32) < 0) : th_Met l y_GL_cut s_GL_cut ({ frames := 8, cells := 1, slots := 6, locals := 200 }) (va_Pc [.ref g0, .int i] (fun U => U.heap.size = sz ∧ va_P (dC, dI) cls_ [(g0, .inr (9, [.ref fi, .int (nI (fz)), .ref qf, .ref qfB, .int (bI hf), .ref ko, .ref ki, .ref kb, .ref tx, .int (nI (tz))]))] U.heap ∧ va_K (dC, dI) cls_ [] U ∧ va_D (fun _ => True) [(g0, .inr (9, [.ref fi, .int (nI (fz)), .ref qf, .ref qfB, .int (bI hf), .ref ko, .ref ki, .ref kb, .ref tx, .int (nI (tz))]))] ∧ th_All U)) X_ia 1 6 := by
  refine th_ofW (cc := b_GL_cut) (maxL := 4) (ret := (some .int)) (by decide) rfl ?_
  intro p e s m args below meth c s₁ B hml hv
  obtain ⟨rfl, hsz, hP, hK, hD0, hT9⟩ := hv
  have hx := B.exec
  have hb := B.bytes
  have hts := atoms_spec (ws := s_GL_cut) B.pre
  have hown : s.vm.findClass R_GL = some m.cls := findClass_of_methodNamed B.named
  have hlocks := B.notSynchronized
  have htr : e.platform.stackTraces = false := Launch.traces_off hfl B.admits
  have hnoh := B.noHandlers (hts _ List.mem_cons_self)
  obtain ⟨hT1, hT2, hT3, ⟨qs62, hz62⟩, ⟨qs69, hz69⟩, ⟨qs72, hz72⟩, ⟨qs159, hz159⟩, ⟨qs91, hz91⟩, ⟨qs165, hz165⟩, ⟨qs114, hz114⟩, ⟨qs116, hz116⟩, ⟨qs131, hz131⟩, ⟨qs136, hz136⟩, ⟨qs151, hz151⟩⟩ := id hT9
  have hH : ∀ q : Nat, q < s.heap.size → s.heap[q]? = s.heap[q]? := fun _ _ => rfl
  subst hsz
  have hD := hD0.self (sz := s.heap.size)
  generalize hAe : va_A [(g0, .inr (9, [.ref fi, .int (nI (fz)), .ref qf, .ref qfB, .int (bI hf), .ref ko, .ref ki, .ref kb, .ref tx, .int (nI (tz))]))] s.heap.size = A at hD
  have hA : ∀ q : Nat, s.heap.size ≤ q → A q := fun q h => by rw [← hAe]; exact Or.inr h
  have hS : va_S A s.heap s.heap [] := va_S.rf
  have hP : va_P (dC, dI) cls_ [(g0, .inr (9, [.ref fi, .int (nI (fz)), .ref qf, .ref qfB, .int (bI hf), .ref ko, .ref ki, .ref kb, .ref tx, .int (nI (tz))]))] s.heap := hP
  have hl := lv_entry ([.ref g0, .int i]) (n := 4) (Nat.le_of_ble_eq_true rfl)
  rw [lg_entry_eq]
  generalize (lg_sl ([.ref g0, .int i]) ++ List.replicate (4 - (lg_sl ([.ref g0, .int i])).length) Slot.unset).toArray = ls at hl ⊢
  have hl : lv_has ls 4 [(0, .ref g0), (1, .int i)] := hl
  refine lv_iload_n hx hb d_GL_cut_0 rfl (lv_at hl 1 rfl) ?_
  refine lv_if_ge (tgt := 14) hx hb d_GL_cut_1 (by decide) (fun hc6898 => ?_) (fun hc6898 => ?_)
  · skip
    exact absurd (by assumption) (Int32.not_lt.mpr hc6898)
  · skip
    exact th_throwS (names := th_nm) (tx := "fewer than no bytes") hx htr hb (by rw [hml]; exact hl.1.symm) hown (by decide +kernel) (by decide +kernel) (hT2 _) (hts _ (List.mem_cons_of_mem _ w_625)) (hts _ (List.mem_cons_of_mem _ w_16)) hz72 hnoh hlocks d_GL_cut_4 d_GL_cut_7 d_GL_cut_8 d_GL_cut_10 d_GL_cut_13 (Nat.le_of_ble_eq_true rfl) (Nat.le_of_ble_eq_true rfl) (Nat.le_of_ble_eq_true rfl) (Nat.le_of_ble_eq_true rfl)
set_option maxHeartbeats 4000000 in
set_option maxRecDepth 100000 in
/-- GlyphLines.cut -/
theorem g_GL_cut (l : Launch) (dC : Nat → ClassId) (dI : Nat → Nat → Nat) (g0 : Nat) (fi : Nat) (fz : Nat) (qf : Nat) (qfB : Nat) (hf : Bool) (ko : Nat) (ki : Nat) (kb : Nat) (tx : Nat) (tz : Nat) (mm : Nat) (sz : Nat) (hq0 : fz ≤ 1200) (hq1 : tz ≤ 12) (hq2 : mm < 2147483648) : Met l y_GL_cut s_GL_cut ({ frames := 8, cells := 0, slots := 0, locals := 200 }) (va_Pc [.ref g0, .int (nI (mm))] (fun U => U.heap.size = sz ∧ va_P (dC, dI) cls_ [(g0, .inr (9, [.ref fi, .int (nI (fz)), .ref qf, .ref qfB, .int (bI hf), .ref ko, .ref ki, .ref kb, .ref tx, .int (nI (tz))]))] U.heap ∧ va_K (dC, dI) cls_ [] U ∧ va_D (fun _ => True) [(g0, .inr (9, [.ref fi, .int (nI (fz)), .ref qf, .ref qfB, .int (bI hf), .ref ko, .ref ki, .ref kb, .ref tx, .int (nI (tz))]))])) (va_Qi (fun (r : Int32) (_ : Unit) => r = nI (fz - min mm fz)) (fun (_ : Unit) (t : State) => ∃ (fz_2 : Nat), fz_2 ≤ 1200 ∧ fz_2 = min mm fz ∧ va_P (dC, dI) cls_ [(g0, .inr (9, [.ref fi, .int (nI (fz_2)), .ref qf, .ref qfB, .int (bI hf), .ref ko, .ref ki, .ref kb, .ref tx, .int (nI (tz))]))] t.heap ∧ va_K (dC, dI) cls_ [] t ∧ va_D (va_A [(g0, .inr (9, [.ref fi, .int (nI (fz)), .ref qf, .ref qfB, .int (bI hf), .ref ko, .ref ki, .ref kb, .ref tx, .int (nI (tz))]))] sz) [(g0, .inr (9, [.ref fi, .int (nI (fz_2)), .ref qf, .ref qfB, .int (bI hf), .ref ko, .ref ki, .ref kb, .ref tx, .int (nI (tz))]))]) (va_A [(g0, .inr (9, [.ref fi, .int (nI (fz)), .ref qf, .ref qfB, .int (bI hf), .ref ko, .ref ki, .ref kb, .ref tx, .int (nI (tz))]))] sz)) 0 0 (va_A [(g0, .inr (9, [.ref fi, .int (nI (fz)), .ref qf, .ref qfB, .int (bI hf), .ref ko, .ref ki, .ref kb, .ref tx, .int (nI (tz))]))] sz) := by
  refine Met.ofW (cc := b_GL_cut) (maxL := 4) (ret := (some .int)) (by decide) rfl ?_
  intro p e s m args below meth c s₁ B hml hv
  obtain ⟨rfl, hsz, hP, hK, hD0⟩ := hv
  have hx := B.exec
  have hb := B.bytes
  have hr := B.returns
  have hts := atoms_spec (ws := s_GL_cut) B.pre
  have hown : s.vm.findClass R_GL = some m.cls := findClass_of_methodNamed B.named
  have hlocks := B.notSynchronized
  subst hsz
  have hD := hD0.self (sz := s.heap.size)
  generalize hAe : va_A [(g0, .inr (9, [.ref fi, .int (nI (fz)), .ref qf, .ref qfB, .int (bI hf), .ref ko, .ref ki, .ref kb, .ref tx, .int (nI (tz))]))] s.heap.size = A at hD ⊢
  have hA : ∀ q : Nat, s.heap.size ≤ q → A q := fun q h => by rw [← hAe]; exact Or.inr h
  have hS : va_S A s.heap s.heap [] := va_S.rf
  have hP : va_P (dC, dI) cls_ [(g0, .inr (9, [.ref fi, .int (nI (fz)), .ref qf, .ref qfB, .int (bI hf), .ref ko, .ref ki, .ref kb, .ref tx, .int (nI (tz))]))] s.heap := hP
  have hl := lv_entry ([.ref g0, .int (nI (mm))]) (n := 4) (Nat.le_of_ble_eq_true rfl)
  rw [lg_entry_eq]
  generalize (lg_sl ([.ref g0, .int (nI (mm))]) ++ List.replicate (4 - (lg_sl ([.ref g0, .int (nI (mm))])).length) Slot.unset).toArray = ls at hl ⊢
  have hl : lv_has ls 4 [(0, .ref g0), (1, .int (nI (mm)))] := hl
  refine lv_iload_n hx hb d_GL_cut_0 rfl (lv_at hl 1 rfl) ?_
  refine lv_if_ge (tgt := 14) hx hb d_GL_cut_1 (by decide) (fun hc6899 => ?_) (fun hc6899 => ?_)
  · skip
    have hc6899n : 0 ≤ mm := (nI_leI (a := 0) (b := mm) (by omega) (by omega)).mp hc6899
    refine lv_iload_n hx hb d_GL_cut_14 rfl (lv_at hl 1 rfl) ?_
    refine lv_aload_n hx hb d_GL_cut_15 rfl (lv_at hl 0 rfl) ?_
    refine va_get (D := (dC, dI)) (ci := 9) (v := .int (nI (fz))) (C := R_GL) (T := F_GL) (N := 10) hx hb hts in_GL hown hK hP 0 rfl rfl 1 (by decide) (hts _ (List.mem_cons_of_mem _ w_288)) (fun _ h9 => h9) rfl d_GL_cut_16 ?_
    refine va_mmin hx hb (by rw [hml]; exact hl.1.symm) hown (hts _ (List.mem_cons_of_mem _ w_649)) (hts _ (List.mem_cons_of_mem _ w_335)) (hts _ (List.mem_cons_of_mem _ w_17)) (hts _ (List.mem_cons_of_mem _ w_336)) (Nat.le_of_ble_eq_true rfl) (Nat.le_of_ble_eq_true rfl) (Nat.le_of_ble_eq_true rfl) (Nat.le_of_ble_eq_true rfl) d_GL_cut_19 ?_
    refine lv_ci (y := nI (min mm fz)) (nI_min (by omega) (by omega)) ?_
    refine lv_istore_n (lv' := [(2, .int (nI (min mm fz))), (0, .ref g0), (1, .int (nI (mm)))]) hx hb d_GL_cut_22 rfl hl (by decide) rfl (fun ls hl => ?_)
    refine lv_aload_n hx hb d_GL_cut_23 rfl (lv_at hl 1 rfl) ?_
    refine va_get (D := (dC, dI)) (ci := 9) (v := .int (nI (fz))) (C := R_GL) (T := F_GL) (N := 10) hx hb hts in_GL hown hK hP 0 rfl rfl 1 (by decide) (hts _ (List.mem_cons_of_mem _ w_288)) (fun _ h9 => h9) rfl d_GL_cut_24 ?_
    refine lv_iload_n hx hb d_GL_cut_27 rfl (lv_at hl 0 rfl) ?_
    refine lv_isub hx hb d_GL_cut_28 ?_
    refine lv_ci (y := nI (fz - (min mm fz))) (pk_sub (a := fz) (b := min mm fz) (by omega)) ?_
    refine lv_istore_n (lv' := [(3, .int (nI (fz - (min mm fz)))), (2, .int (nI (min mm fz))), (0, .ref g0), (1, .int (nI (mm)))]) hx hb d_GL_cut_29 rfl hl (by decide) rfl (fun ls hl => ?_)
    refine lv_aload_n hx hb d_GL_cut_30 rfl (lv_at hl 2 rfl) ?_
    refine lv_iload_n hx hb d_GL_cut_31 rfl (lv_at hl 1 rfl) ?_
    refine va_put (D := (dC, dI)) (ci := 9) (v := .int (nI (min mm fz))) (ty := .int) (C := R_GL) (T := F_GL) (N := 10) hx hb hts in_GL t_GL t_GL_ok n_GL hown hK hP hD hS 0 rfl rfl 1 (by decide) (hts _ (List.mem_cons_of_mem _ w_288)) (fun _ h9 => h9) rfl  (by decide +kernel) rfl rfl (Nat.le_of_ble_eq_true rfl) d_GL_cut_32 (fun H locs hP hD hS => ?_)
    have hP : va_P (dC, dI) cls_ [(g0, .inr (9, [.ref fi, .int (nI (min mm fz)), .ref qf, .ref qfB, .int (bI hf), .ref ko, .ref ki, .ref kb, .ref tx, .int (nI (tz))]))] H := hP
    have hD : va_D A [(g0, .inr (9, [.ref fi, .int (nI (min mm fz)), .ref qf, .ref qfB, .int (bI hf), .ref ko, .ref ki, .ref kb, .ref tx, .int (nI (tz))]))] := hD
    refine lv_iload_n hx hb d_GL_cut_35 rfl (lv_at hl 0 rfl) ?_
    refine W.widen (k := 0) (n := 0) (Nat.le_of_ble_eq_true rfl) (Nat.le_of_ble_eq_true rfl) ?_
    have hP9 := hP.sub (ws' := [(g0, .inr (9, [.ref fi, .int (nI (min mm fz)), .ref qf, .ref qfB, .int (bI hf), .ref ko, .ref ki, .ref kb, .ref tx, .int (nI (tz))]))]) [0] rfl
    have hD9 := hD.sub (ws' := [(g0, .inr (9, [.ref fi, .int (nI (min mm fz)), .ref qf, .ref qfB, .int (bI hf), .ref ko, .ref ki, .ref kb, .ref tx, .int (nI (tz))]))]) [0] (by decide) rfl
    have hK9 := hK.sub (tys' := []) [] rfl
    exact W.iret (v := nI (fz - (min mm fz))) hx hb hr (fun t ht hW => ⟨⟨nI (fz - (min mm fz)), (), rfl, rfl, (min mm fz), by omega, by omega, by rw [ht]; exact hP9, va_K.moved hW.alike hK9, hD9⟩, hS.F ht⟩) hS.2.2 d_GL_cut_36
  · skip
    have hc6899n : ¬ (0 ≤ mm) := fun z => hc6899 ((nI_leI (a := 0) (b := mm) (by omega) (by omega)).mpr z)
    omega
set_option maxHeartbeats 4000000 in
set_option maxRecDepth 100000 in
/-- GlyphLines.row -/
theorem g_GL_row_t (l : Launch) (hfl : l.flags = flags0) (dC : Nat → ClassId) (dI : Nat → Nat → Nat) (g0 : Nat) (fi : Nat) (fz : Nat) (qf : Nat) (qfB : Nat) (hf : Bool) (ko : Nat) (ki : Nat) (kb : Nat) (tx : Nat) (tz : Nat) (i : Int32) (sz : Nat) (hq0 : fz ≤ 1200) (hq1 : tz ≤ 12) (hq2 : (i : Int32) < 0 ∨ ¬ i < 24) : th_Met l y_GL_row s_GL_row ({ frames := 8, cells := 1, slots := 6, locals := 200 }) (va_Pc [.ref g0, .int i] (fun U => U.heap.size = sz ∧ va_P (dC, dI) cls_ [(g0, .inr (9, [.ref fi, .int (nI (fz)), .ref qf, .ref qfB, .int (bI hf), .ref ko, .ref ki, .ref kb, .ref tx, .int (nI (tz))]))] U.heap ∧ va_K (dC, dI) cls_ [] U ∧ va_D (fun _ => True) [(g0, .inr (9, [.ref fi, .int (nI (fz)), .ref qf, .ref qfB, .int (bI hf), .ref ko, .ref ki, .ref kb, .ref tx, .int (nI (tz))]))] ∧ th_All U)) X_io 1 6 := by
  refine th_ofW (cc := b_GL_row) (maxL := 2) (ret := (some .long)) (by decide) rfl ?_
  intro p e s m args below meth c s₁ B hml hv
  obtain ⟨rfl, hsz, hP, hK, hD0, hT9⟩ := hv
  have hx := B.exec
  have hb := B.bytes
  have hts := atoms_spec (ws := s_GL_row) B.pre
  have hown : s.vm.findClass R_GL = some m.cls := findClass_of_methodNamed B.named
  have hlocks := B.notSynchronized
  have htr : e.platform.stackTraces = false := Launch.traces_off hfl B.admits
  have hnoh := B.noHandlers (hts _ List.mem_cons_self)
  obtain ⟨hT1, hT2, hT3, ⟨qs62, hz62⟩, ⟨qs69, hz69⟩, ⟨qs72, hz72⟩, ⟨qs159, hz159⟩, ⟨qs91, hz91⟩, ⟨qs165, hz165⟩, ⟨qs114, hz114⟩, ⟨qs116, hz116⟩, ⟨qs131, hz131⟩, ⟨qs136, hz136⟩, ⟨qs151, hz151⟩⟩ := id hT9
  have hH : ∀ q : Nat, q < s.heap.size → s.heap[q]? = s.heap[q]? := fun _ _ => rfl
  subst hsz
  have hD := hD0.self (sz := s.heap.size)
  generalize hAe : va_A [(g0, .inr (9, [.ref fi, .int (nI (fz)), .ref qf, .ref qfB, .int (bI hf), .ref ko, .ref ki, .ref kb, .ref tx, .int (nI (tz))]))] s.heap.size = A at hD
  have hA : ∀ q : Nat, s.heap.size ≤ q → A q := fun q h => by rw [← hAe]; exact Or.inr h
  have hS : va_S A s.heap s.heap [] := va_S.rf
  have hP : va_P (dC, dI) cls_ [(g0, .inr (9, [.ref fi, .int (nI (fz)), .ref qf, .ref qfB, .int (bI hf), .ref ko, .ref ki, .ref kb, .ref tx, .int (nI (tz))]))] s.heap := hP
  have hl := lv_entry ([.ref g0, .int i]) (n := 2) (Nat.le_of_ble_eq_true rfl)
  rw [lg_entry_eq]
  generalize (lg_sl ([.ref g0, .int i]) ++ List.replicate (2 - (lg_sl ([.ref g0, .int i])).length) Slot.unset).toArray = ls at hl ⊢
  have hl : lv_has ls 2 [(0, .ref g0), (1, .int i)] := hl
  refine lv_iload_n hx hb d_GL_row_0 rfl (lv_at hl 1 rfl) ?_
  refine lv_if_lt (tgt := 10) hx hb d_GL_row_1 (by decide) (fun hc6900 => ?_) (fun hc6900 => ?_)
  · skip
    exact th_throwS (names := th_nm) (tx := "no such row") hx htr hb (by rw [hml]; exact hl.1.symm) hown (by decide +kernel) (by decide +kernel) (hT1 _) (hts _ (List.mem_cons_of_mem _ w_557)) (hts _ (List.mem_cons_of_mem _ w_15)) hz151 hnoh hlocks d_GL_row_10 d_GL_row_13 d_GL_row_14 d_GL_row_16 d_GL_row_19 (Nat.le_of_ble_eq_true rfl) (Nat.le_of_ble_eq_true rfl) (Nat.le_of_ble_eq_true rfl) (Nat.le_of_ble_eq_true rfl)
  · skip
    refine lv_iload_n hx hb d_GL_row_4 rfl (lv_at hl 1 rfl) ?_
    refine lv_bipush (v := 24) hx hb d_GL_row_5 (by decide) ?_
    refine lv_icmp_lt (tgt := 20) hx hb d_GL_row_7 (by decide) (fun hc6901 => ?_) (fun hc6901 => ?_)
    · skip
      exact absurd hc6901 (fd_in (by assumption) hc6900)
    · skip
      exact th_throwS (names := th_nm) (tx := "no such row") hx htr hb (by rw [hml]; exact hl.1.symm) hown (by decide +kernel) (by decide +kernel) (hT1 _) (hts _ (List.mem_cons_of_mem _ w_557)) (hts _ (List.mem_cons_of_mem _ w_15)) hz151 hnoh hlocks d_GL_row_10 d_GL_row_13 d_GL_row_14 d_GL_row_16 d_GL_row_19 (Nat.le_of_ble_eq_true rfl) (Nat.le_of_ble_eq_true rfl) (Nat.le_of_ble_eq_true rfl) (Nat.le_of_ble_eq_true rfl)
set_option maxHeartbeats 4000000 in
set_option maxRecDepth 100000 in
/-- GlyphLines.row -/
theorem g_GL_row (l : Launch) (dC : Nat → ClassId) (dI : Nat → Nat → Nat) (g0 : Nat) (fi : Nat) (fz : Nat) (qf : Nat) (qfB : Nat) (hf : Bool) (ko : Nat) (ki : Nat) (kb : Nat) (tx : Nat) (tz : Nat) (iw : Nat) (ib : Nat) (cW : ClassId) (fw : Nat → Int64) (j9 : Nat) (sz : Nat) (hq0 : fz ≤ 1200) (hq1 : tz ≤ 12) (hq2 : j9 < 24) : Met l y_GL_row s_GL_row ({ frames := 8, cells := 0, slots := 0, locals := 200 }) (va_Pc [.ref g0, .int (nI (j9))] (fun U => U.heap.size = sz ∧ va_P (dC, dI) cls_ [(g0, .inr (9, [.ref fi, .int (nI (fz)), .ref qf, .ref qfB, .int (bI hf), .ref ko, .ref ki, .ref kb, .ref tx, .int (nI (tz))])), (ki, .inr (7, [.ref iw, .ref ib])), (iw, .inl (cW, 24, .inr (.inl (fw))))] U.heap ∧ va_K (dC, dI) cls_ [(cW, .long)] U ∧ va_D (fun _ => True) [(g0, .inr (9, [.ref fi, .int (nI (fz)), .ref qf, .ref qfB, .int (bI hf), .ref ko, .ref ki, .ref kb, .ref tx, .int (nI (tz))])), (ki, .inr (7, [.ref iw, .ref ib])), (iw, .inl (cW, 24, .inr (.inl (fw))))] ∧ nests U)) (va_Ql (fun (r : Int64) (_ : Unit) => True) (fun (_ : Unit) (t : State) => va_P (dC, dI) cls_ [(g0, .inr (9, [.ref fi, .int (nI (fz)), .ref qf, .ref qfB, .int (bI hf), .ref ko, .ref ki, .ref kb, .ref tx, .int (nI (tz))])), (ki, .inr (7, [.ref iw, .ref ib])), (iw, .inl (cW, 24, .inr (.inl (fw))))] t.heap ∧ va_K (dC, dI) cls_ [(cW, .long)] t ∧ va_D (va_A [(g0, .inr (9, [.ref fi, .int (nI (fz)), .ref qf, .ref qfB, .int (bI hf), .ref ko, .ref ki, .ref kb, .ref tx, .int (nI (tz))])), (ki, .inr (7, [.ref iw, .ref ib])), (iw, .inl (cW, 24, .inr (.inl (fw))))] sz) [(g0, .inr (9, [.ref fi, .int (nI (fz)), .ref qf, .ref qfB, .int (bI hf), .ref ko, .ref ki, .ref kb, .ref tx, .int (nI (tz))])), (ki, .inr (7, [.ref iw, .ref ib])), (iw, .inl (cW, 24, .inr (.inl (fw))))]) (va_A [(g0, .inr (9, [.ref fi, .int (nI (fz)), .ref qf, .ref qfB, .int (bI hf), .ref ko, .ref ki, .ref kb, .ref tx, .int (nI (tz))])), (ki, .inr (7, [.ref iw, .ref ib])), (iw, .inl (cW, 24, .inr (.inl (fw))))] sz)) 0 0 (va_A [(g0, .inr (9, [.ref fi, .int (nI (fz)), .ref qf, .ref qfB, .int (bI hf), .ref ko, .ref ki, .ref kb, .ref tx, .int (nI (tz))])), (ki, .inr (7, [.ref iw, .ref ib])), (iw, .inl (cW, 24, .inr (.inl (fw))))] sz) := by
  refine Met.ofW (cc := b_GL_row) (maxL := 2) (ret := (some .long)) (by decide) rfl ?_
  intro p e s m args below meth c s₁ B hml hv
  obtain ⟨rfl, hsz, hP, hK, hD0, hNs⟩ := hv
  have hx := B.exec
  have hb := B.bytes
  have hr := B.returns
  have hts := atoms_spec (ws := s_GL_row) B.pre
  have hown : s.vm.findClass R_GL = some m.cls := findClass_of_methodNamed B.named
  have hlocks := B.notSynchronized
  subst hsz
  have hD := hD0.self (sz := s.heap.size)
  generalize hAe : va_A [(g0, .inr (9, [.ref fi, .int (nI (fz)), .ref qf, .ref qfB, .int (bI hf), .ref ko, .ref ki, .ref kb, .ref tx, .int (nI (tz))])), (ki, .inr (7, [.ref iw, .ref ib])), (iw, .inl (cW, 24, .inr (.inl (fw))))] s.heap.size = A at hD ⊢
  have hA : ∀ q : Nat, s.heap.size ≤ q → A q := fun q h => by rw [← hAe]; exact Or.inr h
  have hS : va_S A s.heap s.heap [] := va_S.rf
  have hP : va_P (dC, dI) cls_ [(g0, .inr (9, [.ref fi, .int (nI (fz)), .ref qf, .ref qfB, .int (bI hf), .ref ko, .ref ki, .ref kb, .ref tx, .int (nI (tz))])), (ki, .inr (7, [.ref iw, .ref ib])), (iw, .inl (cW, 24, .inr (.inl (fw))))] s.heap := hP
  have hl := lv_entry ([.ref g0, .int (nI (j9))]) (n := 2) (Nat.le_of_ble_eq_true rfl)
  rw [lg_entry_eq]
  generalize (lg_sl ([.ref g0, .int (nI (j9))]) ++ List.replicate (2 - (lg_sl ([.ref g0, .int (nI (j9))])).length) Slot.unset).toArray = ls at hl ⊢
  have hl : lv_has ls 2 [(0, .ref g0), (1, .int (nI (j9)))] := hl
  refine lv_iload_n hx hb d_GL_row_0 rfl (lv_at hl 1 rfl) ?_
  refine lv_if_lt (tgt := 10) hx hb d_GL_row_1 (by decide) (fun hc6902 => ?_) (fun hc6902 => ?_)
  · skip
    have hc6902n : j9 < 0 := (nI_ltI (a := j9) (b := 0) (by omega) (by omega)).mp hc6902
    omega
  · skip
    have hc6902n : ¬ (j9 < 0) := fun z => hc6902 ((nI_ltI (a := j9) (b := 0) (by omega) (by omega)).mpr z)
    refine lv_iload_n hx hb d_GL_row_4 rfl (lv_at hl 1 rfl) ?_
    refine lv_bipush (v := 24) hx hb d_GL_row_5 (by decide) ?_
    refine lv_icmp_lt (tgt := 20) hx hb d_GL_row_7 (by decide) (fun hc6903 => ?_) (fun hc6903 => ?_)
    · skip
      have hc6903n : j9 < 24 := (nI_ltI (a := j9) (b := 24) (by omega) (by omega)).mp hc6903
      refine lv_aload_n hx hb d_GL_row_20 rfl (lv_at hl 0 rfl) ?_
      refine va_get (D := (dC, dI)) (ci := 9) (v := .ref ki) (C := R_GL) (T := F_GL) (N := 10) hx hb hts in_GL hown hK hP 0 rfl rfl 6 (by decide) (hts _ (List.mem_cons_of_mem _ w_293)) (fun _ h9 => h9) rfl d_GL_row_21 ?_
      refine va_getN (D := (dC, dI)) (ci := 7) (v := .ref iw) (C := R_PI) (T := F_PI) (N := 2) (host := "GlyphLines") hx hb hts in_PI hown hK hP 1 rfl rfl 0 (by decide) (va_Nw.use rfl (nest_23 hNs)) (fun _ h9 => h9) rfl d_GL_row_24 ?_
      refine lv_iload_n hx hb d_GL_row_27 rfl (lv_at hl 1 rfl) ?_
      refine va_lald hx hb hK hP 2 0 rfl rfl (pk_in (j9) 24 (by omega) rfl (by decide)) d_GL_row_28 ?_
      refine lv_topl (fun v6904 ev6904 => ?_)
      refine W.widen (k := 0) (n := 0) (Nat.le_of_ble_eq_true rfl) (Nat.le_of_ble_eq_true rfl) ?_
      have hP9 := hP.sub (ws' := [(g0, .inr (9, [.ref fi, .int (nI (fz)), .ref qf, .ref qfB, .int (bI hf), .ref ko, .ref ki, .ref kb, .ref tx, .int (nI (tz))])), (ki, .inr (7, [.ref iw, .ref ib])), (iw, .inl (cW, 24, .inr (.inl (fw))))]) [0, 1, 2] rfl
      have hD9 := hD.sub (ws' := [(g0, .inr (9, [.ref fi, .int (nI (fz)), .ref qf, .ref qfB, .int (bI hf), .ref ko, .ref ki, .ref kb, .ref tx, .int (nI (tz))])), (ki, .inr (7, [.ref iw, .ref ib])), (iw, .inl (cW, 24, .inr (.inl (fw))))]) [0, 1, 2] (by decide) rfl
      have hK9 := hK.sub (tys' := [(cW, .long)]) [0] rfl
      exact W.lret (v := v6904) hx hb hr (fun t ht hW => ⟨⟨v6904, (), rfl, trivial, by rw [ht]; exact hP9, va_K.moved hW.alike hK9, hD9⟩, hS.F ht⟩) hS.2.2 d_GL_row_29
    · skip
      have hc6903n : ¬ (j9 < 24) := fun z => hc6903 ((nI_ltI (a := j9) (b := 24) (by omega) (by omega)).mpr z)
      omega
set_option maxHeartbeats 4000000 in
set_option maxRecDepth 100000 in
/-- GlyphLines.feed -/
theorem g_GL_feed_no (l : Launch) (dC : Nat → ClassId) (dI : Nat → Nat → Nat) (g0 : Nat) (fi : Nat) (fz : Nat) (qf : Nat) (qfB : Nat) (hf : Bool) (ko : Nat) (ki : Nat) (kb : Nat) (tx : Nat) (tz : Nat) (cF : ClassId) (fq : Nat → Int32) (w9 : Int32) (sz : Nat) (hq0 : fz ≤ 1200) (hq1 : tz ≤ 12) (hq2 : 1196 < fz) : Met l y_GL_feed s_GL_feed ({ frames := 8, cells := 0, slots := 0, locals := 200 }) (va_Pc [.ref g0, .int w9] (fun U => U.heap.size = sz ∧ va_P (dC, dI) cls_ [(g0, .inr (9, [.ref fi, .int (nI (fz)), .ref qf, .ref qfB, .int (bI hf), .ref ko, .ref ki, .ref kb, .ref tx, .int (nI (tz))])), (fi, .inl (cF, 1200, .inl (fq)))] U.heap ∧ va_K (dC, dI) cls_ [(cF, .int)] U ∧ va_D (fun _ => True) [(g0, .inr (9, [.ref fi, .int (nI (fz)), .ref qf, .ref qfB, .int (bI hf), .ref ko, .ref ki, .ref kb, .ref tx, .int (nI (tz))])), (fi, .inl (cF, 1200, .inl (fq)))])) (va_Qi (fun (r : Int32) (_ : Unit) => r = -1) (fun (_ : Unit) (t : State) => va_P (dC, dI) cls_ [(g0, .inr (9, [.ref fi, .int (nI (fz)), .ref qf, .ref qfB, .int (bI hf), .ref ko, .ref ki, .ref kb, .ref tx, .int (nI (tz))])), (fi, .inl (cF, 1200, .inl (fq)))] t.heap ∧ va_K (dC, dI) cls_ [(cF, .int)] t ∧ va_D (va_A [(g0, .inr (9, [.ref fi, .int (nI (fz)), .ref qf, .ref qfB, .int (bI hf), .ref ko, .ref ki, .ref kb, .ref tx, .int (nI (tz))])), (fi, .inl (cF, 1200, .inl (fq)))] sz) [(g0, .inr (9, [.ref fi, .int (nI (fz)), .ref qf, .ref qfB, .int (bI hf), .ref ko, .ref ki, .ref kb, .ref tx, .int (nI (tz))])), (fi, .inl (cF, 1200, .inl (fq)))]) (va_A [(g0, .inr (9, [.ref fi, .int (nI (fz)), .ref qf, .ref qfB, .int (bI hf), .ref ko, .ref ki, .ref kb, .ref tx, .int (nI (tz))])), (fi, .inl (cF, 1200, .inl (fq)))] sz)) 0 0 (va_A [(g0, .inr (9, [.ref fi, .int (nI (fz)), .ref qf, .ref qfB, .int (bI hf), .ref ko, .ref ki, .ref kb, .ref tx, .int (nI (tz))])), (fi, .inl (cF, 1200, .inl (fq)))] sz) := by
  refine Met.ofW (cc := b_GL_feed) (maxL := 3) (ret := (some .int)) (by decide) rfl ?_
  intro p e s m args below meth c s₁ B hml hv
  obtain ⟨rfl, hsz, hP, hK, hD0⟩ := hv
  have hx := B.exec
  have hb := B.bytes
  have hr := B.returns
  have hts := atoms_spec (ws := s_GL_feed) B.pre
  have hown : s.vm.findClass R_GL = some m.cls := findClass_of_methodNamed B.named
  have hlocks := B.notSynchronized
  subst hsz
  have hD := hD0.self (sz := s.heap.size)
  generalize hAe : va_A [(g0, .inr (9, [.ref fi, .int (nI (fz)), .ref qf, .ref qfB, .int (bI hf), .ref ko, .ref ki, .ref kb, .ref tx, .int (nI (tz))])), (fi, .inl (cF, 1200, .inl (fq)))] s.heap.size = A at hD ⊢
  have hA : ∀ q : Nat, s.heap.size ≤ q → A q := fun q h => by rw [← hAe]; exact Or.inr h
  have hS : va_S A s.heap s.heap [] := va_S.rf
  have hP : va_P (dC, dI) cls_ [(g0, .inr (9, [.ref fi, .int (nI (fz)), .ref qf, .ref qfB, .int (bI hf), .ref ko, .ref ki, .ref kb, .ref tx, .int (nI (tz))])), (fi, .inl (cF, 1200, .inl (fq)))] s.heap := hP
  have hl := lv_entry ([.ref g0, .int w9]) (n := 3) (Nat.le_of_ble_eq_true rfl)
  rw [lg_entry_eq]
  generalize (lg_sl ([.ref g0, .int w9]) ++ List.replicate (3 - (lg_sl ([.ref g0, .int w9])).length) Slot.unset).toArray = ls at hl ⊢
  have hl : lv_has ls 3 [(0, .ref g0), (1, .int w9)] := hl
  refine lv_aload_n hx hb d_GL_feed_0 rfl (lv_at hl 0 rfl) ?_
  refine va_get (D := (dC, dI)) (ci := 9) (v := .int (nI (fz))) (C := R_GL) (T := F_GL) (N := 10) hx hb hts in_GL hown hK hP 0 rfl rfl 1 (by decide) (hts _ (List.mem_cons_of_mem _ w_288)) (fun _ h9 => h9) rfl d_GL_feed_1 ?_
  refine lv_iconst (v := 4) hx hb d_GL_feed_4 (by decide) ?_
  refine lv_iadd hx hb d_GL_feed_5 ?_
  refine lv_ci (y := nI (fz + 4)) (nI_add (fz) (4)) ?_
  refine lv_sipush (v := 1200) hx hb d_GL_feed_6 (by decide) ?_
  refine lv_icmp_le (tgt := 14) hx hb d_GL_feed_9 (by decide) (fun hc6905 => ?_) (fun hc6905 => ?_)
  · skip
    have hc6905n : fz + 4 ≤ 1200 := (nI_leI (a := fz + 4) (b := 1200) (by omega) (by omega)).mp hc6905
    omega
  · skip
    have hc6905n : ¬ (fz + 4 ≤ 1200) := fun z => hc6905 ((nI_leI (a := fz + 4) (b := 1200) (by omega) (by omega)).mpr z)
    refine lv_iconst (v := (-1)) hx hb d_GL_feed_12 (by decide) ?_
    refine W.widen (k := 0) (n := 0) (Nat.le_of_ble_eq_true rfl) (Nat.le_of_ble_eq_true rfl) ?_
    have hP9 := hP.sub (ws' := [(g0, .inr (9, [.ref fi, .int (nI (fz)), .ref qf, .ref qfB, .int (bI hf), .ref ko, .ref ki, .ref kb, .ref tx, .int (nI (tz))])), (fi, .inl (cF, 1200, .inl (fq)))]) [0, 1] rfl
    have hD9 := hD.sub (ws' := [(g0, .inr (9, [.ref fi, .int (nI (fz)), .ref qf, .ref qfB, .int (bI hf), .ref ko, .ref ki, .ref kb, .ref tx, .int (nI (tz))])), (fi, .inl (cF, 1200, .inl (fq)))]) [0, 1] (by decide) rfl
    have hK9 := hK.sub (tys' := [(cF, .int)]) [0] rfl
    exact W.iret (v := (-1)) hx hb hr (fun t ht hW => ⟨⟨(-1), (), rfl, rfl, by rw [ht]; exact hP9, va_K.moved hW.alike hK9, hD9⟩, hS.F ht⟩) hS.2.2 d_GL_feed_13
set_option maxHeartbeats 4000000 in
set_option maxRecDepth 100000 in
/-- GlyphLines.feed -/
theorem g_GL_feed (l : Launch) (dC : Nat → ClassId) (dI : Nat → Nat → Nat) (g0 : Nat) (fi : Nat) (fz : Nat) (qf : Nat) (qfB : Nat) (hf : Bool) (ko : Nat) (ki : Nat) (kb : Nat) (tx : Nat) (tz : Nat) (cF : ClassId) (fq : Nat → Int32) (w9 : Int32) (sz : Nat) (hq0 : fz ≤ 1200) (hq1 : tz ≤ 12) (hq2 : fz ≤ 1196) (hq3 : isB fq) : Met l y_GL_feed s_GL_feed ({ frames := 8, cells := 0, slots := 0, locals := 200 }) (va_Pc [.ref g0, .int w9] (fun U => U.heap.size = sz ∧ va_P (dC, dI) cls_ [(g0, .inr (9, [.ref fi, .int (nI (fz)), .ref qf, .ref qfB, .int (bI hf), .ref ko, .ref ki, .ref kb, .ref tx, .int (nI (tz))])), (fi, .inl (cF, 1200, .inl (fq)))] U.heap ∧ va_K (dC, dI) cls_ [(cF, .int)] U ∧ va_D (fun _ => True) [(g0, .inr (9, [.ref fi, .int (nI (fz)), .ref qf, .ref qfB, .int (bI hf), .ref ko, .ref ki, .ref kb, .ref tx, .int (nI (tz))])), (fi, .inl (cF, 1200, .inl (fq)))])) (va_Qi (fun (r : Int32) (_ : Unit) => r = nI (fz + 4)) (fun (_ : Unit) (t : State) => ∃ (fz_2 : Nat) (fq_2 : Nat → Int32), fz_2 ≤ 1200 ∧ fz_2 = fz + 4 ∧ fq_2 = fd fq fz w9 ∧ va_P (dC, dI) cls_ [(g0, .inr (9, [.ref fi, .int (nI (fz_2)), .ref qf, .ref qfB, .int (bI hf), .ref ko, .ref ki, .ref kb, .ref tx, .int (nI (tz))])), (fi, .inl (cF, 1200, .inl (fq_2)))] t.heap ∧ va_K (dC, dI) cls_ [(cF, .int)] t ∧ va_D (va_A [(g0, .inr (9, [.ref fi, .int (nI (fz)), .ref qf, .ref qfB, .int (bI hf), .ref ko, .ref ki, .ref kb, .ref tx, .int (nI (tz))])), (fi, .inl (cF, 1200, .inl (fq)))] sz) [(g0, .inr (9, [.ref fi, .int (nI (fz_2)), .ref qf, .ref qfB, .int (bI hf), .ref ko, .ref ki, .ref kb, .ref tx, .int (nI (tz))])), (fi, .inl (cF, 1200, .inl (fq_2)))]) (va_A [(g0, .inr (9, [.ref fi, .int (nI (fz)), .ref qf, .ref qfB, .int (bI hf), .ref ko, .ref ki, .ref kb, .ref tx, .int (nI (tz))])), (fi, .inl (cF, 1200, .inl (fq)))] sz)) 0 0 (va_A [(g0, .inr (9, [.ref fi, .int (nI (fz)), .ref qf, .ref qfB, .int (bI hf), .ref ko, .ref ki, .ref kb, .ref tx, .int (nI (tz))])), (fi, .inl (cF, 1200, .inl (fq)))] sz) := by
  refine Met.ofW (cc := b_GL_feed) (maxL := 3) (ret := (some .int)) (by decide) rfl ?_
  intro p e s m args below meth c s₁ B hml hv
  obtain ⟨rfl, hsz, hP, hK, hD0⟩ := hv
  have hx := B.exec
  have hb := B.bytes
  have hr := B.returns
  have hts := atoms_spec (ws := s_GL_feed) B.pre
  have hown : s.vm.findClass R_GL = some m.cls := findClass_of_methodNamed B.named
  have hlocks := B.notSynchronized
  subst hsz
  have hD := hD0.self (sz := s.heap.size)
  generalize hAe : va_A [(g0, .inr (9, [.ref fi, .int (nI (fz)), .ref qf, .ref qfB, .int (bI hf), .ref ko, .ref ki, .ref kb, .ref tx, .int (nI (tz))])), (fi, .inl (cF, 1200, .inl (fq)))] s.heap.size = A at hD ⊢
  have hA : ∀ q : Nat, s.heap.size ≤ q → A q := fun q h => by rw [← hAe]; exact Or.inr h
  have hS : va_S A s.heap s.heap [] := va_S.rf
  have hP : va_P (dC, dI) cls_ [(g0, .inr (9, [.ref fi, .int (nI (fz)), .ref qf, .ref qfB, .int (bI hf), .ref ko, .ref ki, .ref kb, .ref tx, .int (nI (tz))])), (fi, .inl (cF, 1200, .inl (fq)))] s.heap := hP
  have hl := lv_entry ([.ref g0, .int w9]) (n := 3) (Nat.le_of_ble_eq_true rfl)
  rw [lg_entry_eq]
  generalize (lg_sl ([.ref g0, .int w9]) ++ List.replicate (3 - (lg_sl ([.ref g0, .int w9])).length) Slot.unset).toArray = ls at hl ⊢
  have hl : lv_has ls 3 [(0, .ref g0), (1, .int w9)] := hl
  refine lv_aload_n hx hb d_GL_feed_0 rfl (lv_at hl 0 rfl) ?_
  refine va_get (D := (dC, dI)) (ci := 9) (v := .int (nI (fz))) (C := R_GL) (T := F_GL) (N := 10) hx hb hts in_GL hown hK hP 0 rfl rfl 1 (by decide) (hts _ (List.mem_cons_of_mem _ w_288)) (fun _ h9 => h9) rfl d_GL_feed_1 ?_
  refine lv_iconst (v := 4) hx hb d_GL_feed_4 (by decide) ?_
  refine lv_iadd hx hb d_GL_feed_5 ?_
  refine lv_ci (y := nI (fz + 4)) (nI_add (fz) (4)) ?_
  refine lv_sipush (v := 1200) hx hb d_GL_feed_6 (by decide) ?_
  refine lv_icmp_le (tgt := 14) hx hb d_GL_feed_9 (by decide) (fun hc6906 => ?_) (fun hc6906 => ?_)
  · skip
    have hc6906n : fz + 4 ≤ 1200 := (nI_leI (a := fz + 4) (b := 1200) (by omega) (by omega)).mp hc6906
    refine lv_bipush (v := 24) hx hb d_GL_feed_14 (by decide) ?_
    refine lv_istore_n (lv' := [(2, .int 24), (0, .ref g0), (1, .int w9)]) hx hb d_GL_feed_16 rfl hl (by decide) rfl (fun ls hl => ?_)
    refine lv_iload_n hx hb d_GL_feed_17 rfl (lv_at hl 0 rfl) ?_
    refine lv_if_lt (tgt := 53) hx hb d_GL_feed_18 (by decide) (fun hc => absurd hc (by decide +kernel)) (fun _ => ?_)
    refine lv_aload_n hx hb d_GL_feed_21 rfl (lv_at hl 1 rfl) ?_
    refine va_get (D := (dC, dI)) (ci := 9) (v := .ref fi) (C := R_GL) (T := F_GL) (N := 10) hx hb hts in_GL hown hK hP 0 rfl rfl 0 (by decide) (hts _ (List.mem_cons_of_mem _ w_287)) (fun _ h9 => h9) rfl d_GL_feed_22 ?_
    refine lv_aload_n hx hb d_GL_feed_25 rfl (lv_at hl 1 rfl) ?_
    refine va_get (D := (dC, dI)) (ci := 9) (v := .int (nI (fz))) (C := R_GL) (T := F_GL) (N := 10) hx hb hts in_GL hown hK hP 0 rfl rfl 1 (by decide) (hts _ (List.mem_cons_of_mem _ w_288)) (fun _ h9 => h9) rfl d_GL_feed_26 ?_
    refine lv_iload_n hx hb d_GL_feed_29 rfl (lv_at hl 2 rfl) ?_
    refine lv_iload_n hx hb d_GL_feed_30 rfl (lv_at hl 0 rfl) ?_
    refine lv_ishr hx hb d_GL_feed_31 ?_
    refine lv_topi (fun v6907 ev6907 => ?_)
    refine lv_sipush (v := 255) hx hb d_GL_feed_32 (by decide) ?_
    refine lv_iand hx hb d_GL_feed_35 ?_
    refine lv_topi (fun v6908 ev6908 => ?_)
    refine va_iast hx hb hK hP hD hS 1 0 rfl rfl (pk_in (fz) 1200 (by omega) rfl (by decide)) d_GL_feed_36 (fun H locs hP hD hS => ?_)
    have hP : va_P (dC, dI) cls_ [(g0, .inr (9, [.ref fi, .int (nI (fz)), .ref qf, .ref qfB, .int (bI hf), .ref ko, .ref ki, .ref kb, .ref tx, .int (nI (tz))])), (fi, .inl (cF, 1200, .inl (upd (fq) (Int32.toNatClampNeg (nI (fz))) (v6908))))] H := hP
    have hD : va_D A [(g0, .inr (9, [.ref fi, .int (nI (fz)), .ref qf, .ref qfB, .int (bI hf), .ref ko, .ref ki, .ref kb, .ref tx, .int (nI (tz))])), (fi, .inl (cF, 1200, .inl (upd (fq) (Int32.toNatClampNeg (nI (fz))) (v6908))))] := hD
    obtain ⟨g6909, eg6909⟩ : ∃ z : Nat → Int32, z = upd (fq) (Int32.toNatClampNeg (nI (fz))) (v6908) := ⟨_, rfl⟩
    rw [← eg6909] at hP hD
    have hP : va_P (dC, dI) cls_ [(g0, .inr (9, [.ref fi, .int (nI (fz)), .ref qf, .ref qfB, .int (bI hf), .ref ko, .ref ki, .ref kb, .ref tx, .int (nI (tz))])), (fi, .inl (cF, 1200, .inl (g6909)))] H := hP
    have hD : va_D A [(g0, .inr (9, [.ref fi, .int (nI (fz)), .ref qf, .ref qfB, .int (bI hf), .ref ko, .ref ki, .ref kb, .ref tx, .int (nI (tz))])), (fi, .inl (cF, 1200, .inl (g6909)))] := hD
    refine lv_aload_n hx hb d_GL_feed_37 rfl (lv_at hl 1 rfl) ?_
    refine lv_dup hx hb d_GL_feed_38 rfl ?_
    refine va_get (D := (dC, dI)) (ci := 9) (v := .int (nI (fz))) (C := R_GL) (T := F_GL) (N := 10) hx hb hts in_GL hown hK hP 0 rfl rfl 1 (by decide) (hts _ (List.mem_cons_of_mem _ w_288)) (fun _ h9 => h9) rfl d_GL_feed_39 ?_
    refine lv_iconst (v := 1) hx hb d_GL_feed_42 (by decide) ?_
    refine lv_iadd hx hb d_GL_feed_43 ?_
    refine lv_ci (y := nI (fz + 1)) (nI_add (fz) (1)) ?_
    refine va_put (D := (dC, dI)) (ci := 9) (v := .int (nI (fz + 1))) (ty := .int) (C := R_GL) (T := F_GL) (N := 10) hx hb hts in_GL t_GL t_GL_ok n_GL hown hK hP hD hS 0 rfl rfl 1 (by decide) (hts _ (List.mem_cons_of_mem _ w_288)) (fun _ h9 => h9) rfl  (by decide +kernel) rfl rfl (Nat.le_of_ble_eq_true rfl) d_GL_feed_44 (fun H locs hP hD hS => ?_)
    have hP : va_P (dC, dI) cls_ [(g0, .inr (9, [.ref fi, .int (nI (fz + 1)), .ref qf, .ref qfB, .int (bI hf), .ref ko, .ref ki, .ref kb, .ref tx, .int (nI (tz))])), (fi, .inl (cF, 1200, .inl (g6909)))] H := hP
    have hD : va_D A [(g0, .inr (9, [.ref fi, .int (nI (fz + 1)), .ref qf, .ref qfB, .int (bI hf), .ref ko, .ref ki, .ref kb, .ref tx, .int (nI (tz))])), (fi, .inl (cF, 1200, .inl (g6909)))] := hD
    refine lv_iinc (k := 0) (v := 16) (lv' := [(2, .int 16), (0, .ref g0), (1, .int w9)]) hx hb d_GL_feed_47 hl rfl (by first | rfl | decide +kernel) (by decide) rfl (fun ls hl => ?_)
    refine lv_goto (tgt := 17) hx hb d_GL_feed_50 (by decide) ?_
    refine lv_iload_n hx hb d_GL_feed_17 rfl (lv_at hl 0 rfl) ?_
    refine lv_if_lt (tgt := 53) hx hb d_GL_feed_18 (by decide) (fun hc => absurd hc (by decide +kernel)) (fun _ => ?_)
    refine lv_aload_n hx hb d_GL_feed_21 rfl (lv_at hl 1 rfl) ?_
    refine va_get (D := (dC, dI)) (ci := 9) (v := .ref fi) (C := R_GL) (T := F_GL) (N := 10) hx hb hts in_GL hown hK hP 0 rfl rfl 0 (by decide) (hts _ (List.mem_cons_of_mem _ w_287)) (fun _ h9 => h9) rfl d_GL_feed_22 ?_
    refine lv_aload_n hx hb d_GL_feed_25 rfl (lv_at hl 1 rfl) ?_
    refine va_get (D := (dC, dI)) (ci := 9) (v := .int (nI (fz + 1))) (C := R_GL) (T := F_GL) (N := 10) hx hb hts in_GL hown hK hP 0 rfl rfl 1 (by decide) (hts _ (List.mem_cons_of_mem _ w_288)) (fun _ h9 => h9) rfl d_GL_feed_26 ?_
    refine lv_iload_n hx hb d_GL_feed_29 rfl (lv_at hl 2 rfl) ?_
    refine lv_iload_n hx hb d_GL_feed_30 rfl (lv_at hl 0 rfl) ?_
    refine lv_ishr hx hb d_GL_feed_31 ?_
    refine lv_topi (fun v6910 ev6910 => ?_)
    refine lv_sipush (v := 255) hx hb d_GL_feed_32 (by decide) ?_
    refine lv_iand hx hb d_GL_feed_35 ?_
    refine lv_topi (fun v6911 ev6911 => ?_)
    refine va_iast hx hb hK hP hD hS 1 0 rfl rfl (pk_in (fz + 1) 1200 (by omega) rfl (by decide)) d_GL_feed_36 (fun H locs hP hD hS => ?_)
    have hP : va_P (dC, dI) cls_ [(g0, .inr (9, [.ref fi, .int (nI (fz + 1)), .ref qf, .ref qfB, .int (bI hf), .ref ko, .ref ki, .ref kb, .ref tx, .int (nI (tz))])), (fi, .inl (cF, 1200, .inl (upd (g6909) (Int32.toNatClampNeg (nI (fz + 1))) (v6911))))] H := hP
    have hD : va_D A [(g0, .inr (9, [.ref fi, .int (nI (fz + 1)), .ref qf, .ref qfB, .int (bI hf), .ref ko, .ref ki, .ref kb, .ref tx, .int (nI (tz))])), (fi, .inl (cF, 1200, .inl (upd (g6909) (Int32.toNatClampNeg (nI (fz + 1))) (v6911))))] := hD
    obtain ⟨g6912, eg6912⟩ : ∃ z : Nat → Int32, z = upd (g6909) (Int32.toNatClampNeg (nI (fz + 1))) (v6911) := ⟨_, rfl⟩
    rw [← eg6912] at hP hD
    have hP : va_P (dC, dI) cls_ [(g0, .inr (9, [.ref fi, .int (nI (fz + 1)), .ref qf, .ref qfB, .int (bI hf), .ref ko, .ref ki, .ref kb, .ref tx, .int (nI (tz))])), (fi, .inl (cF, 1200, .inl (g6912)))] H := hP
    have hD : va_D A [(g0, .inr (9, [.ref fi, .int (nI (fz + 1)), .ref qf, .ref qfB, .int (bI hf), .ref ko, .ref ki, .ref kb, .ref tx, .int (nI (tz))])), (fi, .inl (cF, 1200, .inl (g6912)))] := hD
    refine lv_aload_n hx hb d_GL_feed_37 rfl (lv_at hl 1 rfl) ?_
    refine lv_dup hx hb d_GL_feed_38 rfl ?_
    refine va_get (D := (dC, dI)) (ci := 9) (v := .int (nI (fz + 1))) (C := R_GL) (T := F_GL) (N := 10) hx hb hts in_GL hown hK hP 0 rfl rfl 1 (by decide) (hts _ (List.mem_cons_of_mem _ w_288)) (fun _ h9 => h9) rfl d_GL_feed_39 ?_
    refine lv_iconst (v := 1) hx hb d_GL_feed_42 (by decide) ?_
    refine lv_iadd hx hb d_GL_feed_43 ?_
    refine lv_ci (y := nI (fz + 1 + 1)) (nI_add (fz + 1) (1)) ?_
    refine va_put (D := (dC, dI)) (ci := 9) (v := .int (nI (fz + 1 + 1))) (ty := .int) (C := R_GL) (T := F_GL) (N := 10) hx hb hts in_GL t_GL t_GL_ok n_GL hown hK hP hD hS 0 rfl rfl 1 (by decide) (hts _ (List.mem_cons_of_mem _ w_288)) (fun _ h9 => h9) rfl  (by decide +kernel) rfl rfl (Nat.le_of_ble_eq_true rfl) d_GL_feed_44 (fun H locs hP hD hS => ?_)
    have hP : va_P (dC, dI) cls_ [(g0, .inr (9, [.ref fi, .int (nI (fz + 1 + 1)), .ref qf, .ref qfB, .int (bI hf), .ref ko, .ref ki, .ref kb, .ref tx, .int (nI (tz))])), (fi, .inl (cF, 1200, .inl (g6912)))] H := hP
    have hD : va_D A [(g0, .inr (9, [.ref fi, .int (nI (fz + 1 + 1)), .ref qf, .ref qfB, .int (bI hf), .ref ko, .ref ki, .ref kb, .ref tx, .int (nI (tz))])), (fi, .inl (cF, 1200, .inl (g6912)))] := hD
    refine lv_iinc (k := 0) (v := 8) (lv' := [(2, .int 8), (0, .ref g0), (1, .int w9)]) hx hb d_GL_feed_47 hl rfl (by first | rfl | decide +kernel) (by decide) rfl (fun ls hl => ?_)
    refine lv_goto (tgt := 17) hx hb d_GL_feed_50 (by decide) ?_
    refine lv_iload_n hx hb d_GL_feed_17 rfl (lv_at hl 0 rfl) ?_
    refine lv_if_lt (tgt := 53) hx hb d_GL_feed_18 (by decide) (fun hc => absurd hc (by decide +kernel)) (fun _ => ?_)
    refine lv_aload_n hx hb d_GL_feed_21 rfl (lv_at hl 1 rfl) ?_
    refine va_get (D := (dC, dI)) (ci := 9) (v := .ref fi) (C := R_GL) (T := F_GL) (N := 10) hx hb hts in_GL hown hK hP 0 rfl rfl 0 (by decide) (hts _ (List.mem_cons_of_mem _ w_287)) (fun _ h9 => h9) rfl d_GL_feed_22 ?_
    refine lv_aload_n hx hb d_GL_feed_25 rfl (lv_at hl 1 rfl) ?_
    refine va_get (D := (dC, dI)) (ci := 9) (v := .int (nI (fz + 1 + 1))) (C := R_GL) (T := F_GL) (N := 10) hx hb hts in_GL hown hK hP 0 rfl rfl 1 (by decide) (hts _ (List.mem_cons_of_mem _ w_288)) (fun _ h9 => h9) rfl d_GL_feed_26 ?_
    refine lv_iload_n hx hb d_GL_feed_29 rfl (lv_at hl 2 rfl) ?_
    refine lv_iload_n hx hb d_GL_feed_30 rfl (lv_at hl 0 rfl) ?_
    refine lv_ishr hx hb d_GL_feed_31 ?_
    refine lv_topi (fun v6913 ev6913 => ?_)
    refine lv_sipush (v := 255) hx hb d_GL_feed_32 (by decide) ?_
    refine lv_iand hx hb d_GL_feed_35 ?_
    refine lv_topi (fun v6914 ev6914 => ?_)
    refine va_iast hx hb hK hP hD hS 1 0 rfl rfl (pk_in (fz + 1 + 1) 1200 (by omega) rfl (by decide)) d_GL_feed_36 (fun H locs hP hD hS => ?_)
    have hP : va_P (dC, dI) cls_ [(g0, .inr (9, [.ref fi, .int (nI (fz + 1 + 1)), .ref qf, .ref qfB, .int (bI hf), .ref ko, .ref ki, .ref kb, .ref tx, .int (nI (tz))])), (fi, .inl (cF, 1200, .inl (upd (g6912) (Int32.toNatClampNeg (nI (fz + 1 + 1))) (v6914))))] H := hP
    have hD : va_D A [(g0, .inr (9, [.ref fi, .int (nI (fz + 1 + 1)), .ref qf, .ref qfB, .int (bI hf), .ref ko, .ref ki, .ref kb, .ref tx, .int (nI (tz))])), (fi, .inl (cF, 1200, .inl (upd (g6912) (Int32.toNatClampNeg (nI (fz + 1 + 1))) (v6914))))] := hD
    obtain ⟨g6915, eg6915⟩ : ∃ z : Nat → Int32, z = upd (g6912) (Int32.toNatClampNeg (nI (fz + 1 + 1))) (v6914) := ⟨_, rfl⟩
    rw [← eg6915] at hP hD
    have hP : va_P (dC, dI) cls_ [(g0, .inr (9, [.ref fi, .int (nI (fz + 1 + 1)), .ref qf, .ref qfB, .int (bI hf), .ref ko, .ref ki, .ref kb, .ref tx, .int (nI (tz))])), (fi, .inl (cF, 1200, .inl (g6915)))] H := hP
    have hD : va_D A [(g0, .inr (9, [.ref fi, .int (nI (fz + 1 + 1)), .ref qf, .ref qfB, .int (bI hf), .ref ko, .ref ki, .ref kb, .ref tx, .int (nI (tz))])), (fi, .inl (cF, 1200, .inl (g6915)))] := hD
    refine lv_aload_n hx hb d_GL_feed_37 rfl (lv_at hl 1 rfl) ?_
    refine lv_dup hx hb d_GL_feed_38 rfl ?_
    refine va_get (D := (dC, dI)) (ci := 9) (v := .int (nI (fz + 1 + 1))) (C := R_GL) (T := F_GL) (N := 10) hx hb hts in_GL hown hK hP 0 rfl rfl 1 (by decide) (hts _ (List.mem_cons_of_mem _ w_288)) (fun _ h9 => h9) rfl d_GL_feed_39 ?_
    refine lv_iconst (v := 1) hx hb d_GL_feed_42 (by decide) ?_
    refine lv_iadd hx hb d_GL_feed_43 ?_
    refine lv_ci (y := nI (fz + 1 + 1 + 1)) (nI_add (fz + 1 + 1) (1)) ?_
    refine va_put (D := (dC, dI)) (ci := 9) (v := .int (nI (fz + 1 + 1 + 1))) (ty := .int) (C := R_GL) (T := F_GL) (N := 10) hx hb hts in_GL t_GL t_GL_ok n_GL hown hK hP hD hS 0 rfl rfl 1 (by decide) (hts _ (List.mem_cons_of_mem _ w_288)) (fun _ h9 => h9) rfl  (by decide +kernel) rfl rfl (Nat.le_of_ble_eq_true rfl) d_GL_feed_44 (fun H locs hP hD hS => ?_)
    have hP : va_P (dC, dI) cls_ [(g0, .inr (9, [.ref fi, .int (nI (fz + 1 + 1 + 1)), .ref qf, .ref qfB, .int (bI hf), .ref ko, .ref ki, .ref kb, .ref tx, .int (nI (tz))])), (fi, .inl (cF, 1200, .inl (g6915)))] H := hP
    have hD : va_D A [(g0, .inr (9, [.ref fi, .int (nI (fz + 1 + 1 + 1)), .ref qf, .ref qfB, .int (bI hf), .ref ko, .ref ki, .ref kb, .ref tx, .int (nI (tz))])), (fi, .inl (cF, 1200, .inl (g6915)))] := hD
    refine lv_iinc (k := 0) (v := 0) (lv' := [(2, .int 0), (0, .ref g0), (1, .int w9)]) hx hb d_GL_feed_47 hl rfl (by first | rfl | decide +kernel) (by decide) rfl (fun ls hl => ?_)
    refine lv_goto (tgt := 17) hx hb d_GL_feed_50 (by decide) ?_
    refine lv_iload_n hx hb d_GL_feed_17 rfl (lv_at hl 0 rfl) ?_
    refine lv_if_lt (tgt := 53) hx hb d_GL_feed_18 (by decide) (fun hc => absurd hc (by decide +kernel)) (fun _ => ?_)
    refine lv_aload_n hx hb d_GL_feed_21 rfl (lv_at hl 1 rfl) ?_
    refine va_get (D := (dC, dI)) (ci := 9) (v := .ref fi) (C := R_GL) (T := F_GL) (N := 10) hx hb hts in_GL hown hK hP 0 rfl rfl 0 (by decide) (hts _ (List.mem_cons_of_mem _ w_287)) (fun _ h9 => h9) rfl d_GL_feed_22 ?_
    refine lv_aload_n hx hb d_GL_feed_25 rfl (lv_at hl 1 rfl) ?_
    refine va_get (D := (dC, dI)) (ci := 9) (v := .int (nI (fz + 1 + 1 + 1))) (C := R_GL) (T := F_GL) (N := 10) hx hb hts in_GL hown hK hP 0 rfl rfl 1 (by decide) (hts _ (List.mem_cons_of_mem _ w_288)) (fun _ h9 => h9) rfl d_GL_feed_26 ?_
    refine lv_iload_n hx hb d_GL_feed_29 rfl (lv_at hl 2 rfl) ?_
    refine lv_iload_n hx hb d_GL_feed_30 rfl (lv_at hl 0 rfl) ?_
    refine lv_ishr hx hb d_GL_feed_31 ?_
    refine lv_topi (fun v6916 ev6916 => ?_)
    refine lv_sipush (v := 255) hx hb d_GL_feed_32 (by decide) ?_
    refine lv_iand hx hb d_GL_feed_35 ?_
    refine lv_topi (fun v6917 ev6917 => ?_)
    refine va_iast hx hb hK hP hD hS 1 0 rfl rfl (pk_in (fz + 1 + 1 + 1) 1200 (by omega) rfl (by decide)) d_GL_feed_36 (fun H locs hP hD hS => ?_)
    have hP : va_P (dC, dI) cls_ [(g0, .inr (9, [.ref fi, .int (nI (fz + 1 + 1 + 1)), .ref qf, .ref qfB, .int (bI hf), .ref ko, .ref ki, .ref kb, .ref tx, .int (nI (tz))])), (fi, .inl (cF, 1200, .inl (upd (g6915) (Int32.toNatClampNeg (nI (fz + 1 + 1 + 1))) (v6917))))] H := hP
    have hD : va_D A [(g0, .inr (9, [.ref fi, .int (nI (fz + 1 + 1 + 1)), .ref qf, .ref qfB, .int (bI hf), .ref ko, .ref ki, .ref kb, .ref tx, .int (nI (tz))])), (fi, .inl (cF, 1200, .inl (upd (g6915) (Int32.toNatClampNeg (nI (fz + 1 + 1 + 1))) (v6917))))] := hD
    obtain ⟨g6918, eg6918⟩ : ∃ z : Nat → Int32, z = upd (g6915) (Int32.toNatClampNeg (nI (fz + 1 + 1 + 1))) (v6917) := ⟨_, rfl⟩
    rw [← eg6918] at hP hD
    have hP : va_P (dC, dI) cls_ [(g0, .inr (9, [.ref fi, .int (nI (fz + 1 + 1 + 1)), .ref qf, .ref qfB, .int (bI hf), .ref ko, .ref ki, .ref kb, .ref tx, .int (nI (tz))])), (fi, .inl (cF, 1200, .inl (g6918)))] H := hP
    have hD : va_D A [(g0, .inr (9, [.ref fi, .int (nI (fz + 1 + 1 + 1)), .ref qf, .ref qfB, .int (bI hf), .ref ko, .ref ki, .ref kb, .ref tx, .int (nI (tz))])), (fi, .inl (cF, 1200, .inl (g6918)))] := hD
    refine lv_aload_n hx hb d_GL_feed_37 rfl (lv_at hl 1 rfl) ?_
    refine lv_dup hx hb d_GL_feed_38 rfl ?_
    refine va_get (D := (dC, dI)) (ci := 9) (v := .int (nI (fz + 1 + 1 + 1))) (C := R_GL) (T := F_GL) (N := 10) hx hb hts in_GL hown hK hP 0 rfl rfl 1 (by decide) (hts _ (List.mem_cons_of_mem _ w_288)) (fun _ h9 => h9) rfl d_GL_feed_39 ?_
    refine lv_iconst (v := 1) hx hb d_GL_feed_42 (by decide) ?_
    refine lv_iadd hx hb d_GL_feed_43 ?_
    refine lv_ci (y := nI (fz + 1 + 1 + 1 + 1)) (nI_add (fz + 1 + 1 + 1) (1)) ?_
    refine va_put (D := (dC, dI)) (ci := 9) (v := .int (nI (fz + 1 + 1 + 1 + 1))) (ty := .int) (C := R_GL) (T := F_GL) (N := 10) hx hb hts in_GL t_GL t_GL_ok n_GL hown hK hP hD hS 0 rfl rfl 1 (by decide) (hts _ (List.mem_cons_of_mem _ w_288)) (fun _ h9 => h9) rfl  (by decide +kernel) rfl rfl (Nat.le_of_ble_eq_true rfl) d_GL_feed_44 (fun H locs hP hD hS => ?_)
    have hP : va_P (dC, dI) cls_ [(g0, .inr (9, [.ref fi, .int (nI (fz + 1 + 1 + 1 + 1)), .ref qf, .ref qfB, .int (bI hf), .ref ko, .ref ki, .ref kb, .ref tx, .int (nI (tz))])), (fi, .inl (cF, 1200, .inl (g6918)))] H := hP
    have hD : va_D A [(g0, .inr (9, [.ref fi, .int (nI (fz + 1 + 1 + 1 + 1)), .ref qf, .ref qfB, .int (bI hf), .ref ko, .ref ki, .ref kb, .ref tx, .int (nI (tz))])), (fi, .inl (cF, 1200, .inl (g6918)))] := hD
    refine lv_iinc (k := 0) (v := (-8)) (lv' := [(2, .int ((-8))), (0, .ref g0), (1, .int w9)]) hx hb d_GL_feed_47 hl rfl (by first | rfl | decide +kernel) (by decide) rfl (fun ls hl => ?_)
    refine lv_goto (tgt := 17) hx hb d_GL_feed_50 (by decide) ?_
    refine lv_iload_n hx hb d_GL_feed_17 rfl (lv_at hl 0 rfl) ?_
    refine lv_if_lt (tgt := 53) hx hb d_GL_feed_18 (by decide) (fun _ => ?_) (fun hc => absurd hc (by decide +kernel))
    refine lv_aload_n hx hb d_GL_feed_53 rfl (lv_at hl 1 rfl) ?_
    refine va_get (D := (dC, dI)) (ci := 9) (v := .int (nI (fz + 1 + 1 + 1 + 1))) (C := R_GL) (T := F_GL) (N := 10) hx hb hts in_GL hown hK hP 0 rfl rfl 1 (by decide) (hts _ (List.mem_cons_of_mem _ w_288)) (fun _ h9 => h9) rfl d_GL_feed_54 ?_
    refine W.widen (k := 0) (n := 0) (Nat.le_of_ble_eq_true rfl) (Nat.le_of_ble_eq_true rfl) ?_
    have hP9 := hP.sub (ws' := [(g0, .inr (9, [.ref fi, .int (nI (fz + 1 + 1 + 1 + 1)), .ref qf, .ref qfB, .int (bI hf), .ref ko, .ref ki, .ref kb, .ref tx, .int (nI (tz))])), (fi, .inl (cF, 1200, .inl (g6918)))]) [0, 1] rfl
    have hD9 := hD.sub (ws' := [(g0, .inr (9, [.ref fi, .int (nI (fz + 1 + 1 + 1 + 1)), .ref qf, .ref qfB, .int (bI hf), .ref ko, .ref ki, .ref kb, .ref tx, .int (nI (tz))])), (fi, .inl (cF, 1200, .inl (g6918)))]) [0, 1] (by decide) rfl
    have hK9 := hK.sub (tys' := [(cF, .int)]) [0] rfl
    exact W.iret (v := nI (fz + 1 + 1 + 1 + 1)) hx hb hr (fun t ht hW => ⟨⟨nI (fz + 1 + 1 + 1 + 1), (), rfl, rfl, (fz + 1 + 1 + 1 + 1), g6918, (by omega), (by omega), (by subst_vars; simp only [nI_clamp (show fz < 2 ^ 31 by omega), nI_clamp (show fz + 1 < 2 ^ 31 by omega), nI_clamp (show fz + 1 + 1 < 2 ^ 31 by omega), nI_clamp (show fz + 1 + 1 + 1 < 2 ^ 31 by omega)]; rfl), by rw [ht]; exact hP9, va_K.moved hW.alike hK9, hD9⟩, hS.F ht⟩) hS.2.2 d_GL_feed_57
  · skip
    have hc6906n : ¬ (fz + 4 ≤ 1200) := fun z => hc6906 ((nI_leI (a := fz + 4) (b := 1200) (by omega) (by omega)).mpr z)
    omega
set_option maxHeartbeats 4000000 in
set_option maxRecDepth 100000 in
/-- GlyphLines.isCharacter -/
theorem g_GL_isCharacter (l : Launch) (dC : Nat → ClassId) (dI : Nat → Nat → Nat) (ch : Int32) (sz : Nat) : Met l y_GL_isCharacter s_GL_isCharacter ({ frames := 8, cells := 0, slots := 0, locals := 200 }) (va_Pc [.int ch] (fun U => U.heap.size = sz ∧ va_P (dC, dI) cls_ [] U.heap ∧ va_K (dC, dI) cls_ [] U ∧ va_D (fun _ => True) [])) (va_Qi (fun (r : Int32) (_ : Unit) => ∃ b9 : Bool, r = bI b9) (fun (_ : Unit) (t : State) => True) (va_A [] sz)) 0 0 (va_A [] sz) := by
  refine Met.ofW (cc := b_GL_isCharacter) (maxL := 1) (ret := (some .boolean)) (by decide) rfl ?_
  intro p e s m args below meth c s₁ B hml hv
  obtain ⟨rfl, hsz, hP, hK, hD0⟩ := hv
  have hx := B.exec
  have hb := B.bytes
  have hr := B.returns
  have hts := atoms_spec (ws := s_GL_isCharacter) B.pre
  have hown : s.vm.findClass R_GL = some m.cls := findClass_of_methodNamed B.named
  have hlocks := B.notSynchronized
  subst hsz
  have hD := hD0.self (sz := s.heap.size)
  generalize hAe : va_A [] s.heap.size = A at hD ⊢
  have hA : ∀ q : Nat, s.heap.size ≤ q → A q := fun q h => by rw [← hAe]; exact Or.inr h
  have hS : va_S A s.heap s.heap [] := va_S.rf
  have hP : va_P (dC, dI) cls_ [] s.heap := hP
  have hl := lv_entry ([.int ch]) (n := 1) (Nat.le_of_ble_eq_true rfl)
  rw [lg_entry_eq]
  generalize (lg_sl ([.int ch]) ++ List.replicate (1 - (lg_sl ([.int ch])).length) Slot.unset).toArray = ls at hl ⊢
  have hl : lv_has ls 1 [(0, .int ch)] := hl
  refine lv_iload_n hx hb d_GL_isCharacter_0 rfl (lv_at hl 0 rfl) ?_
  refine lv_if_lt (tgt := 14) hx hb d_GL_isCharacter_1 (by decide) (fun hc6919 => ?_) (fun hc6919 => ?_)
  · skip
    refine lv_iconst (v := 0) hx hb d_GL_isCharacter_14 (by decide) ?_
    refine W.widen (k := 0) (n := 0) (Nat.le_of_ble_eq_true rfl) (Nat.le_of_ble_eq_true rfl) ?_
    exact W.zret (v := 0) (ty := .boolean) hx hb hr (by decide +kernel) (fun t ht hW => ⟨⟨0, (), rfl, ⟨false, rfl⟩, trivial⟩, hS.F ht⟩) hS.2.2 d_GL_isCharacter_15
  · skip
    refine lv_iload_n hx hb d_GL_isCharacter_4 rfl (lv_at hl 0 rfl) ?_
    refine lv_ldc (v := 65535) hx hb hown (hts _ (List.mem_cons_of_mem _ w_543)) d_GL_isCharacter_5 ?_
    refine lv_icmp_gt (tgt := 14) hx hb d_GL_isCharacter_7 (by decide) (fun hc6920 => ?_) (fun hc6920 => ?_)
    · skip
      refine lv_iconst (v := 0) hx hb d_GL_isCharacter_14 (by decide) ?_
      refine W.widen (k := 0) (n := 0) (Nat.le_of_ble_eq_true rfl) (Nat.le_of_ble_eq_true rfl) ?_
      exact W.zret (v := 0) (ty := .boolean) hx hb hr (by decide +kernel) (fun t ht hW => ⟨⟨0, (), rfl, ⟨false, rfl⟩, trivial⟩, hS.F ht⟩) hS.2.2 d_GL_isCharacter_15
    · skip
      refine lv_iconst (v := 1) hx hb d_GL_isCharacter_10 (by decide) ?_
      refine lv_goto (tgt := 15) hx hb d_GL_isCharacter_11 (by decide) ?_
      refine W.widen (k := 0) (n := 0) (Nat.le_of_ble_eq_true rfl) (Nat.le_of_ble_eq_true rfl) ?_
      exact W.zret (v := 1) (ty := .boolean) hx hb hr (by decide +kernel) (fun t ht hW => ⟨⟨1, (), rfl, ⟨true, rfl⟩, trivial⟩, hS.F ht⟩) hS.2.2 d_GL_isCharacter_15
set_option maxHeartbeats 4000000 in
set_option maxRecDepth 100000 in
/-- GlyphLines.isCharacter -/
theorem g_GL_isC_no (l : Launch) (dC : Nat → ClassId) (dI : Nat → Nat → Nat) (ch : Int32) (sz : Nat) (hq0 : (ch : Int32) < 0 ∨ 65535 < ch) : Met l y_GL_isCharacter s_GL_isCharacter ({ frames := 8, cells := 0, slots := 0, locals := 200 }) (va_Pc [.int ch] (fun U => U.heap.size = sz ∧ va_P (dC, dI) cls_ [] U.heap ∧ va_K (dC, dI) cls_ [] U ∧ va_D (fun _ => True) [])) (va_Qi (fun (r : Int32) (_ : Unit) => r = 0) (fun (_ : Unit) (t : State) => True) (va_A [] sz)) 0 0 (va_A [] sz) := by
  refine Met.ofW (cc := b_GL_isCharacter) (maxL := 1) (ret := (some .boolean)) (by decide) rfl ?_
  intro p e s m args below meth c s₁ B hml hv
  obtain ⟨rfl, hsz, hP, hK, hD0⟩ := hv
  have hx := B.exec
  have hb := B.bytes
  have hr := B.returns
  have hts := atoms_spec (ws := s_GL_isCharacter) B.pre
  have hown : s.vm.findClass R_GL = some m.cls := findClass_of_methodNamed B.named
  have hlocks := B.notSynchronized
  subst hsz
  have hD := hD0.self (sz := s.heap.size)
  generalize hAe : va_A [] s.heap.size = A at hD ⊢
  have hA : ∀ q : Nat, s.heap.size ≤ q → A q := fun q h => by rw [← hAe]; exact Or.inr h
  have hS : va_S A s.heap s.heap [] := va_S.rf
  have hP : va_P (dC, dI) cls_ [] s.heap := hP
  have hl := lv_entry ([.int ch]) (n := 1) (Nat.le_of_ble_eq_true rfl)
  rw [lg_entry_eq]
  generalize (lg_sl ([.int ch]) ++ List.replicate (1 - (lg_sl ([.int ch])).length) Slot.unset).toArray = ls at hl ⊢
  have hl : lv_has ls 1 [(0, .int ch)] := hl
  refine lv_iload_n hx hb d_GL_isCharacter_0 rfl (lv_at hl 0 rfl) ?_
  refine lv_if_lt (tgt := 14) hx hb d_GL_isCharacter_1 (by decide) (fun hc6921 => ?_) (fun hc6921 => ?_)
  · skip
    refine lv_iconst (v := 0) hx hb d_GL_isCharacter_14 (by decide) ?_
    refine W.widen (k := 0) (n := 0) (Nat.le_of_ble_eq_true rfl) (Nat.le_of_ble_eq_true rfl) ?_
    exact W.zret (v := 0) (ty := .boolean) hx hb hr (by decide +kernel) (fun t ht hW => ⟨⟨0, (), rfl, rfl, trivial⟩, hS.F ht⟩) hS.2.2 d_GL_isCharacter_15
  · skip
    refine lv_iload_n hx hb d_GL_isCharacter_4 rfl (lv_at hl 0 rfl) ?_
    refine lv_ldc (v := 65535) hx hb hown (hts _ (List.mem_cons_of_mem _ w_543)) d_GL_isCharacter_5 ?_
    refine lv_icmp_gt (tgt := 14) hx hb d_GL_isCharacter_7 (by decide) (fun hc6922 => ?_) (fun hc6922 => ?_)
    · skip
      refine lv_iconst (v := 0) hx hb d_GL_isCharacter_14 (by decide) ?_
      refine W.widen (k := 0) (n := 0) (Nat.le_of_ble_eq_true rfl) (Nat.le_of_ble_eq_true rfl) ?_
      exact W.zret (v := 0) (ty := .boolean) hx hb hr (by decide +kernel) (fun t ht hW => ⟨⟨0, (), rfl, rfl, trivial⟩, hS.F ht⟩) hS.2.2 d_GL_isCharacter_15
    · skip
      exact (‹(ch : Int32) < 0 ∨ 65535 < ch›).elim (fun z => absurd z hc6921) (fun z => absurd z hc6922)
set_option maxHeartbeats 4000000 in
set_option maxRecDepth 100000 in
/-- GlyphLines.isCharacter -/
theorem g_GL_isC (l : Launch) (dC : Nat → ClassId) (dI : Nat → Nat → Nat) (ch : Int32) (sz : Nat) (hq0 : ¬ ch < 0) (hq1 : ¬ 65535 < ch) : Met l y_GL_isCharacter s_GL_isCharacter ({ frames := 8, cells := 0, slots := 0, locals := 200 }) (va_Pc [.int ch] (fun U => U.heap.size = sz ∧ va_P (dC, dI) cls_ [] U.heap ∧ va_K (dC, dI) cls_ [] U ∧ va_D (fun _ => True) [])) (va_Qi (fun (r : Int32) (_ : Unit) => r = 1) (fun (_ : Unit) (t : State) => True) (va_A [] sz)) 0 0 (va_A [] sz) := by
  refine Met.ofW (cc := b_GL_isCharacter) (maxL := 1) (ret := (some .boolean)) (by decide) rfl ?_
  intro p e s m args below meth c s₁ B hml hv
  obtain ⟨rfl, hsz, hP, hK, hD0⟩ := hv
  have hx := B.exec
  have hb := B.bytes
  have hr := B.returns
  have hts := atoms_spec (ws := s_GL_isCharacter) B.pre
  have hown : s.vm.findClass R_GL = some m.cls := findClass_of_methodNamed B.named
  have hlocks := B.notSynchronized
  subst hsz
  have hD := hD0.self (sz := s.heap.size)
  generalize hAe : va_A [] s.heap.size = A at hD ⊢
  have hA : ∀ q : Nat, s.heap.size ≤ q → A q := fun q h => by rw [← hAe]; exact Or.inr h
  have hS : va_S A s.heap s.heap [] := va_S.rf
  have hP : va_P (dC, dI) cls_ [] s.heap := hP
  have hl := lv_entry ([.int ch]) (n := 1) (Nat.le_of_ble_eq_true rfl)
  rw [lg_entry_eq]
  generalize (lg_sl ([.int ch]) ++ List.replicate (1 - (lg_sl ([.int ch])).length) Slot.unset).toArray = ls at hl ⊢
  have hl : lv_has ls 1 [(0, .int ch)] := hl
  refine lv_iload_n hx hb d_GL_isCharacter_0 rfl (lv_at hl 0 rfl) ?_
  refine lv_if_lt (tgt := 14) hx hb d_GL_isCharacter_1 (by decide) (fun hc6923 => ?_) (fun hc6923 => ?_)
  · skip
    exact absurd hc6923 (by assumption)
  · skip
    refine lv_iload_n hx hb d_GL_isCharacter_4 rfl (lv_at hl 0 rfl) ?_
    refine lv_ldc (v := 65535) hx hb hown (hts _ (List.mem_cons_of_mem _ w_543)) d_GL_isCharacter_5 ?_
    refine lv_icmp_gt (tgt := 14) hx hb d_GL_isCharacter_7 (by decide) (fun hc6924 => ?_) (fun hc6924 => ?_)
    · skip
      exact absurd hc6924 (by assumption)
    · skip
      refine lv_iconst (v := 1) hx hb d_GL_isCharacter_10 (by decide) ?_
      refine lv_goto (tgt := 15) hx hb d_GL_isCharacter_11 (by decide) ?_
      refine W.widen (k := 0) (n := 0) (Nat.le_of_ble_eq_true rfl) (Nat.le_of_ble_eq_true rfl) ?_
      exact W.zret (v := 1) (ty := .boolean) hx hb hr (by decide +kernel) (fun t ht hW => ⟨⟨1, (), rfl, rfl, trivial⟩, hS.F ht⟩) hS.2.2 d_GL_isCharacter_15
set_option maxHeartbeats 4000000 in
set_option maxRecDepth 100000 in
/-- GlyphLines.type -/
theorem g_GL_type_no1 (l : Launch) (dC : Nat → ClassId) (dI : Nat → Nat → Nat) (g0 : Nat) (fi : Nat) (fz : Nat) (qf : Nat) (qfB : Nat) (hf : Bool) (ko : Nat) (ki : Nat) (kb : Nat) (tx : Nat) (tz : Nat) (cT : ClassId) (ft : Nat → Int32) (ch : Int32) (sz : Nat) (hq0 : fz ≤ 1200) (hq1 : tz ≤ 12) (hq2 : (ch : Int32) < 0 ∨ 65535 < ch) : Met l y_GL_type s_GL_type ({ frames := 10, cells := 0, slots := 0, locals := 300 }) (va_Pc [.ref g0, .int ch] (fun U => U.heap.size = sz ∧ va_P (dC, dI) cls_ [(g0, .inr (9, [.ref fi, .int (nI (fz)), .ref qf, .ref qfB, .int (bI hf), .ref ko, .ref ki, .ref kb, .ref tx, .int (nI (tz))])), (tx, .inl (cT, 12, .inl (ft)))] U.heap ∧ va_K (dC, dI) cls_ [(cT, .int)] U ∧ va_D (fun _ => True) [(g0, .inr (9, [.ref fi, .int (nI (fz)), .ref qf, .ref qfB, .int (bI hf), .ref ko, .ref ki, .ref kb, .ref tx, .int (nI (tz))])), (tx, .inl (cT, 12, .inl (ft)))])) (va_Qi (fun (r : Int32) (_ : Unit) => r = bI false) (fun (_ : Unit) (t : State) => va_P (dC, dI) cls_ [(g0, .inr (9, [.ref fi, .int (nI (fz)), .ref qf, .ref qfB, .int (bI hf), .ref ko, .ref ki, .ref kb, .ref tx, .int (nI (tz))])), (tx, .inl (cT, 12, .inl (ft)))] t.heap ∧ va_K (dC, dI) cls_ [(cT, .int)] t ∧ va_D (va_A [(g0, .inr (9, [.ref fi, .int (nI (fz)), .ref qf, .ref qfB, .int (bI hf), .ref ko, .ref ki, .ref kb, .ref tx, .int (nI (tz))])), (tx, .inl (cT, 12, .inl (ft)))] sz) [(g0, .inr (9, [.ref fi, .int (nI (fz)), .ref qf, .ref qfB, .int (bI hf), .ref ko, .ref ki, .ref kb, .ref tx, .int (nI (tz))])), (tx, .inl (cT, 12, .inl (ft)))]) (va_A [(g0, .inr (9, [.ref fi, .int (nI (fz)), .ref qf, .ref qfB, .int (bI hf), .ref ko, .ref ki, .ref kb, .ref tx, .int (nI (tz))])), (tx, .inl (cT, 12, .inl (ft)))] sz)) 0 0 (va_A [(g0, .inr (9, [.ref fi, .int (nI (fz)), .ref qf, .ref qfB, .int (bI hf), .ref ko, .ref ki, .ref kb, .ref tx, .int (nI (tz))])), (tx, .inl (cT, 12, .inl (ft)))] sz) := by
  refine Met.ofW (cc := b_GL_type) (maxL := 2) (ret := (some .boolean)) (by decide) rfl ?_
  intro p e s m args below meth c s₁ B hml hv
  obtain ⟨rfl, hsz, hP, hK, hD0⟩ := hv
  have hx := B.exec
  have hb := B.bytes
  have hr := B.returns
  have hts := atoms_spec (ws := s_GL_type) B.pre
  have hown : s.vm.findClass R_GL = some m.cls := findClass_of_methodNamed B.named
  have hlocks := B.notSynchronized
  subst hsz
  have hD := hD0.self (sz := s.heap.size)
  generalize hAe : va_A [(g0, .inr (9, [.ref fi, .int (nI (fz)), .ref qf, .ref qfB, .int (bI hf), .ref ko, .ref ki, .ref kb, .ref tx, .int (nI (tz))])), (tx, .inl (cT, 12, .inl (ft)))] s.heap.size = A at hD ⊢
  have hA : ∀ q : Nat, s.heap.size ≤ q → A q := fun q h => by rw [← hAe]; exact Or.inr h
  have hS : va_S A s.heap s.heap [] := va_S.rf
  have hP : va_P (dC, dI) cls_ [(g0, .inr (9, [.ref fi, .int (nI (fz)), .ref qf, .ref qfB, .int (bI hf), .ref ko, .ref ki, .ref kb, .ref tx, .int (nI (tz))])), (tx, .inl (cT, 12, .inl (ft)))] s.heap := hP
  have hl := lv_entry ([.ref g0, .int ch]) (n := 2) (Nat.le_of_ble_eq_true rfl)
  rw [lg_entry_eq]
  generalize (lg_sl ([.ref g0, .int ch]) ++ List.replicate (2 - (lg_sl ([.ref g0, .int ch])).length) Slot.unset).toArray = ls at hl ⊢
  have hl : lv_has ls 2 [(0, .ref g0), (1, .int ch)] := hl
  refine lv_iload_n hx hb d_GL_type_0 rfl (lv_at hl 1 rfl) ?_
  have hPc := hP.sub (ws' := []) [] rfl
  have hDc := hD.sub (ws' := []) [] (by decide) rfl
  have hKc := hK.sub (tys' := []) [] rfl
  have hFc := va_free (wc := []) hD hS hA [] rfl
  refine va_calli (va_runS (As := [.int ch]) (rest := []) ⟨hx, hb, hml, hown, hts⟩ (g_GL_isC_no l dC dI ch s.heap.size (by assumption)) (cwS 1 hts (tw_inS w_540 w_541 w_1 w_542) rfl rfl rfl (by decide +kernel) ⟨Nat.le_of_ble_eq_true rfl, Nat.le_of_ble_eq_true rfl⟩) ⟨fun a U g mk q => by obtain ⟨q0, q1, qP, qK, qD⟩ := q; exact ⟨q0, q1, qP, va_K.moved (u := U) (U := U.calling g mk a) (Vm.Alike.refl U.vm) qK, qD⟩, fun U hU hW => ⟨rfl, by rw [hU], by rw [hU]; exact hPc, va_K.moved hW.alike hKc, hDc.weaken (fun _ _ _ _ => trivial)⟩⟩ rfl rfl hl.1 rfl (lv_room (Nat.le_of_ble_eq_true rfl)) d_GL_type_1 ⟨Nat.le_of_ble_eq_true rfl, Nat.le_of_ble_eq_true rfl⟩) hS (fun q _ h => hFc q h) hFc (fun r6925 u t H1 locs ht hvm hw hB hz1 hk1 hS => ?_)
  have hP1 : va_P (dC, dI) cls_ [] H1 := fun k q h => by simp at h
  have hD1 : va_D (va_A [] s.heap.size) [] := ⟨fun i j p q h => by simp at h, fun k q h => by simp at h⟩
  obtain ⟨hP, hD⟩ := va_join (wr := [(g0, .inr (9, [.ref fi, .int (nI (fz)), .ref qf, .ref qfB, .int (bI hf), .ref ko, .ref ki, .ref kb, .ref tx, .int (nI (tz))])), (tx, .inl (cT, 12, .inl (ft)))]) (w1 := []) hP hD [] [0, 1] rfl rfl (by decide) (by decide) hk1 hFc hP1 hD1
  generalize H1 = H at hP hS ⊢
  have hP : va_P (dC, dI) cls_ [(g0, .inr (9, [.ref fi, .int (nI (fz)), .ref qf, .ref qfB, .int (bI hf), .ref ko, .ref ki, .ref kb, .ref tx, .int (nI (tz))])), (tx, .inl (cT, 12, .inl (ft)))] H := hP
  have hD : va_D A [(g0, .inr (9, [.ref fi, .int (nI (fz)), .ref qf, .ref qfB, .int (bI hf), .ref ko, .ref ki, .ref kb, .ref tx, .int (nI (tz))])), (tx, .inl (cT, 12, .inl (ft)))] := hD
  have hw : r6925 = 0 := hw
  subst hw
  refine lv_if_eq (tgt := 16) hx hb d_GL_type_4 (by decide) (fun _ => ?_) (fun hc => absurd hc (by decide +kernel))
  refine lv_iconst (v := 0) hx hb d_GL_type_16 (by decide) ?_
  refine W.widen (k := 0) (n := 0) (Nat.le_of_ble_eq_true rfl) (Nat.le_of_ble_eq_true rfl) ?_
  have hP9 := hP.sub (ws' := [(g0, .inr (9, [.ref fi, .int (nI (fz)), .ref qf, .ref qfB, .int (bI hf), .ref ko, .ref ki, .ref kb, .ref tx, .int (nI (tz))])), (tx, .inl (cT, 12, .inl (ft)))]) [0, 1] rfl
  have hD9 := hD.sub (ws' := [(g0, .inr (9, [.ref fi, .int (nI (fz)), .ref qf, .ref qfB, .int (bI hf), .ref ko, .ref ki, .ref kb, .ref tx, .int (nI (tz))])), (tx, .inl (cT, 12, .inl (ft)))]) [0, 1] (by decide) rfl
  have hK9 := hK.sub (tys' := [(cT, .int)]) [0] rfl
  exact W.zret (v := 0) (ty := .boolean) hx hb hr (by decide +kernel) (fun t ht hW => ⟨⟨0, (), rfl, rfl, by rw [ht]; exact hP9, va_K.moved hW.alike hK9, hD9⟩, hS.F ht⟩) hS.2.2 d_GL_type_17
set_option maxHeartbeats 4000000 in
set_option maxRecDepth 100000 in
/-- GlyphLines.type -/
theorem g_GL_type_no2 (l : Launch) (dC : Nat → ClassId) (dI : Nat → Nat → Nat) (g0 : Nat) (fi : Nat) (fz : Nat) (qf : Nat) (qfB : Nat) (hf : Bool) (ko : Nat) (ki : Nat) (kb : Nat) (tx : Nat) (tz : Nat) (cT : ClassId) (ft : Nat → Int32) (ch : Int32) (sz : Nat) (hq0 : fz ≤ 1200) (hq1 : tz ≤ 12) (hq2 : ¬ ch < 0) (hq3 : ¬ 65535 < ch) (hq4 : tz = 12) : Met l y_GL_type s_GL_type ({ frames := 10, cells := 0, slots := 0, locals := 300 }) (va_Pc [.ref g0, .int ch] (fun U => U.heap.size = sz ∧ va_P (dC, dI) cls_ [(g0, .inr (9, [.ref fi, .int (nI (fz)), .ref qf, .ref qfB, .int (bI hf), .ref ko, .ref ki, .ref kb, .ref tx, .int (nI (tz))])), (tx, .inl (cT, 12, .inl (ft)))] U.heap ∧ va_K (dC, dI) cls_ [(cT, .int)] U ∧ va_D (fun _ => True) [(g0, .inr (9, [.ref fi, .int (nI (fz)), .ref qf, .ref qfB, .int (bI hf), .ref ko, .ref ki, .ref kb, .ref tx, .int (nI (tz))])), (tx, .inl (cT, 12, .inl (ft)))])) (va_Qi (fun (r : Int32) (_ : Unit) => r = bI false) (fun (_ : Unit) (t : State) => va_P (dC, dI) cls_ [(g0, .inr (9, [.ref fi, .int (nI (fz)), .ref qf, .ref qfB, .int (bI hf), .ref ko, .ref ki, .ref kb, .ref tx, .int (nI (tz))])), (tx, .inl (cT, 12, .inl (ft)))] t.heap ∧ va_K (dC, dI) cls_ [(cT, .int)] t ∧ va_D (va_A [(g0, .inr (9, [.ref fi, .int (nI (fz)), .ref qf, .ref qfB, .int (bI hf), .ref ko, .ref ki, .ref kb, .ref tx, .int (nI (tz))])), (tx, .inl (cT, 12, .inl (ft)))] sz) [(g0, .inr (9, [.ref fi, .int (nI (fz)), .ref qf, .ref qfB, .int (bI hf), .ref ko, .ref ki, .ref kb, .ref tx, .int (nI (tz))])), (tx, .inl (cT, 12, .inl (ft)))]) (va_A [(g0, .inr (9, [.ref fi, .int (nI (fz)), .ref qf, .ref qfB, .int (bI hf), .ref ko, .ref ki, .ref kb, .ref tx, .int (nI (tz))])), (tx, .inl (cT, 12, .inl (ft)))] sz)) 0 0 (va_A [(g0, .inr (9, [.ref fi, .int (nI (fz)), .ref qf, .ref qfB, .int (bI hf), .ref ko, .ref ki, .ref kb, .ref tx, .int (nI (tz))])), (tx, .inl (cT, 12, .inl (ft)))] sz) := by
  refine Met.ofW (cc := b_GL_type) (maxL := 2) (ret := (some .boolean)) (by decide) rfl ?_
  intro p e s m args below meth c s₁ B hml hv
  obtain ⟨rfl, hsz, hP, hK, hD0⟩ := hv
  have hx := B.exec
  have hb := B.bytes
  have hr := B.returns
  have hts := atoms_spec (ws := s_GL_type) B.pre
  have hown : s.vm.findClass R_GL = some m.cls := findClass_of_methodNamed B.named
  have hlocks := B.notSynchronized
  subst hsz
  have hD := hD0.self (sz := s.heap.size)
  generalize hAe : va_A [(g0, .inr (9, [.ref fi, .int (nI (fz)), .ref qf, .ref qfB, .int (bI hf), .ref ko, .ref ki, .ref kb, .ref tx, .int (nI (tz))])), (tx, .inl (cT, 12, .inl (ft)))] s.heap.size = A at hD ⊢
  have hA : ∀ q : Nat, s.heap.size ≤ q → A q := fun q h => by rw [← hAe]; exact Or.inr h
  have hS : va_S A s.heap s.heap [] := va_S.rf
  have hP : va_P (dC, dI) cls_ [(g0, .inr (9, [.ref fi, .int (nI (fz)), .ref qf, .ref qfB, .int (bI hf), .ref ko, .ref ki, .ref kb, .ref tx, .int (nI (tz))])), (tx, .inl (cT, 12, .inl (ft)))] s.heap := hP
  have hl := lv_entry ([.ref g0, .int ch]) (n := 2) (Nat.le_of_ble_eq_true rfl)
  rw [lg_entry_eq]
  generalize (lg_sl ([.ref g0, .int ch]) ++ List.replicate (2 - (lg_sl ([.ref g0, .int ch])).length) Slot.unset).toArray = ls at hl ⊢
  have hl : lv_has ls 2 [(0, .ref g0), (1, .int ch)] := hl
  refine lv_iload_n hx hb d_GL_type_0 rfl (lv_at hl 1 rfl) ?_
  have hPc := hP.sub (ws' := []) [] rfl
  have hDc := hD.sub (ws' := []) [] (by decide) rfl
  have hKc := hK.sub (tys' := []) [] rfl
  have hFc := va_free (wc := []) hD hS hA [] rfl
  refine va_calli (va_runS (As := [.int ch]) (rest := []) ⟨hx, hb, hml, hown, hts⟩ (g_GL_isC l dC dI ch s.heap.size (by assumption) (by assumption)) (cwS 1 hts (tw_inS w_540 w_541 w_1 w_542) rfl rfl rfl (by decide +kernel) ⟨Nat.le_of_ble_eq_true rfl, Nat.le_of_ble_eq_true rfl⟩) ⟨fun a U g mk q => by obtain ⟨q0, q1, qP, qK, qD⟩ := q; exact ⟨q0, q1, qP, va_K.moved (u := U) (U := U.calling g mk a) (Vm.Alike.refl U.vm) qK, qD⟩, fun U hU hW => ⟨rfl, by rw [hU], by rw [hU]; exact hPc, va_K.moved hW.alike hKc, hDc.weaken (fun _ _ _ _ => trivial)⟩⟩ rfl rfl hl.1 rfl (lv_room (Nat.le_of_ble_eq_true rfl)) d_GL_type_1 ⟨Nat.le_of_ble_eq_true rfl, Nat.le_of_ble_eq_true rfl⟩) hS (fun q _ h => hFc q h) hFc (fun r6926 u t H1 locs ht hvm hw hB hz1 hk1 hS => ?_)
  have hP1 : va_P (dC, dI) cls_ [] H1 := fun k q h => by simp at h
  have hD1 : va_D (va_A [] s.heap.size) [] := ⟨fun i j p q h => by simp at h, fun k q h => by simp at h⟩
  obtain ⟨hP, hD⟩ := va_join (wr := [(g0, .inr (9, [.ref fi, .int (nI (fz)), .ref qf, .ref qfB, .int (bI hf), .ref ko, .ref ki, .ref kb, .ref tx, .int (nI (tz))])), (tx, .inl (cT, 12, .inl (ft)))]) (w1 := []) hP hD [] [0, 1] rfl rfl (by decide) (by decide) hk1 hFc hP1 hD1
  generalize H1 = H at hP hS ⊢
  have hP : va_P (dC, dI) cls_ [(g0, .inr (9, [.ref fi, .int (nI (fz)), .ref qf, .ref qfB, .int (bI hf), .ref ko, .ref ki, .ref kb, .ref tx, .int (nI (tz))])), (tx, .inl (cT, 12, .inl (ft)))] H := hP
  have hD : va_D A [(g0, .inr (9, [.ref fi, .int (nI (fz)), .ref qf, .ref qfB, .int (bI hf), .ref ko, .ref ki, .ref kb, .ref tx, .int (nI (tz))])), (tx, .inl (cT, 12, .inl (ft)))] := hD
  have hw : r6926 = 1 := hw
  subst hw
  refine lv_if_eq (tgt := 16) hx hb d_GL_type_4 (by decide) (fun hc => absurd hc (by decide +kernel)) (fun _ => ?_)
  refine lv_aload_n hx hb d_GL_type_7 rfl (lv_at hl 0 rfl) ?_
  refine va_get (D := (dC, dI)) (ci := 9) (v := .int (nI (tz))) (C := R_GL) (T := F_GL) (N := 10) hx hb hts in_GL hown hK hP 0 rfl rfl 9 (by decide) (hts _ (List.mem_cons_of_mem _ w_296)) (fun _ h9 => h9) rfl d_GL_type_8 ?_
  refine lv_bipush (v := 12) hx hb d_GL_type_11 (by decide) ?_
  refine lv_icmp_lt (tgt := 18) hx hb d_GL_type_13 (by decide) (fun hc6927 => ?_) (fun hc6927 => ?_)
  · skip
    have hc6927n : tz < 12 := (nI_ltI (a := tz) (b := 12) (by omega) (by omega)).mp hc6927
    omega
  · skip
    have hc6927n : ¬ (tz < 12) := fun z => hc6927 ((nI_ltI (a := tz) (b := 12) (by omega) (by omega)).mpr z)
    refine lv_iconst (v := 0) hx hb d_GL_type_16 (by decide) ?_
    refine W.widen (k := 0) (n := 0) (Nat.le_of_ble_eq_true rfl) (Nat.le_of_ble_eq_true rfl) ?_
    have hP9 := hP.sub (ws' := [(g0, .inr (9, [.ref fi, .int (nI (fz)), .ref qf, .ref qfB, .int (bI hf), .ref ko, .ref ki, .ref kb, .ref tx, .int (nI (tz))])), (tx, .inl (cT, 12, .inl (ft)))]) [0, 1] rfl
    have hD9 := hD.sub (ws' := [(g0, .inr (9, [.ref fi, .int (nI (fz)), .ref qf, .ref qfB, .int (bI hf), .ref ko, .ref ki, .ref kb, .ref tx, .int (nI (tz))])), (tx, .inl (cT, 12, .inl (ft)))]) [0, 1] (by decide) rfl
    have hK9 := hK.sub (tys' := [(cT, .int)]) [0] rfl
    exact W.zret (v := 0) (ty := .boolean) hx hb hr (by decide +kernel) (fun t ht hW => ⟨⟨0, (), rfl, rfl, by rw [ht]; exact hP9, va_K.moved hW.alike hK9, hD9⟩, hS.F ht⟩) hS.2.2 d_GL_type_17
set_option maxHeartbeats 4000000 in
set_option maxRecDepth 100000 in
/-- GlyphLines.type -/
theorem g_GL_type (l : Launch) (dC : Nat → ClassId) (dI : Nat → Nat → Nat) (g0 : Nat) (fi : Nat) (fz : Nat) (qf : Nat) (qfB : Nat) (hf : Bool) (ko : Nat) (ki : Nat) (kb : Nat) (tx : Nat) (tz : Nat) (cT : ClassId) (ft : Nat → Int32) (ch : Int32) (sz : Nat) (hq0 : fz ≤ 1200) (hq1 : tz ≤ 12) (hq2 : ¬ ch < 0) (hq3 : ¬ 65535 < ch) (hq4 : tz < 12) : Met l y_GL_type s_GL_type ({ frames := 10, cells := 0, slots := 0, locals := 300 }) (va_Pc [.ref g0, .int ch] (fun U => U.heap.size = sz ∧ va_P (dC, dI) cls_ [(g0, .inr (9, [.ref fi, .int (nI (fz)), .ref qf, .ref qfB, .int (bI hf), .ref ko, .ref ki, .ref kb, .ref tx, .int (nI (tz))])), (tx, .inl (cT, 12, .inl (ft)))] U.heap ∧ va_K (dC, dI) cls_ [(cT, .int)] U ∧ va_D (fun _ => True) [(g0, .inr (9, [.ref fi, .int (nI (fz)), .ref qf, .ref qfB, .int (bI hf), .ref ko, .ref ki, .ref kb, .ref tx, .int (nI (tz))])), (tx, .inl (cT, 12, .inl (ft)))])) (va_Qi (fun (r : Int32) (_ : Unit) => r = bI true) (fun (_ : Unit) (t : State) => ∃ (tz_2 : Nat) (ft_2 : Nat → Int32), tz_2 ≤ 12 ∧ tz_2 = tz + 1 ∧ ft_2 = upd ft tz ch ∧ va_P (dC, dI) cls_ [(g0, .inr (9, [.ref fi, .int (nI (fz)), .ref qf, .ref qfB, .int (bI hf), .ref ko, .ref ki, .ref kb, .ref tx, .int (nI (tz_2))])), (tx, .inl (cT, 12, .inl (ft_2)))] t.heap ∧ va_K (dC, dI) cls_ [(cT, .int)] t ∧ va_D (va_A [(g0, .inr (9, [.ref fi, .int (nI (fz)), .ref qf, .ref qfB, .int (bI hf), .ref ko, .ref ki, .ref kb, .ref tx, .int (nI (tz))])), (tx, .inl (cT, 12, .inl (ft)))] sz) [(g0, .inr (9, [.ref fi, .int (nI (fz)), .ref qf, .ref qfB, .int (bI hf), .ref ko, .ref ki, .ref kb, .ref tx, .int (nI (tz_2))])), (tx, .inl (cT, 12, .inl (ft_2)))]) (va_A [(g0, .inr (9, [.ref fi, .int (nI (fz)), .ref qf, .ref qfB, .int (bI hf), .ref ko, .ref ki, .ref kb, .ref tx, .int (nI (tz))])), (tx, .inl (cT, 12, .inl (ft)))] sz)) 0 0 (va_A [(g0, .inr (9, [.ref fi, .int (nI (fz)), .ref qf, .ref qfB, .int (bI hf), .ref ko, .ref ki, .ref kb, .ref tx, .int (nI (tz))])), (tx, .inl (cT, 12, .inl (ft)))] sz) := by
  refine Met.ofW (cc := b_GL_type) (maxL := 2) (ret := (some .boolean)) (by decide) rfl ?_
  intro p e s m args below meth c s₁ B hml hv
  obtain ⟨rfl, hsz, hP, hK, hD0⟩ := hv
  have hx := B.exec
  have hb := B.bytes
  have hr := B.returns
  have hts := atoms_spec (ws := s_GL_type) B.pre
  have hown : s.vm.findClass R_GL = some m.cls := findClass_of_methodNamed B.named
  have hlocks := B.notSynchronized
  subst hsz
  have hD := hD0.self (sz := s.heap.size)
  generalize hAe : va_A [(g0, .inr (9, [.ref fi, .int (nI (fz)), .ref qf, .ref qfB, .int (bI hf), .ref ko, .ref ki, .ref kb, .ref tx, .int (nI (tz))])), (tx, .inl (cT, 12, .inl (ft)))] s.heap.size = A at hD ⊢
  have hA : ∀ q : Nat, s.heap.size ≤ q → A q := fun q h => by rw [← hAe]; exact Or.inr h
  have hS : va_S A s.heap s.heap [] := va_S.rf
  have hP : va_P (dC, dI) cls_ [(g0, .inr (9, [.ref fi, .int (nI (fz)), .ref qf, .ref qfB, .int (bI hf), .ref ko, .ref ki, .ref kb, .ref tx, .int (nI (tz))])), (tx, .inl (cT, 12, .inl (ft)))] s.heap := hP
  have hl := lv_entry ([.ref g0, .int ch]) (n := 2) (Nat.le_of_ble_eq_true rfl)
  rw [lg_entry_eq]
  generalize (lg_sl ([.ref g0, .int ch]) ++ List.replicate (2 - (lg_sl ([.ref g0, .int ch])).length) Slot.unset).toArray = ls at hl ⊢
  have hl : lv_has ls 2 [(0, .ref g0), (1, .int ch)] := hl
  refine lv_iload_n hx hb d_GL_type_0 rfl (lv_at hl 1 rfl) ?_
  have hPc := hP.sub (ws' := []) [] rfl
  have hDc := hD.sub (ws' := []) [] (by decide) rfl
  have hKc := hK.sub (tys' := []) [] rfl
  have hFc := va_free (wc := []) hD hS hA [] rfl
  refine va_calli (va_runS (As := [.int ch]) (rest := []) ⟨hx, hb, hml, hown, hts⟩ (g_GL_isC l dC dI ch s.heap.size (by assumption) (by assumption)) (cwS 1 hts (tw_inS w_540 w_541 w_1 w_542) rfl rfl rfl (by decide +kernel) ⟨Nat.le_of_ble_eq_true rfl, Nat.le_of_ble_eq_true rfl⟩) ⟨fun a U g mk q => by obtain ⟨q0, q1, qP, qK, qD⟩ := q; exact ⟨q0, q1, qP, va_K.moved (u := U) (U := U.calling g mk a) (Vm.Alike.refl U.vm) qK, qD⟩, fun U hU hW => ⟨rfl, by rw [hU], by rw [hU]; exact hPc, va_K.moved hW.alike hKc, hDc.weaken (fun _ _ _ _ => trivial)⟩⟩ rfl rfl hl.1 rfl (lv_room (Nat.le_of_ble_eq_true rfl)) d_GL_type_1 ⟨Nat.le_of_ble_eq_true rfl, Nat.le_of_ble_eq_true rfl⟩) hS (fun q _ h => hFc q h) hFc (fun r6928 u t H1 locs ht hvm hw hB hz1 hk1 hS => ?_)
  have hP1 : va_P (dC, dI) cls_ [] H1 := fun k q h => by simp at h
  have hD1 : va_D (va_A [] s.heap.size) [] := ⟨fun i j p q h => by simp at h, fun k q h => by simp at h⟩
  obtain ⟨hP, hD⟩ := va_join (wr := [(g0, .inr (9, [.ref fi, .int (nI (fz)), .ref qf, .ref qfB, .int (bI hf), .ref ko, .ref ki, .ref kb, .ref tx, .int (nI (tz))])), (tx, .inl (cT, 12, .inl (ft)))]) (w1 := []) hP hD [] [0, 1] rfl rfl (by decide) (by decide) hk1 hFc hP1 hD1
  generalize H1 = H at hP hS ⊢
  have hP : va_P (dC, dI) cls_ [(g0, .inr (9, [.ref fi, .int (nI (fz)), .ref qf, .ref qfB, .int (bI hf), .ref ko, .ref ki, .ref kb, .ref tx, .int (nI (tz))])), (tx, .inl (cT, 12, .inl (ft)))] H := hP
  have hD : va_D A [(g0, .inr (9, [.ref fi, .int (nI (fz)), .ref qf, .ref qfB, .int (bI hf), .ref ko, .ref ki, .ref kb, .ref tx, .int (nI (tz))])), (tx, .inl (cT, 12, .inl (ft)))] := hD
  have hw : r6928 = 1 := hw
  subst hw
  refine lv_if_eq (tgt := 16) hx hb d_GL_type_4 (by decide) (fun hc => absurd hc (by decide +kernel)) (fun _ => ?_)
  refine lv_aload_n hx hb d_GL_type_7 rfl (lv_at hl 0 rfl) ?_
  refine va_get (D := (dC, dI)) (ci := 9) (v := .int (nI (tz))) (C := R_GL) (T := F_GL) (N := 10) hx hb hts in_GL hown hK hP 0 rfl rfl 9 (by decide) (hts _ (List.mem_cons_of_mem _ w_296)) (fun _ h9 => h9) rfl d_GL_type_8 ?_
  refine lv_bipush (v := 12) hx hb d_GL_type_11 (by decide) ?_
  refine lv_icmp_lt (tgt := 18) hx hb d_GL_type_13 (by decide) (fun hc6929 => ?_) (fun hc6929 => ?_)
  · skip
    have hc6929n : tz < 12 := (nI_ltI (a := tz) (b := 12) (by omega) (by omega)).mp hc6929
    refine lv_aload_n hx hb d_GL_type_18 rfl (lv_at hl 0 rfl) ?_
    refine va_get (D := (dC, dI)) (ci := 9) (v := .ref tx) (C := R_GL) (T := F_GL) (N := 10) hx hb hts in_GL hown hK hP 0 rfl rfl 8 (by decide) (hts _ (List.mem_cons_of_mem _ w_295)) (fun _ h9 => h9) rfl d_GL_type_19 ?_
    refine lv_aload_n hx hb d_GL_type_22 rfl (lv_at hl 0 rfl) ?_
    refine va_get (D := (dC, dI)) (ci := 9) (v := .int (nI (tz))) (C := R_GL) (T := F_GL) (N := 10) hx hb hts in_GL hown hK hP 0 rfl rfl 9 (by decide) (hts _ (List.mem_cons_of_mem _ w_296)) (fun _ h9 => h9) rfl d_GL_type_23 ?_
    refine lv_iload_n hx hb d_GL_type_26 rfl (lv_at hl 1 rfl) ?_
    refine va_iast hx hb hK hP hD hS 1 0 rfl rfl (pk_in (tz) 12 (by omega) rfl (by decide)) d_GL_type_27 (fun H locs hP hD hS => ?_)
    have hP : va_P (dC, dI) cls_ [(g0, .inr (9, [.ref fi, .int (nI (fz)), .ref qf, .ref qfB, .int (bI hf), .ref ko, .ref ki, .ref kb, .ref tx, .int (nI (tz))])), (tx, .inl (cT, 12, .inl (upd (ft) (Int32.toNatClampNeg (nI (tz))) (ch))))] H := hP
    have hD : va_D A [(g0, .inr (9, [.ref fi, .int (nI (fz)), .ref qf, .ref qfB, .int (bI hf), .ref ko, .ref ki, .ref kb, .ref tx, .int (nI (tz))])), (tx, .inl (cT, 12, .inl (upd (ft) (Int32.toNatClampNeg (nI (tz))) (ch))))] := hD
    obtain ⟨g6930, eg6930⟩ : ∃ z : Nat → Int32, z = upd (ft) (Int32.toNatClampNeg (nI (tz))) (ch) := ⟨_, rfl⟩
    rw [← eg6930] at hP hD
    have hP : va_P (dC, dI) cls_ [(g0, .inr (9, [.ref fi, .int (nI (fz)), .ref qf, .ref qfB, .int (bI hf), .ref ko, .ref ki, .ref kb, .ref tx, .int (nI (tz))])), (tx, .inl (cT, 12, .inl (g6930)))] H := hP
    have hD : va_D A [(g0, .inr (9, [.ref fi, .int (nI (fz)), .ref qf, .ref qfB, .int (bI hf), .ref ko, .ref ki, .ref kb, .ref tx, .int (nI (tz))])), (tx, .inl (cT, 12, .inl (g6930)))] := hD
    refine lv_aload_n hx hb d_GL_type_28 rfl (lv_at hl 0 rfl) ?_
    refine lv_dup hx hb d_GL_type_29 rfl ?_
    refine va_get (D := (dC, dI)) (ci := 9) (v := .int (nI (tz))) (C := R_GL) (T := F_GL) (N := 10) hx hb hts in_GL hown hK hP 0 rfl rfl 9 (by decide) (hts _ (List.mem_cons_of_mem _ w_296)) (fun _ h9 => h9) rfl d_GL_type_30 ?_
    refine lv_iconst (v := 1) hx hb d_GL_type_33 (by decide) ?_
    refine lv_iadd hx hb d_GL_type_34 ?_
    refine lv_ci (y := nI (tz + 1)) (nI_add (tz) (1)) ?_
    refine va_put (D := (dC, dI)) (ci := 9) (v := .int (nI (tz + 1))) (ty := .int) (C := R_GL) (T := F_GL) (N := 10) hx hb hts in_GL t_GL t_GL_ok n_GL hown hK hP hD hS 0 rfl rfl 9 (by decide) (hts _ (List.mem_cons_of_mem _ w_296)) (fun _ h9 => h9) rfl  (by decide +kernel) rfl rfl (Nat.le_of_ble_eq_true rfl) d_GL_type_35 (fun H locs hP hD hS => ?_)
    have hP : va_P (dC, dI) cls_ [(g0, .inr (9, [.ref fi, .int (nI (fz)), .ref qf, .ref qfB, .int (bI hf), .ref ko, .ref ki, .ref kb, .ref tx, .int (nI (tz + 1))])), (tx, .inl (cT, 12, .inl (g6930)))] H := hP
    have hD : va_D A [(g0, .inr (9, [.ref fi, .int (nI (fz)), .ref qf, .ref qfB, .int (bI hf), .ref ko, .ref ki, .ref kb, .ref tx, .int (nI (tz + 1))])), (tx, .inl (cT, 12, .inl (g6930)))] := hD
    refine lv_iconst (v := 1) hx hb d_GL_type_38 (by decide) ?_
    refine W.widen (k := 0) (n := 0) (Nat.le_of_ble_eq_true rfl) (Nat.le_of_ble_eq_true rfl) ?_
    have hP9 := hP.sub (ws' := [(g0, .inr (9, [.ref fi, .int (nI (fz)), .ref qf, .ref qfB, .int (bI hf), .ref ko, .ref ki, .ref kb, .ref tx, .int (nI (tz + 1))])), (tx, .inl (cT, 12, .inl (g6930)))]) [0, 1] rfl
    have hD9 := hD.sub (ws' := [(g0, .inr (9, [.ref fi, .int (nI (fz)), .ref qf, .ref qfB, .int (bI hf), .ref ko, .ref ki, .ref kb, .ref tx, .int (nI (tz + 1))])), (tx, .inl (cT, 12, .inl (g6930)))]) [0, 1] (by decide) rfl
    have hK9 := hK.sub (tys' := [(cT, .int)]) [0] rfl
    exact W.zret (v := 1) (ty := .boolean) hx hb hr (by decide +kernel) (fun t ht hW => ⟨⟨1, (), rfl, rfl, (tz + 1), g6930, (by omega), (by omega), (by rw [eg6930, nI_clamp (show tz < 2 ^ 31 by omega)]), by rw [ht]; exact hP9, va_K.moved hW.alike hK9, hD9⟩, hS.F ht⟩) hS.2.2 d_GL_type_39
  · skip
    have hc6929n : ¬ (tz < 12) := fun z => hc6929 ((nI_ltI (a := tz) (b := 12) (by omega) (by omega)).mpr z)
    omega
set_option maxHeartbeats 4000000 in
set_option maxRecDepth 100000 in
/-- GlyphLines.wipe -/
theorem g_GL_wipe (l : Launch) (dC : Nat → ClassId) (dI : Nat → Nat → Nat) (g0 : Nat) (fi : Nat) (fz : Nat) (qf : Nat) (qfB : Nat) (hf : Bool) (ko : Nat) (ki : Nat) (kb : Nat) (tx : Nat) (tz : Nat) (sz : Nat) (hq0 : fz ≤ 1200) (hq1 : tz ≤ 12) : Met l y_GL_wipe s_GL_wipe ({ frames := 8, cells := 0, slots := 0, locals := 200 }) (va_Pc [.ref g0] (fun U => U.heap.size = sz ∧ va_P (dC, dI) cls_ [(g0, .inr (9, [.ref fi, .int (nI (fz)), .ref qf, .ref qfB, .int (bI hf), .ref ko, .ref ki, .ref kb, .ref tx, .int (nI (tz))]))] U.heap ∧ va_K (dC, dI) cls_ [] U ∧ va_D (fun _ => True) [(g0, .inr (9, [.ref fi, .int (nI (fz)), .ref qf, .ref qfB, .int (bI hf), .ref ko, .ref ki, .ref kb, .ref tx, .int (nI (tz))]))])) (va_Qi (fun (r : Int32) (_ : Unit) => r = nI tz) (fun (_ : Unit) (t : State) => ∃ (tz_2 : Nat), tz_2 ≤ 12 ∧ tz_2 = 0 ∧ va_P (dC, dI) cls_ [(g0, .inr (9, [.ref fi, .int (nI (fz)), .ref qf, .ref qfB, .int (bI hf), .ref ko, .ref ki, .ref kb, .ref tx, .int (nI (tz_2))]))] t.heap ∧ va_K (dC, dI) cls_ [] t ∧ va_D (va_A [(g0, .inr (9, [.ref fi, .int (nI (fz)), .ref qf, .ref qfB, .int (bI hf), .ref ko, .ref ki, .ref kb, .ref tx, .int (nI (tz))]))] sz) [(g0, .inr (9, [.ref fi, .int (nI (fz)), .ref qf, .ref qfB, .int (bI hf), .ref ko, .ref ki, .ref kb, .ref tx, .int (nI (tz_2))]))]) (va_A [(g0, .inr (9, [.ref fi, .int (nI (fz)), .ref qf, .ref qfB, .int (bI hf), .ref ko, .ref ki, .ref kb, .ref tx, .int (nI (tz))]))] sz)) 0 0 (va_A [(g0, .inr (9, [.ref fi, .int (nI (fz)), .ref qf, .ref qfB, .int (bI hf), .ref ko, .ref ki, .ref kb, .ref tx, .int (nI (tz))]))] sz) := by
  refine Met.ofW (cc := b_GL_wipe) (maxL := 2) (ret := (some .int)) (by decide) rfl ?_
  intro p e s m args below meth c s₁ B hml hv
  obtain ⟨rfl, hsz, hP, hK, hD0⟩ := hv
  have hx := B.exec
  have hb := B.bytes
  have hr := B.returns
  have hts := atoms_spec (ws := s_GL_wipe) B.pre
  have hown : s.vm.findClass R_GL = some m.cls := findClass_of_methodNamed B.named
  have hlocks := B.notSynchronized
  subst hsz
  have hD := hD0.self (sz := s.heap.size)
  generalize hAe : va_A [(g0, .inr (9, [.ref fi, .int (nI (fz)), .ref qf, .ref qfB, .int (bI hf), .ref ko, .ref ki, .ref kb, .ref tx, .int (nI (tz))]))] s.heap.size = A at hD ⊢
  have hA : ∀ q : Nat, s.heap.size ≤ q → A q := fun q h => by rw [← hAe]; exact Or.inr h
  have hS : va_S A s.heap s.heap [] := va_S.rf
  have hP : va_P (dC, dI) cls_ [(g0, .inr (9, [.ref fi, .int (nI (fz)), .ref qf, .ref qfB, .int (bI hf), .ref ko, .ref ki, .ref kb, .ref tx, .int (nI (tz))]))] s.heap := hP
  have hl := lv_entry ([.ref g0]) (n := 2) (Nat.le_of_ble_eq_true rfl)
  rw [lg_entry_eq]
  generalize (lg_sl ([.ref g0]) ++ List.replicate (2 - (lg_sl ([.ref g0])).length) Slot.unset).toArray = ls at hl ⊢
  have hl : lv_has ls 2 [(0, .ref g0)] := hl
  refine lv_aload_n hx hb d_GL_wipe_0 rfl (lv_at hl 0 rfl) ?_
  refine va_get (D := (dC, dI)) (ci := 9) (v := .int (nI (tz))) (C := R_GL) (T := F_GL) (N := 10) hx hb hts in_GL hown hK hP 0 rfl rfl 9 (by decide) (hts _ (List.mem_cons_of_mem _ w_296)) (fun _ h9 => h9) rfl d_GL_wipe_1 ?_
  refine lv_istore_n (lv' := [(1, .int (nI (tz))), (0, .ref g0)]) hx hb d_GL_wipe_4 rfl hl (by decide) rfl (fun ls hl => ?_)
  refine lv_aload_n hx hb d_GL_wipe_5 rfl (lv_at hl 1 rfl) ?_
  refine lv_iconst (v := 0) hx hb d_GL_wipe_6 (by decide) ?_
  refine va_put (D := (dC, dI)) (ci := 9) (v := .int 0) (ty := .int) (C := R_GL) (T := F_GL) (N := 10) hx hb hts in_GL t_GL t_GL_ok n_GL hown hK hP hD hS 0 rfl rfl 9 (by decide) (hts _ (List.mem_cons_of_mem _ w_296)) (fun _ h9 => h9) rfl  (by decide +kernel) rfl rfl (Nat.le_of_ble_eq_true rfl) d_GL_wipe_7 (fun H locs hP hD hS => ?_)
  have hP : va_P (dC, dI) cls_ [(g0, .inr (9, [.ref fi, .int (nI (fz)), .ref qf, .ref qfB, .int (bI hf), .ref ko, .ref ki, .ref kb, .ref tx, .int 0]))] H := hP
  have hD : va_D A [(g0, .inr (9, [.ref fi, .int (nI (fz)), .ref qf, .ref qfB, .int (bI hf), .ref ko, .ref ki, .ref kb, .ref tx, .int 0]))] := hD
  refine lv_iload_n hx hb d_GL_wipe_10 rfl (lv_at hl 0 rfl) ?_
  refine W.widen (k := 0) (n := 0) (Nat.le_of_ble_eq_true rfl) (Nat.le_of_ble_eq_true rfl) ?_
  have hP9 := hP.sub (ws' := [(g0, .inr (9, [.ref fi, .int (nI (fz)), .ref qf, .ref qfB, .int (bI hf), .ref ko, .ref ki, .ref kb, .ref tx, .int 0]))]) [0] rfl
  have hD9 := hD.sub (ws' := [(g0, .inr (9, [.ref fi, .int (nI (fz)), .ref qf, .ref qfB, .int (bI hf), .ref ko, .ref ki, .ref kb, .ref tx, .int 0]))]) [0] (by decide) rfl
  have hK9 := hK.sub (tys' := []) [] rfl
  exact W.iret (v := nI (tz)) hx hb hr (fun t ht hW => ⟨⟨nI (tz), (), rfl, rfl, 0, by omega, by omega, by rw [ht]; exact hP9, va_K.moved hW.alike hK9, hD9⟩, hS.F ht⟩) hS.2.2 d_GL_wipe_11
