abbrev b_CM_last : ByteArray := prog_3_method_7_code
def y_CM_last : MethodName := ⟨R_CM, "last", "(I)I"⟩
def s_CM_last : List Cond := .code y_CM_last b_CM_last 2 (some .int) :: tw_T
abbrev b_CM_first : ByteArray := prog_3_method_8_code
def y_CM_first : MethodName := ⟨R_CM, "first", "(I)I"⟩
def s_CM_first : List Cond := .code y_CM_first b_CM_first 2 (some .int) :: tw_T
abbrev b_CM_numberIn : ByteArray := prog_3_method_6_code
def y_CM_numberIn : MethodName := ⟨R_CM, "numberIn", "(II)I"⟩
def s_CM_numberIn : List Cond := .code y_CM_numberIn b_CM_numberIn 8 (some .int) :: tw_T
abbrev b_CM_numberOf : ByteArray := prog_3_method_5_code
def y_CM_numberOf : MethodName := ⟨R_CM, "numberOf", "(I)I"⟩
def s_CM_numberOf : List Cond := .code y_CM_numberOf b_CM_numberOf 3 (some .int) :: tw_T
abbrev b_CM_rangesAreRight : ByteArray := prog_3_method_4_code
def y_CM_rangesAreRight : MethodName := ⟨R_CM, "rangesAreRight", "()Z"⟩
def s_CM_rangesAreRight : List Cond := .code y_CM_rangesAreRight b_CM_rangesAreRight 3 (some .boolean) :: tw_T
abbrev b_CM_findPlace : ByteArray := prog_3_method_3_code
def y_CM_findPlace : MethodName := ⟨R_CM, "findPlace", "()J"⟩
def s_CM_findPlace : List Cond := .code y_CM_findPlace b_CM_findPlace 3 (some .long) :: tw_T
abbrev b_CM_isRight : ByteArray := prog_3_method_2_code
def y_CM_isRight : MethodName := ⟨R_CM, "isRight", "()Z"⟩
def s_CM_isRight : List Cond := .code y_CM_isRight b_CM_isRight 4 (some .boolean) :: tw_T
theorem w_5 : (Jvm.Cond.initialized "GlyphLines$CharacterMap") ∈ tw_T := tw_of 5 (by decide +kernel) (by decide +kernel)
theorem w_89 : (Jvm.Cond.fieldLink "GlyphLines$CharacterMap" (23 : Nat) "GlyphLines$CharacterMap" "cmap" "LGlyphLines$Span;") ∈ tw_T := tw_of 89 (by decide +kernel) (by decide +kernel)
theorem w_91 : (Jvm.Cond.fieldLink "GlyphLines$CharacterMap" (9 : Nat) "GlyphLines$CharacterMap" "place" "I") ∈ tw_T := tw_of 91 (by decide +kernel) (by decide +kernel)
theorem w_92 : (Jvm.Cond.fieldLink "GlyphLines$CharacterMap" (15 : Nat) "GlyphLines$CharacterMap" "ranges" "I") ∈ tw_T := tw_of 92 (by decide +kernel) (by decide +kernel)
theorem w_426 : (Jvm.Cond.methodLink "GlyphLines$CharacterMap" (27 : Nat) ({ cls := "GlyphLines$CharacterMap", name := "findPlace", desc := "()J" } : Jvm.MethodName)) ∈ tw_T := tw_of 426 (by decide +kernel) (by decide +kernel)
theorem w_428 : (Jvm.Cond.instanceMethod ({ cls := "GlyphLines$CharacterMap", name := "findPlace", desc := "()J" } : Jvm.MethodName)) ∈ tw_T := tw_of 428 (by decide +kernel) (by decide +kernel)
theorem w_429 : (Jvm.Cond.code ({ cls := "GlyphLines$CharacterMap", name := "findPlace", desc := "()J" } : Jvm.MethodName) prog_3_method_3_code (3 : Nat) (Option.some Jvm.ClassFile.FieldType.long)) ∈ tw_T := tw_of 429 (by decide +kernel) (by decide +kernel)
theorem w_430 : (Jvm.Cond.methodLink "GlyphLines$CharacterMap" (37 : Nat) ({ cls := "GlyphLines$Span", name := "u16", desc := "(I)I" } : Jvm.MethodName)) ∈ tw_T := tw_of 430 (by decide +kernel) (by decide +kernel)
theorem w_431 : (Jvm.Cond.constantLong "GlyphLines$CharacterMap" (31 : Nat) (8 : Int64)) ∈ tw_T := tw_of 431 (by decide +kernel) (by decide +kernel)
theorem w_432 : (Jvm.Cond.methodLink "GlyphLines$CharacterMap" (33 : Nat) ({ cls := "GlyphLines$Span", name := "holds", desc := "(JJ)Z" } : Jvm.MethodName)) ∈ tw_T := tw_of 432 (by decide +kernel) (by decide +kernel)
theorem w_433 : (Jvm.Cond.methodLink "GlyphLines$CharacterMap" (47 : Nat) ({ cls := "GlyphLines$Span", name := "u32", desc := "(I)J" } : Jvm.MethodName)) ∈ tw_T := tw_of 433 (by decide +kernel) (by decide +kernel)
theorem w_434 : (Jvm.Cond.constantLong "GlyphLines$CharacterMap" (51 : Nat) (-1 : Int64)) ∈ tw_T := tw_of 434 (by decide +kernel) (by decide +kernel)
theorem w_435 : (Jvm.Cond.constantLong "GlyphLines$CharacterMap" (41 : Nat) (16 : Int64)) ∈ tw_T := tw_of 435 (by decide +kernel) (by decide +kernel)
theorem w_436 : (Jvm.Cond.methodLink "GlyphLines$CharacterMap" (43 : Nat) ({ cls := "GlyphLines$CharacterMap", name := "rangesAreRight", desc := "()Z" } : Jvm.MethodName)) ∈ tw_T := tw_of 436 (by decide +kernel) (by decide +kernel)
theorem w_438 : (Jvm.Cond.instanceMethod ({ cls := "GlyphLines$CharacterMap", name := "rangesAreRight", desc := "()Z" } : Jvm.MethodName)) ∈ tw_T := tw_of 438 (by decide +kernel) (by decide +kernel)
theorem w_439 : (Jvm.Cond.code ({ cls := "GlyphLines$CharacterMap", name := "rangesAreRight", desc := "()Z" } : Jvm.MethodName) prog_3_method_4_code (3 : Nat) (Option.some Jvm.ClassFile.FieldType.boolean)) ∈ tw_T := tw_of 439 (by decide +kernel) (by decide +kernel)
theorem w_440 : (Jvm.Cond.methodLink "GlyphLines$CharacterMap" (53 : Nat) ({ cls := "GlyphLines$CharacterMap", name := "last", desc := "(I)I" } : Jvm.MethodName)) ∈ tw_T := tw_of 440 (by decide +kernel) (by decide +kernel)
theorem w_442 : (Jvm.Cond.instanceMethod ({ cls := "GlyphLines$CharacterMap", name := "last", desc := "(I)I" } : Jvm.MethodName)) ∈ tw_T := tw_of 442 (by decide +kernel) (by decide +kernel)
theorem w_443 : (Jvm.Cond.code ({ cls := "GlyphLines$CharacterMap", name := "last", desc := "(I)I" } : Jvm.MethodName) prog_3_method_7_code (2 : Nat) (Option.some Jvm.ClassFile.FieldType.int)) ∈ tw_T := tw_of 443 (by decide +kernel) (by decide +kernel)
theorem w_444 : (Jvm.Cond.methodLink "GlyphLines$CharacterMap" (56 : Nat) ({ cls := "GlyphLines$CharacterMap", name := "first", desc := "(I)I" } : Jvm.MethodName)) ∈ tw_T := tw_of 444 (by decide +kernel) (by decide +kernel)
theorem w_446 : (Jvm.Cond.instanceMethod ({ cls := "GlyphLines$CharacterMap", name := "first", desc := "(I)I" } : Jvm.MethodName)) ∈ tw_T := tw_of 446 (by decide +kernel) (by decide +kernel)
theorem w_447 : (Jvm.Cond.code ({ cls := "GlyphLines$CharacterMap", name := "first", desc := "(I)I" } : Jvm.MethodName) prog_3_method_8_code (2 : Nat) (Option.some Jvm.ClassFile.FieldType.int)) ∈ tw_T := tw_of 447 (by decide +kernel) (by decide +kernel)
theorem w_448 : (Jvm.Cond.constant "GlyphLines$CharacterMap" (59 : Nat) (65535 : Int32)) ∈ tw_T := tw_of 448 (by decide +kernel) (by decide +kernel)
theorem w_687 : (Jvm.Cond.methodLink "GlyphLines$CharacterMap" (60 : Nat) ({ cls := "GlyphLines$CharacterMap", name := "numberIn", desc := "(II)I" } : Jvm.MethodName)) ∈ tw_T := tw_of 687 (by decide +kernel) (by decide +kernel)
theorem w_689 : (Jvm.Cond.instanceMethod ({ cls := "GlyphLines$CharacterMap", name := "numberIn", desc := "(II)I" } : Jvm.MethodName)) ∈ tw_T := tw_of 689 (by decide +kernel) (by decide +kernel)
theorem w_690 : (Jvm.Cond.code ({ cls := "GlyphLines$CharacterMap", name := "numberIn", desc := "(II)I" } : Jvm.MethodName) prog_3_method_6_code (8 : Nat) (Option.some Jvm.ClassFile.FieldType.int)) ∈ tw_T := tw_of 690 (by decide +kernel) (by decide +kernel)
theorem w_691 : (Jvm.Cond.constantLong "GlyphLines$CharacterMap" (64 : Nat) (2 : Int64)) ∈ tw_T := tw_of 691 (by decide +kernel) (by decide +kernel)
theorem wp_8 : Cond.selects "GlyphLines$CharacterMap" ({ cls := "GlyphLines$CharacterMap", name := "findPlace", desc := "()J" } : Jvm.MethodName) ({ cls := "GlyphLines$CharacterMap", name := "findPlace", desc := "()J" } : Jvm.MethodName) ∈ tw_T := tw_priv 8 (({ cls := "GlyphLines$CharacterMap", name := "findPlace", desc := "()J" } : Jvm.MethodName), 3) (by decide +kernel) (by decide +kernel)
theorem wp_9 : Cond.selects "GlyphLines$CharacterMap" ({ cls := "GlyphLines$CharacterMap", name := "rangesAreRight", desc := "()Z" } : Jvm.MethodName) ({ cls := "GlyphLines$CharacterMap", name := "rangesAreRight", desc := "()Z" } : Jvm.MethodName) ∈ tw_T := tw_priv 9 (({ cls := "GlyphLines$CharacterMap", name := "rangesAreRight", desc := "()Z" } : Jvm.MethodName), 3) (by decide +kernel) (by decide +kernel)
theorem wp_10 : Cond.selects "GlyphLines$CharacterMap" ({ cls := "GlyphLines$CharacterMap", name := "last", desc := "(I)I" } : Jvm.MethodName) ({ cls := "GlyphLines$CharacterMap", name := "last", desc := "(I)I" } : Jvm.MethodName) ∈ tw_T := tw_priv 10 (({ cls := "GlyphLines$CharacterMap", name := "last", desc := "(I)I" } : Jvm.MethodName), 3) (by decide +kernel) (by decide +kernel)
theorem wp_11 : Cond.selects "GlyphLines$CharacterMap" ({ cls := "GlyphLines$CharacterMap", name := "first", desc := "(I)I" } : Jvm.MethodName) ({ cls := "GlyphLines$CharacterMap", name := "first", desc := "(I)I" } : Jvm.MethodName) ∈ tw_T := tw_priv 11 (({ cls := "GlyphLines$CharacterMap", name := "first", desc := "(I)I" } : Jvm.MethodName), 3) (by decide +kernel) (by decide +kernel)
theorem wp_23 : Cond.selects "GlyphLines$CharacterMap" ({ cls := "GlyphLines$CharacterMap", name := "numberIn", desc := "(II)I" } : Jvm.MethodName) ({ cls := "GlyphLines$CharacterMap", name := "numberIn", desc := "(II)I" } : Jvm.MethodName) ∈ tw_T := tw_priv 23 (({ cls := "GlyphLines$CharacterMap", name := "numberIn", desc := "(II)I" } : Jvm.MethodName), 3) (by decide +kernel) (by decide +kernel)
theorem d_CM_findPlace_0 : decode b_CM_findPlace 0 = .ok (.aload_n 0, 1) := by decide +kernel
theorem d_CM_findPlace_1 : decode b_CM_findPlace 1 = .ok (.getfield 23, 3) := by decide +kernel
theorem d_CM_findPlace_10 : decode b_CM_findPlace 10 = .ok (.istore_n 2, 1) := by decide +kernel
theorem d_CM_findPlace_11 : decode b_CM_findPlace 11 = .ok (.iload_n 2, 1) := by decide +kernel
theorem d_CM_findPlace_12 : decode b_CM_findPlace 12 = .ok (.iconst 4, 1) := by decide +kernel
theorem d_CM_findPlace_13 : decode b_CM_findPlace 13 = .ok (.bipush 8, 2) := by decide +kernel
theorem d_CM_findPlace_15 : decode b_CM_findPlace 15 = .ok (.iload_n 1, 1) := by decide +kernel
theorem d_CM_findPlace_16 : decode b_CM_findPlace 16 = .ok (.imul, 1) := by decide +kernel
theorem d_CM_findPlace_17 : decode b_CM_findPlace 17 = .ok (.iadd, 1) := by decide +kernel
theorem d_CM_findPlace_18 : decode b_CM_findPlace 18 = .ok (.if_icmp .ge (61), 3) := by decide +kernel
theorem d_CM_findPlace_21 : decode b_CM_findPlace 21 = .ok (.aload_n 0, 1) := by decide +kernel
theorem d_CM_findPlace_22 : decode b_CM_findPlace 22 = .ok (.getfield 23, 3) := by decide +kernel
theorem d_CM_findPlace_25 : decode b_CM_findPlace 25 = .ok (.iload_n 2, 1) := by decide +kernel
theorem d_CM_findPlace_26 : decode b_CM_findPlace 26 = .ok (.i2l, 1) := by decide +kernel
theorem d_CM_findPlace_27 : decode b_CM_findPlace 27 = .ok (.ldc2_w 31, 3) := by decide +kernel
theorem d_CM_findPlace_30 : decode b_CM_findPlace 30 = .ok (.invokevirtual 33, 3) := by decide +kernel
theorem d_CM_findPlace_33 : decode b_CM_findPlace 33 = .ok (.ifCond .eq (46), 3) := by decide +kernel
theorem d_CM_findPlace_36 : decode b_CM_findPlace 36 = .ok (.aload_n 0, 1) := by decide +kernel
theorem d_CM_findPlace_37 : decode b_CM_findPlace 37 = .ok (.getfield 23, 3) := by decide +kernel
theorem d_CM_findPlace_4 : decode b_CM_findPlace 4 = .ok (.iconst 2, 1) := by decide +kernel
theorem d_CM_findPlace_40 : decode b_CM_findPlace 40 = .ok (.iload_n 2, 1) := by decide +kernel
theorem d_CM_findPlace_41 : decode b_CM_findPlace 41 = .ok (.invokevirtual 37, 3) := by decide +kernel
theorem d_CM_findPlace_44 : decode b_CM_findPlace 44 = .ok (.iconst 3, 1) := by decide +kernel
theorem d_CM_findPlace_45 : decode b_CM_findPlace 45 = .ok (.if_icmp .ne (28), 3) := by decide +kernel
theorem d_CM_findPlace_48 : decode b_CM_findPlace 48 = .ok (.aload_n 0, 1) := by decide +kernel
theorem d_CM_findPlace_49 : decode b_CM_findPlace 49 = .ok (.getfield 23, 3) := by decide +kernel
theorem d_CM_findPlace_5 : decode b_CM_findPlace 5 = .ok (.invokevirtual 37, 3) := by decide +kernel
theorem d_CM_findPlace_52 : decode b_CM_findPlace 52 = .ok (.iload_n 2, 1) := by decide +kernel
theorem d_CM_findPlace_53 : decode b_CM_findPlace 53 = .ok (.iconst 2, 1) := by decide +kernel
theorem d_CM_findPlace_54 : decode b_CM_findPlace 54 = .ok (.iadd, 1) := by decide +kernel
theorem d_CM_findPlace_55 : decode b_CM_findPlace 55 = .ok (.invokevirtual 37, 3) := by decide +kernel
theorem d_CM_findPlace_58 : decode b_CM_findPlace 58 = .ok (.iconst 1, 1) := by decide +kernel
theorem d_CM_findPlace_59 : decode b_CM_findPlace 59 = .ok (.if_icmp .ne (14), 3) := by decide +kernel
theorem d_CM_findPlace_62 : decode b_CM_findPlace 62 = .ok (.aload_n 0, 1) := by decide +kernel
theorem d_CM_findPlace_63 : decode b_CM_findPlace 63 = .ok (.getfield 23, 3) := by decide +kernel
theorem d_CM_findPlace_66 : decode b_CM_findPlace 66 = .ok (.iload_n 2, 1) := by decide +kernel
theorem d_CM_findPlace_67 : decode b_CM_findPlace 67 = .ok (.iconst 4, 1) := by decide +kernel
theorem d_CM_findPlace_68 : decode b_CM_findPlace 68 = .ok (.iadd, 1) := by decide +kernel
theorem d_CM_findPlace_69 : decode b_CM_findPlace 69 = .ok (.invokevirtual 47, 3) := by decide +kernel
theorem d_CM_findPlace_72 : decode b_CM_findPlace 72 = .ok (.lreturn, 1) := by decide +kernel
theorem d_CM_findPlace_73 : decode b_CM_findPlace 73 = .ok (.iinc 2 (8), 3) := by decide +kernel
theorem d_CM_findPlace_76 : decode b_CM_findPlace 76 = .ok (.goto (-65), 3) := by decide +kernel
theorem d_CM_findPlace_79 : decode b_CM_findPlace 79 = .ok (.ldc2_w 51, 3) := by decide +kernel
theorem d_CM_findPlace_8 : decode b_CM_findPlace 8 = .ok (.istore_n 1, 1) := by decide +kernel
theorem d_CM_findPlace_82 : decode b_CM_findPlace 82 = .ok (.lreturn, 1) := by decide +kernel
theorem d_CM_findPlace_9 : decode b_CM_findPlace 9 = .ok (.iconst 4, 1) := by decide +kernel
theorem d_CM_first_0 : decode b_CM_first 0 = .ok (.aload_n 0, 1) := by decide +kernel
theorem d_CM_first_1 : decode b_CM_first 1 = .ok (.getfield 23, 3) := by decide +kernel
theorem d_CM_first_10 : decode b_CM_first 10 = .ok (.iadd, 1) := by decide +kernel
theorem d_CM_first_11 : decode b_CM_first 11 = .ok (.iconst 2, 1) := by decide +kernel
theorem d_CM_first_12 : decode b_CM_first 12 = .ok (.aload_n 0, 1) := by decide +kernel
theorem d_CM_first_13 : decode b_CM_first 13 = .ok (.getfield 15, 3) := by decide +kernel
theorem d_CM_first_16 : decode b_CM_first 16 = .ok (.imul, 1) := by decide +kernel
theorem d_CM_first_17 : decode b_CM_first 17 = .ok (.iadd, 1) := by decide +kernel
theorem d_CM_first_18 : decode b_CM_first 18 = .ok (.iconst 2, 1) := by decide +kernel
theorem d_CM_first_19 : decode b_CM_first 19 = .ok (.iload_n 1, 1) := by decide +kernel
theorem d_CM_first_20 : decode b_CM_first 20 = .ok (.imul, 1) := by decide +kernel
theorem d_CM_first_21 : decode b_CM_first 21 = .ok (.iadd, 1) := by decide +kernel
theorem d_CM_first_22 : decode b_CM_first 22 = .ok (.invokevirtual 37, 3) := by decide +kernel
theorem d_CM_first_25 : decode b_CM_first 25 = .ok (.ireturn, 1) := by decide +kernel
theorem d_CM_first_4 : decode b_CM_first 4 = .ok (.aload_n 0, 1) := by decide +kernel
theorem d_CM_first_5 : decode b_CM_first 5 = .ok (.getfield 9, 3) := by decide +kernel
theorem d_CM_first_8 : decode b_CM_first 8 = .ok (.bipush 16, 2) := by decide +kernel
theorem d_CM_isRight_0 : decode b_CM_isRight 0 = .ok (.aload_n 0, 1) := by decide +kernel
theorem d_CM_isRight_1 : decode b_CM_isRight 1 = .ok (.invokevirtual 27, 3) := by decide +kernel
theorem d_CM_isRight_10 : decode b_CM_isRight 10 = .ok (.ldc2_w 31, 3) := by decide +kernel
theorem d_CM_isRight_100 : decode b_CM_isRight 100 = .ok (.invokevirtual 33, 3) := by decide +kernel
theorem d_CM_isRight_103 : decode b_CM_isRight 103 = .ok (.ifCond .eq (14), 3) := by decide +kernel
theorem d_CM_isRight_106 : decode b_CM_isRight 106 = .ok (.aload_n 0, 1) := by decide +kernel
theorem d_CM_isRight_107 : decode b_CM_isRight 107 = .ok (.invokevirtual 43, 3) := by decide +kernel
theorem d_CM_isRight_110 : decode b_CM_isRight 110 = .ok (.ifCond .eq (7), 3) := by decide +kernel
theorem d_CM_isRight_113 : decode b_CM_isRight 113 = .ok (.iconst 1, 1) := by decide +kernel
theorem d_CM_isRight_114 : decode b_CM_isRight 114 = .ok (.goto (4), 3) := by decide +kernel
theorem d_CM_isRight_117 : decode b_CM_isRight 117 = .ok (.iconst 0, 1) := by decide +kernel
theorem d_CM_isRight_118 : decode b_CM_isRight 118 = .ok (.ireturn, 1) := by decide +kernel
theorem d_CM_isRight_13 : decode b_CM_isRight 13 = .ok (.invokevirtual 33, 3) := by decide +kernel
theorem d_CM_isRight_16 : decode b_CM_isRight 16 = .ok (.ifCond .ne (5), 3) := by decide +kernel
theorem d_CM_isRight_19 : decode b_CM_isRight 19 = .ok (.iconst 0, 1) := by decide +kernel
theorem d_CM_isRight_20 : decode b_CM_isRight 20 = .ok (.ireturn, 1) := by decide +kernel
theorem d_CM_isRight_21 : decode b_CM_isRight 21 = .ok (.aload_n 0, 1) := by decide +kernel
theorem d_CM_isRight_22 : decode b_CM_isRight 22 = .ok (.lload_n 1, 1) := by decide +kernel
theorem d_CM_isRight_23 : decode b_CM_isRight 23 = .ok (.l2i, 1) := by decide +kernel
theorem d_CM_isRight_24 : decode b_CM_isRight 24 = .ok (.putfield 9, 3) := by decide +kernel
theorem d_CM_isRight_27 : decode b_CM_isRight 27 = .ok (.aload_n 0, 1) := by decide +kernel
theorem d_CM_isRight_28 : decode b_CM_isRight 28 = .ok (.getfield 23, 3) := by decide +kernel
theorem d_CM_isRight_31 : decode b_CM_isRight 31 = .ok (.aload_n 0, 1) := by decide +kernel
theorem d_CM_isRight_32 : decode b_CM_isRight 32 = .ok (.getfield 9, 3) := by decide +kernel
theorem d_CM_isRight_35 : decode b_CM_isRight 35 = .ok (.bipush 6, 2) := by decide +kernel
theorem d_CM_isRight_37 : decode b_CM_isRight 37 = .ok (.iadd, 1) := by decide +kernel
theorem d_CM_isRight_38 : decode b_CM_isRight 38 = .ok (.invokevirtual 37, 3) := by decide +kernel
theorem d_CM_isRight_4 : decode b_CM_isRight 4 = .ok (.lstore_n 1, 1) := by decide +kernel
theorem d_CM_isRight_41 : decode b_CM_isRight 41 = .ok (.istore_n 3, 1) := by decide +kernel
theorem d_CM_isRight_42 : decode b_CM_isRight 42 = .ok (.aload_n 0, 1) := by decide +kernel
theorem d_CM_isRight_43 : decode b_CM_isRight 43 = .ok (.iload_n 3, 1) := by decide +kernel
theorem d_CM_isRight_44 : decode b_CM_isRight 44 = .ok (.iconst 2, 1) := by decide +kernel
theorem d_CM_isRight_45 : decode b_CM_isRight 45 = .ok (.idiv, 1) := by decide +kernel
theorem d_CM_isRight_46 : decode b_CM_isRight 46 = .ok (.putfield 15, 3) := by decide +kernel
theorem d_CM_isRight_49 : decode b_CM_isRight 49 = .ok (.aload_n 0, 1) := by decide +kernel
theorem d_CM_isRight_5 : decode b_CM_isRight 5 = .ok (.aload_n 0, 1) := by decide +kernel
theorem d_CM_isRight_50 : decode b_CM_isRight 50 = .ok (.getfield 23, 3) := by decide +kernel
theorem d_CM_isRight_53 : decode b_CM_isRight 53 = .ok (.aload_n 0, 1) := by decide +kernel
theorem d_CM_isRight_54 : decode b_CM_isRight 54 = .ok (.getfield 9, 3) := by decide +kernel
theorem d_CM_isRight_57 : decode b_CM_isRight 57 = .ok (.invokevirtual 37, 3) := by decide +kernel
theorem d_CM_isRight_6 : decode b_CM_isRight 6 = .ok (.getfield 23, 3) := by decide +kernel
theorem d_CM_isRight_60 : decode b_CM_isRight 60 = .ok (.iconst 4, 1) := by decide +kernel
theorem d_CM_isRight_61 : decode b_CM_isRight 61 = .ok (.if_icmp .ne (56), 3) := by decide +kernel
theorem d_CM_isRight_64 : decode b_CM_isRight 64 = .ok (.iload_n 3, 1) := by decide +kernel
theorem d_CM_isRight_65 : decode b_CM_isRight 65 = .ok (.iconst 2, 1) := by decide +kernel
theorem d_CM_isRight_66 : decode b_CM_isRight 66 = .ok (.irem, 1) := by decide +kernel
theorem d_CM_isRight_67 : decode b_CM_isRight 67 = .ok (.ifCond .ne (50), 3) := by decide +kernel
theorem d_CM_isRight_70 : decode b_CM_isRight 70 = .ok (.aload_n 0, 1) := by decide +kernel
theorem d_CM_isRight_71 : decode b_CM_isRight 71 = .ok (.getfield 15, 3) := by decide +kernel
theorem d_CM_isRight_74 : decode b_CM_isRight 74 = .ok (.iconst 1, 1) := by decide +kernel
theorem d_CM_isRight_75 : decode b_CM_isRight 75 = .ok (.if_icmp .lt (42), 3) := by decide +kernel
theorem d_CM_isRight_78 : decode b_CM_isRight 78 = .ok (.aload_n 0, 1) := by decide +kernel
theorem d_CM_isRight_79 : decode b_CM_isRight 79 = .ok (.getfield 23, 3) := by decide +kernel
theorem d_CM_isRight_82 : decode b_CM_isRight 82 = .ok (.aload_n 0, 1) := by decide +kernel
theorem d_CM_isRight_83 : decode b_CM_isRight 83 = .ok (.getfield 9, 3) := by decide +kernel
theorem d_CM_isRight_86 : decode b_CM_isRight 86 = .ok (.i2l, 1) := by decide +kernel
theorem d_CM_isRight_87 : decode b_CM_isRight 87 = .ok (.ldc2_w 41, 3) := by decide +kernel
theorem d_CM_isRight_9 : decode b_CM_isRight 9 = .ok (.lload_n 1, 1) := by decide +kernel
theorem d_CM_isRight_90 : decode b_CM_isRight 90 = .ok (.ldc2_w 31, 3) := by decide +kernel
theorem d_CM_isRight_93 : decode b_CM_isRight 93 = .ok (.aload_n 0, 1) := by decide +kernel
theorem d_CM_isRight_94 : decode b_CM_isRight 94 = .ok (.getfield 15, 3) := by decide +kernel
theorem d_CM_isRight_97 : decode b_CM_isRight 97 = .ok (.i2l, 1) := by decide +kernel
theorem d_CM_isRight_98 : decode b_CM_isRight 98 = .ok (.lmul, 1) := by decide +kernel
theorem d_CM_isRight_99 : decode b_CM_isRight 99 = .ok (.ladd, 1) := by decide +kernel
theorem d_CM_last_0 : decode b_CM_last 0 = .ok (.aload_n 0, 1) := by decide +kernel
theorem d_CM_last_1 : decode b_CM_last 1 = .ok (.getfield 23, 3) := by decide +kernel
theorem d_CM_last_10 : decode b_CM_last 10 = .ok (.iadd, 1) := by decide +kernel
theorem d_CM_last_11 : decode b_CM_last 11 = .ok (.iconst 2, 1) := by decide +kernel
theorem d_CM_last_12 : decode b_CM_last 12 = .ok (.iload_n 1, 1) := by decide +kernel
theorem d_CM_last_13 : decode b_CM_last 13 = .ok (.imul, 1) := by decide +kernel
theorem d_CM_last_14 : decode b_CM_last 14 = .ok (.iadd, 1) := by decide +kernel
theorem d_CM_last_15 : decode b_CM_last 15 = .ok (.invokevirtual 37, 3) := by decide +kernel
theorem d_CM_last_18 : decode b_CM_last 18 = .ok (.ireturn, 1) := by decide +kernel
theorem d_CM_last_4 : decode b_CM_last 4 = .ok (.aload_n 0, 1) := by decide +kernel
theorem d_CM_last_5 : decode b_CM_last 5 = .ok (.getfield 9, 3) := by decide +kernel
theorem d_CM_last_8 : decode b_CM_last 8 = .ok (.bipush 14, 2) := by decide +kernel
theorem d_CM_numberIn_0 : decode b_CM_numberIn 0 = .ok (.aload_n 0, 1) := by decide +kernel
theorem d_CM_numberIn_1 : decode b_CM_numberIn 1 = .ok (.getfield 23, 3) := by decide +kernel
theorem d_CM_numberIn_10 : decode b_CM_numberIn 10 = .ok (.iadd, 1) := by decide +kernel
theorem d_CM_numberIn_100 : decode b_CM_numberIn 100 = .ok (.ifCond .eq (15), 3) := by decide +kernel
theorem d_CM_numberIn_103 : decode b_CM_numberIn 103 = .ok (.aload_n 0, 1) := by decide +kernel
theorem d_CM_numberIn_104 : decode b_CM_numberIn 104 = .ok (.getfield 23, 3) := by decide +kernel
theorem d_CM_numberIn_107 : decode b_CM_numberIn 107 = .ok (.iload 6, 2) := by decide +kernel
theorem d_CM_numberIn_109 : decode b_CM_numberIn 109 = .ok (.invokevirtual 37, 3) := by decide +kernel
theorem d_CM_numberIn_11 : decode b_CM_numberIn 11 = .ok (.iconst 4, 1) := by decide +kernel
theorem d_CM_numberIn_112 : decode b_CM_numberIn 112 = .ok (.goto (4), 3) := by decide +kernel
theorem d_CM_numberIn_115 : decode b_CM_numberIn 115 = .ok (.iconst 0, 1) := by decide +kernel
theorem d_CM_numberIn_116 : decode b_CM_numberIn 116 = .ok (.istore 7, 2) := by decide +kernel
theorem d_CM_numberIn_118 : decode b_CM_numberIn 118 = .ok (.iload 7, 2) := by decide +kernel
theorem d_CM_numberIn_12 : decode b_CM_numberIn 12 = .ok (.aload_n 0, 1) := by decide +kernel
theorem d_CM_numberIn_120 : decode b_CM_numberIn 120 = .ok (.ifCond .ne (7), 3) := by decide +kernel
theorem d_CM_numberIn_123 : decode b_CM_numberIn 123 = .ok (.iconst 0, 1) := by decide +kernel
theorem d_CM_numberIn_124 : decode b_CM_numberIn 124 = .ok (.goto (10), 3) := by decide +kernel
theorem d_CM_numberIn_127 : decode b_CM_numberIn 127 = .ok (.iload 7, 2) := by decide +kernel
theorem d_CM_numberIn_129 : decode b_CM_numberIn 129 = .ok (.iload_n 3, 1) := by decide +kernel
theorem d_CM_numberIn_13 : decode b_CM_numberIn 13 = .ok (.getfield 15, 3) := by decide +kernel
theorem d_CM_numberIn_130 : decode b_CM_numberIn 130 = .ok (.iadd, 1) := by decide +kernel
theorem d_CM_numberIn_131 : decode b_CM_numberIn 131 = .ok (.ldc 59, 2) := by decide +kernel
theorem d_CM_numberIn_133 : decode b_CM_numberIn 133 = .ok (.iand, 1) := by decide +kernel
theorem d_CM_numberIn_134 : decode b_CM_numberIn 134 = .ok (.ireturn, 1) := by decide +kernel
theorem d_CM_numberIn_16 : decode b_CM_numberIn 16 = .ok (.imul, 1) := by decide +kernel
theorem d_CM_numberIn_17 : decode b_CM_numberIn 17 = .ok (.iadd, 1) := by decide +kernel
theorem d_CM_numberIn_18 : decode b_CM_numberIn 18 = .ok (.iconst 2, 1) := by decide +kernel
theorem d_CM_numberIn_19 : decode b_CM_numberIn 19 = .ok (.iload_n 1, 1) := by decide +kernel
theorem d_CM_numberIn_20 : decode b_CM_numberIn 20 = .ok (.imul, 1) := by decide +kernel
theorem d_CM_numberIn_21 : decode b_CM_numberIn 21 = .ok (.iadd, 1) := by decide +kernel
theorem d_CM_numberIn_22 : decode b_CM_numberIn 22 = .ok (.invokevirtual 37, 3) := by decide +kernel
theorem d_CM_numberIn_25 : decode b_CM_numberIn 25 = .ok (.istore_n 3, 1) := by decide +kernel
theorem d_CM_numberIn_26 : decode b_CM_numberIn 26 = .ok (.aload_n 0, 1) := by decide +kernel
theorem d_CM_numberIn_27 : decode b_CM_numberIn 27 = .ok (.getfield 9, 3) := by decide +kernel
theorem d_CM_numberIn_30 : decode b_CM_numberIn 30 = .ok (.bipush 16, 2) := by decide +kernel
theorem d_CM_numberIn_32 : decode b_CM_numberIn 32 = .ok (.iadd, 1) := by decide +kernel
theorem d_CM_numberIn_33 : decode b_CM_numberIn 33 = .ok (.bipush 6, 2) := by decide +kernel
theorem d_CM_numberIn_35 : decode b_CM_numberIn 35 = .ok (.aload_n 0, 1) := by decide +kernel
theorem d_CM_numberIn_36 : decode b_CM_numberIn 36 = .ok (.getfield 15, 3) := by decide +kernel
theorem d_CM_numberIn_39 : decode b_CM_numberIn 39 = .ok (.imul, 1) := by decide +kernel
theorem d_CM_numberIn_4 : decode b_CM_numberIn 4 = .ok (.aload_n 0, 1) := by decide +kernel
theorem d_CM_numberIn_40 : decode b_CM_numberIn 40 = .ok (.iadd, 1) := by decide +kernel
theorem d_CM_numberIn_41 : decode b_CM_numberIn 41 = .ok (.iconst 2, 1) := by decide +kernel
theorem d_CM_numberIn_42 : decode b_CM_numberIn 42 = .ok (.iload_n 1, 1) := by decide +kernel
theorem d_CM_numberIn_43 : decode b_CM_numberIn 43 = .ok (.imul, 1) := by decide +kernel
theorem d_CM_numberIn_44 : decode b_CM_numberIn 44 = .ok (.iadd, 1) := by decide +kernel
theorem d_CM_numberIn_45 : decode b_CM_numberIn 45 = .ok (.istore 4, 2) := by decide +kernel
theorem d_CM_numberIn_47 : decode b_CM_numberIn 47 = .ok (.aload_n 0, 1) := by decide +kernel
theorem d_CM_numberIn_48 : decode b_CM_numberIn 48 = .ok (.getfield 23, 3) := by decide +kernel
theorem d_CM_numberIn_5 : decode b_CM_numberIn 5 = .ok (.getfield 9, 3) := by decide +kernel
theorem d_CM_numberIn_51 : decode b_CM_numberIn 51 = .ok (.iload 4, 2) := by decide +kernel
theorem d_CM_numberIn_53 : decode b_CM_numberIn 53 = .ok (.invokevirtual 37, 3) := by decide +kernel
theorem d_CM_numberIn_56 : decode b_CM_numberIn 56 = .ok (.istore 5, 2) := by decide +kernel
theorem d_CM_numberIn_58 : decode b_CM_numberIn 58 = .ok (.iload 5, 2) := by decide +kernel
theorem d_CM_numberIn_60 : decode b_CM_numberIn 60 = .ok (.ifCond .ne (10), 3) := by decide +kernel
theorem d_CM_numberIn_63 : decode b_CM_numberIn 63 = .ok (.iload_n 2, 1) := by decide +kernel
theorem d_CM_numberIn_64 : decode b_CM_numberIn 64 = .ok (.iload_n 3, 1) := by decide +kernel
theorem d_CM_numberIn_65 : decode b_CM_numberIn 65 = .ok (.iadd, 1) := by decide +kernel
theorem d_CM_numberIn_66 : decode b_CM_numberIn 66 = .ok (.ldc 59, 2) := by decide +kernel
theorem d_CM_numberIn_68 : decode b_CM_numberIn 68 = .ok (.iand, 1) := by decide +kernel
theorem d_CM_numberIn_69 : decode b_CM_numberIn 69 = .ok (.ireturn, 1) := by decide +kernel
theorem d_CM_numberIn_70 : decode b_CM_numberIn 70 = .ok (.iload 4, 2) := by decide +kernel
theorem d_CM_numberIn_72 : decode b_CM_numberIn 72 = .ok (.iload 5, 2) := by decide +kernel
theorem d_CM_numberIn_74 : decode b_CM_numberIn 74 = .ok (.iadd, 1) := by decide +kernel
theorem d_CM_numberIn_75 : decode b_CM_numberIn 75 = .ok (.iconst 2, 1) := by decide +kernel
theorem d_CM_numberIn_76 : decode b_CM_numberIn 76 = .ok (.iload_n 2, 1) := by decide +kernel
theorem d_CM_numberIn_77 : decode b_CM_numberIn 77 = .ok (.aload_n 0, 1) := by decide +kernel
theorem d_CM_numberIn_78 : decode b_CM_numberIn 78 = .ok (.iload_n 1, 1) := by decide +kernel
theorem d_CM_numberIn_79 : decode b_CM_numberIn 79 = .ok (.invokevirtual 56, 3) := by decide +kernel
theorem d_CM_numberIn_8 : decode b_CM_numberIn 8 = .ok (.bipush 16, 2) := by decide +kernel
theorem d_CM_numberIn_82 : decode b_CM_numberIn 82 = .ok (.isub, 1) := by decide +kernel
theorem d_CM_numberIn_83 : decode b_CM_numberIn 83 = .ok (.imul, 1) := by decide +kernel
theorem d_CM_numberIn_84 : decode b_CM_numberIn 84 = .ok (.iadd, 1) := by decide +kernel
theorem d_CM_numberIn_85 : decode b_CM_numberIn 85 = .ok (.istore 6, 2) := by decide +kernel
theorem d_CM_numberIn_87 : decode b_CM_numberIn 87 = .ok (.aload_n 0, 1) := by decide +kernel
theorem d_CM_numberIn_88 : decode b_CM_numberIn 88 = .ok (.getfield 23, 3) := by decide +kernel
theorem d_CM_numberIn_91 : decode b_CM_numberIn 91 = .ok (.iload 6, 2) := by decide +kernel
theorem d_CM_numberIn_93 : decode b_CM_numberIn 93 = .ok (.i2l, 1) := by decide +kernel
theorem d_CM_numberIn_94 : decode b_CM_numberIn 94 = .ok (.ldc2_w 64, 3) := by decide +kernel
theorem d_CM_numberIn_97 : decode b_CM_numberIn 97 = .ok (.invokevirtual 33, 3) := by decide +kernel
theorem d_CM_numberOf_0 : decode b_CM_numberOf 0 = .ok (.iconst 0, 1) := by decide +kernel
theorem d_CM_numberOf_1 : decode b_CM_numberOf 1 = .ok (.istore_n 2, 1) := by decide +kernel
theorem d_CM_numberOf_10 : decode b_CM_numberOf 10 = .ok (.aload_n 0, 1) := by decide +kernel
theorem d_CM_numberOf_11 : decode b_CM_numberOf 11 = .ok (.iload_n 2, 1) := by decide +kernel
theorem d_CM_numberOf_12 : decode b_CM_numberOf 12 = .ok (.invokevirtual 53, 3) := by decide +kernel
theorem d_CM_numberOf_15 : decode b_CM_numberOf 15 = .ok (.iload_n 1, 1) := by decide +kernel
theorem d_CM_numberOf_16 : decode b_CM_numberOf 16 = .ok (.if_icmp .lt (23), 3) := by decide +kernel
theorem d_CM_numberOf_19 : decode b_CM_numberOf 19 = .ok (.aload_n 0, 1) := by decide +kernel
theorem d_CM_numberOf_2 : decode b_CM_numberOf 2 = .ok (.iload_n 2, 1) := by decide +kernel
theorem d_CM_numberOf_20 : decode b_CM_numberOf 20 = .ok (.iload_n 2, 1) := by decide +kernel
theorem d_CM_numberOf_21 : decode b_CM_numberOf 21 = .ok (.invokevirtual 56, 3) := by decide +kernel
theorem d_CM_numberOf_24 : decode b_CM_numberOf 24 = .ok (.iload_n 1, 1) := by decide +kernel
theorem d_CM_numberOf_25 : decode b_CM_numberOf 25 = .ok (.if_icmp .le (7), 3) := by decide +kernel
theorem d_CM_numberOf_28 : decode b_CM_numberOf 28 = .ok (.iconst 0, 1) := by decide +kernel
theorem d_CM_numberOf_29 : decode b_CM_numberOf 29 = .ok (.goto (9), 3) := by decide +kernel
theorem d_CM_numberOf_3 : decode b_CM_numberOf 3 = .ok (.aload_n 0, 1) := by decide +kernel
theorem d_CM_numberOf_32 : decode b_CM_numberOf 32 = .ok (.aload_n 0, 1) := by decide +kernel
theorem d_CM_numberOf_33 : decode b_CM_numberOf 33 = .ok (.iload_n 2, 1) := by decide +kernel
theorem d_CM_numberOf_34 : decode b_CM_numberOf 34 = .ok (.iload_n 1, 1) := by decide +kernel
theorem d_CM_numberOf_35 : decode b_CM_numberOf 35 = .ok (.invokevirtual 60, 3) := by decide +kernel
theorem d_CM_numberOf_38 : decode b_CM_numberOf 38 = .ok (.ireturn, 1) := by decide +kernel
theorem d_CM_numberOf_39 : decode b_CM_numberOf 39 = .ok (.iinc 2 (1), 3) := by decide +kernel
theorem d_CM_numberOf_4 : decode b_CM_numberOf 4 = .ok (.getfield 15, 3) := by decide +kernel
theorem d_CM_numberOf_42 : decode b_CM_numberOf 42 = .ok (.goto (-40), 3) := by decide +kernel
theorem d_CM_numberOf_45 : decode b_CM_numberOf 45 = .ok (.iconst 0, 1) := by decide +kernel
theorem d_CM_numberOf_46 : decode b_CM_numberOf 46 = .ok (.ireturn, 1) := by decide +kernel
theorem d_CM_numberOf_7 : decode b_CM_numberOf 7 = .ok (.if_icmp .ge (38), 3) := by decide +kernel
theorem d_CM_rangesAreRight_0 : decode b_CM_rangesAreRight 0 = .ok (.iconst (-1), 1) := by decide +kernel
theorem d_CM_rangesAreRight_1 : decode b_CM_rangesAreRight 1 = .ok (.istore_n 1, 1) := by decide +kernel
theorem d_CM_rangesAreRight_12 : decode b_CM_rangesAreRight 12 = .ok (.aload_n 0, 1) := by decide +kernel
theorem d_CM_rangesAreRight_13 : decode b_CM_rangesAreRight 13 = .ok (.iload_n 2, 1) := by decide +kernel
theorem d_CM_rangesAreRight_14 : decode b_CM_rangesAreRight 14 = .ok (.invokevirtual 53, 3) := by decide +kernel
theorem d_CM_rangesAreRight_17 : decode b_CM_rangesAreRight 17 = .ok (.iload_n 1, 1) := by decide +kernel
theorem d_CM_rangesAreRight_18 : decode b_CM_rangesAreRight 18 = .ok (.if_icmp .le (16), 3) := by decide +kernel
theorem d_CM_rangesAreRight_2 : decode b_CM_rangesAreRight 2 = .ok (.iconst 0, 1) := by decide +kernel
theorem d_CM_rangesAreRight_21 : decode b_CM_rangesAreRight 21 = .ok (.aload_n 0, 1) := by decide +kernel
theorem d_CM_rangesAreRight_22 : decode b_CM_rangesAreRight 22 = .ok (.iload_n 2, 1) := by decide +kernel
theorem d_CM_rangesAreRight_23 : decode b_CM_rangesAreRight 23 = .ok (.invokevirtual 56, 3) := by decide +kernel
theorem d_CM_rangesAreRight_26 : decode b_CM_rangesAreRight 26 = .ok (.aload_n 0, 1) := by decide +kernel
theorem d_CM_rangesAreRight_27 : decode b_CM_rangesAreRight 27 = .ok (.iload_n 2, 1) := by decide +kernel
theorem d_CM_rangesAreRight_28 : decode b_CM_rangesAreRight 28 = .ok (.invokevirtual 53, 3) := by decide +kernel
theorem d_CM_rangesAreRight_3 : decode b_CM_rangesAreRight 3 = .ok (.istore_n 2, 1) := by decide +kernel
theorem d_CM_rangesAreRight_31 : decode b_CM_rangesAreRight 31 = .ok (.if_icmp .le (5), 3) := by decide +kernel
theorem d_CM_rangesAreRight_34 : decode b_CM_rangesAreRight 34 = .ok (.iconst 0, 1) := by decide +kernel
theorem d_CM_rangesAreRight_35 : decode b_CM_rangesAreRight 35 = .ok (.ireturn, 1) := by decide +kernel
theorem d_CM_rangesAreRight_36 : decode b_CM_rangesAreRight 36 = .ok (.aload_n 0, 1) := by decide +kernel
theorem d_CM_rangesAreRight_37 : decode b_CM_rangesAreRight 37 = .ok (.iload_n 2, 1) := by decide +kernel
theorem d_CM_rangesAreRight_38 : decode b_CM_rangesAreRight 38 = .ok (.invokevirtual 53, 3) := by decide +kernel
theorem d_CM_rangesAreRight_4 : decode b_CM_rangesAreRight 4 = .ok (.iload_n 2, 1) := by decide +kernel
theorem d_CM_rangesAreRight_41 : decode b_CM_rangesAreRight 41 = .ok (.istore_n 1, 1) := by decide +kernel
theorem d_CM_rangesAreRight_42 : decode b_CM_rangesAreRight 42 = .ok (.iinc 2 (1), 3) := by decide +kernel
theorem d_CM_rangesAreRight_45 : decode b_CM_rangesAreRight 45 = .ok (.goto (-41), 3) := by decide +kernel
theorem d_CM_rangesAreRight_48 : decode b_CM_rangesAreRight 48 = .ok (.iload_n 1, 1) := by decide +kernel
theorem d_CM_rangesAreRight_49 : decode b_CM_rangesAreRight 49 = .ok (.ldc 59, 2) := by decide +kernel
theorem d_CM_rangesAreRight_5 : decode b_CM_rangesAreRight 5 = .ok (.aload_n 0, 1) := by decide +kernel
theorem d_CM_rangesAreRight_51 : decode b_CM_rangesAreRight 51 = .ok (.if_icmp .ne (7), 3) := by decide +kernel
theorem d_CM_rangesAreRight_54 : decode b_CM_rangesAreRight 54 = .ok (.iconst 1, 1) := by decide +kernel
theorem d_CM_rangesAreRight_55 : decode b_CM_rangesAreRight 55 = .ok (.goto (4), 3) := by decide +kernel
theorem d_CM_rangesAreRight_58 : decode b_CM_rangesAreRight 58 = .ok (.iconst 0, 1) := by decide +kernel
theorem d_CM_rangesAreRight_59 : decode b_CM_rangesAreRight 59 = .ok (.ireturn, 1) := by decide +kernel
theorem d_CM_rangesAreRight_6 : decode b_CM_rangesAreRight 6 = .ok (.getfield 15, 3) := by decide +kernel
theorem d_CM_rangesAreRight_9 : decode b_CM_rangesAreRight 9 = .ok (.if_icmp .ge (39), 3) := by decide +kernel
set_option maxHeartbeats 4000000 in
set_option maxRecDepth 100000 in
/-- GlyphLines$CharacterMap.last -/
theorem g_CM_last (l : Launch) (dC : Nat → ClassId) (dI : Nat → Nat → Nat) (h0 : Nat) (qw : Nat) (qa : Nat) (a : Nat) (n : Nat) (mi : Bool) (cA : ClassId) (f : Nat → Int32) (pl : Int32) (rg : Int32) (si : Int32) (sz : Nat) (hq0 : a + n ≤ 1200) (hq1 : isB f) : Met l y_CM_last s_CM_last ({ frames := 10, cells := 0, slots := 0, locals := 300 }) (va_Pc [.ref h0, .int si] (fun U => U.heap.size = sz ∧ va_P (dC, dI) cls_ [(h0, .inr (1, [.ref qw, .int pl, .int rg])), (qw, .inr (0, [.ref qa, .int (nI (a)), .int (nI (n)), .int (bI mi)])), (qa, .inl (cA, 1200, .inl (f)))] U.heap ∧ va_K (dC, dI) cls_ [(cA, .int)] U ∧ va_D (fun _ => True) [(h0, .inr (1, [.ref qw, .int pl, .int rg])), (qw, .inr (0, [.ref qa, .int (nI (a)), .int (nI (n)), .int (bI mi)])), (qa, .inl (cA, 1200, .inl (f)))])) (va_Qi (fun (r : Int32) (_ : Unit) => ∃ v : Nat, v < 65536 ∧ r = nI v) (fun (_ : Unit) (t : State) => ∃ (m2 : Bool), va_P (dC, dI) cls_ [(h0, .inr (1, [.ref qw, .int pl, .int rg])), (qw, .inr (0, [.ref qa, .int (nI (a)), .int (nI (n)), .int (bI m2)])), (qa, .inl (cA, 1200, .inl (f)))] t.heap ∧ va_K (dC, dI) cls_ [(cA, .int)] t ∧ va_D (va_A [(h0, .inr (1, [.ref qw, .int pl, .int rg])), (qw, .inr (0, [.ref qa, .int (nI (a)), .int (nI (n)), .int (bI mi)])), (qa, .inl (cA, 1200, .inl (f)))] sz) [(h0, .inr (1, [.ref qw, .int pl, .int rg])), (qw, .inr (0, [.ref qa, .int (nI (a)), .int (nI (n)), .int (bI m2)])), (qa, .inl (cA, 1200, .inl (f)))]) (va_A [(h0, .inr (1, [.ref qw, .int pl, .int rg])), (qw, .inr (0, [.ref qa, .int (nI (a)), .int (nI (n)), .int (bI mi)])), (qa, .inl (cA, 1200, .inl (f)))] sz)) 0 0 (va_A [(h0, .inr (1, [.ref qw, .int pl, .int rg])), (qw, .inr (0, [.ref qa, .int (nI (a)), .int (nI (n)), .int (bI mi)])), (qa, .inl (cA, 1200, .inl (f)))] sz) := by
  refine Met.ofW (cc := b_CM_last) (maxL := 2) (ret := (some .int)) (by decide) rfl ?_
  intro p e s m args below meth c s₁ B hml hv
  obtain ⟨rfl, hsz, hP, hK, hD0⟩ := hv
  have hx := B.exec
  have hb := B.bytes
  have hr := B.returns
  have hts := atoms_spec (ws := s_CM_last) B.pre
  have hown : s.vm.findClass R_CM = some m.cls := findClass_of_methodNamed B.named
  have hlocks := B.notSynchronized
  subst hsz
  have hD := hD0.self (sz := s.heap.size)
  generalize hAe : va_A [(h0, .inr (1, [.ref qw, .int pl, .int rg])), (qw, .inr (0, [.ref qa, .int (nI (a)), .int (nI (n)), .int (bI mi)])), (qa, .inl (cA, 1200, .inl (f)))] s.heap.size = A at hD ⊢
  have hA : ∀ q : Nat, s.heap.size ≤ q → A q := fun q h => by rw [← hAe]; exact Or.inr h
  have hS : va_S A s.heap s.heap [] := va_S.rf
  have hP : va_P (dC, dI) cls_ [(h0, .inr (1, [.ref qw, .int pl, .int rg])), (qw, .inr (0, [.ref qa, .int (nI (a)), .int (nI (n)), .int (bI mi)])), (qa, .inl (cA, 1200, .inl (f)))] s.heap := hP
  have hl := lv_entry ([.ref h0, .int si]) (n := 2) (Nat.le_of_ble_eq_true rfl)
  rw [lg_entry_eq]
  generalize (lg_sl ([.ref h0, .int si]) ++ List.replicate (2 - (lg_sl ([.ref h0, .int si])).length) Slot.unset).toArray = ls at hl ⊢
  have hl : lv_has ls 2 [(0, .ref h0), (1, .int si)] := hl
  refine lv_aload_n hx hb d_CM_last_0 rfl (lv_at hl 0 rfl) ?_
  refine va_get (D := (dC, dI)) (ci := 1) (v := .ref qw) (C := R_CM) (T := F_CM) (N := 3) hx hb hts in_CM hown hK hP 0 rfl rfl 0 (by decide) (hts _ (List.mem_cons_of_mem _ w_89)) (fun _ h9 => h9) rfl d_CM_last_1 ?_
  refine lv_aload_n hx hb d_CM_last_4 rfl (lv_at hl 0 rfl) ?_
  refine va_get (D := (dC, dI)) (ci := 1) (v := .int pl) (C := R_CM) (T := F_CM) (N := 3) hx hb hts in_CM hown hK hP 0 rfl rfl 1 (by decide) (hts _ (List.mem_cons_of_mem _ w_91)) (fun _ h9 => h9) rfl d_CM_last_5 ?_
  refine lv_bipush (v := 14) hx hb d_CM_last_8 (by decide) ?_
  refine lv_iadd hx hb d_CM_last_10 ?_
  refine lv_topi (fun v142 ev142 => ?_)
  refine lv_iconst (v := 2) hx hb d_CM_last_11 (by decide) ?_
  refine lv_iload_n hx hb d_CM_last_12 rfl (lv_at hl 1 rfl) ?_
  refine lv_imul hx hb d_CM_last_13 ?_
  refine lv_topi (fun v143 ev143 => ?_)
  refine lv_iadd hx hb d_CM_last_14 ?_
  refine lv_topi (fun v144 ev144 => ?_)
  have hPc := hP.sub (ws' := [(qw, .inr (0, [.ref qa, .int (nI (a)), .int (nI (n)), .int (bI mi)])), (qa, .inl (cA, 1200, .inl (f)))]) [1, 2] rfl
  have hDc := hD.sub (ws' := [(qw, .inr (0, [.ref qa, .int (nI (a)), .int (nI (n)), .int (bI mi)])), (qa, .inl (cA, 1200, .inl (f)))]) [1, 2] (by decide) rfl
  have hKc := hK.sub (tys' := [(cA, .int)]) [0] rfl
  have hFc := va_free (wc := [(qw, .inr (0, [.ref qa, .int (nI (a)), .int (nI (n)), .int (bI mi)])), (qa, .inl (cA, 1200, .inl (f)))]) hD hS hA [1, 2] rfl
  refine va_calli (va_runV (As := [.int v144]) (rest := []) ⟨hx, hb, hml, hown, hts⟩ (g_SP_u16 l dC dI qw qa a n mi cA f v144 s.heap.size (by omega) (by assumption)) (cwV 1 hts (tw_inV w_430 w_353 w_354 w_4 w_355) rfl rfl rfl (by decide +kernel) ⟨Nat.le_of_ble_eq_true rfl, Nat.le_of_ble_eq_true rfl⟩) ⟨fun a U g mk q => by obtain ⟨q0, q1, qP, qK, qD⟩ := q; exact ⟨q0, q1, qP, va_K.moved (u := U) (U := U.calling g mk a) (Vm.Alike.refl U.vm) qK, qD⟩, va_recv (hK := hK) (hP := hP) (q0 := 1) (ci := 0) rfl rfl, fun U hU hW => ⟨rfl, by rw [hU], by rw [hU]; exact hPc, va_K.moved hW.alike hKc, hDc.weaken (fun _ _ _ _ => trivial)⟩⟩ rfl rfl hl.1 rfl (lv_room (Nat.le_of_ble_eq_true rfl)) d_CM_last_15 ⟨Nat.le_of_ble_eq_true rfl, Nat.le_of_ble_eq_true rfl⟩) hS (fun q _ h => hFc q h) hFc (fun r145 u t H1 locs ht hvm hw hB hz1 hk1 hS => ?_)
  obtain ⟨m_146, hP1, hK1, hD1⟩ := hB
  rw [ht] at hP1
  have hK1 := va_K.moved hvm.symm hK1
  obtain ⟨hP, hD⟩ := va_join (wr := [(h0, .inr (1, [.ref qw, .int pl, .int rg]))]) (w1 := [(qw, .inr (0, [.ref qa, .int (nI (a)), .int (nI (n)), .int (bI m_146)])), (qa, .inl (cA, 1200, .inl (f)))]) hP hD [1, 2] [0] rfl rfl (by decide) (by decide) hk1 hFc hP1 hD1
  have hK := (hK.sub (tys' := []) [] rfl).app hK1
  generalize H1 = H at hP hS ⊢
  have hP : va_P (dC, dI) cls_ [(h0, .inr (1, [.ref qw, .int pl, .int rg])), (qw, .inr (0, [.ref qa, .int (nI (a)), .int (nI (n)), .int (bI m_146)])), (qa, .inl (cA, 1200, .inl (f)))] H := hP
  have hD : va_D A [(h0, .inr (1, [.ref qw, .int pl, .int rg])), (qw, .inr (0, [.ref qa, .int (nI (a)), .int (nI (n)), .int (bI m_146)])), (qa, .inl (cA, 1200, .inl (f)))] := hD
  have hK : va_K (dC, dI) cls_ [(cA, .int)] s := hK
  have hw_r145 := hw
  obtain ⟨kn147, hb_kn147, rfl⟩ := hw_r145
  refine W.widen (k := 0) (n := 0) (Nat.le_of_ble_eq_true rfl) (Nat.le_of_ble_eq_true rfl) ?_
  have hP9 := hP.sub (ws' := [(h0, .inr (1, [.ref qw, .int pl, .int rg])), (qw, .inr (0, [.ref qa, .int (nI (a)), .int (nI (n)), .int (bI m_146)])), (qa, .inl (cA, 1200, .inl (f)))]) [0, 1, 2] rfl
  have hD9 := hD.sub (ws' := [(h0, .inr (1, [.ref qw, .int pl, .int rg])), (qw, .inr (0, [.ref qa, .int (nI (a)), .int (nI (n)), .int (bI m_146)])), (qa, .inl (cA, 1200, .inl (f)))]) [0, 1, 2] (by decide) rfl
  have hK9 := hK.sub (tys' := [(cA, .int)]) [0] rfl
  exact W.iret (v := nI (kn147)) hx hb hr (fun t ht hW => ⟨⟨nI (kn147), (), rfl, ⟨kn147, by omega, rfl⟩, m_146, by rw [ht]; exact hP9, va_K.moved hW.alike hK9, hD9⟩, hS.F ht⟩) hS.2.2 d_CM_last_18
set_option maxHeartbeats 4000000 in
set_option maxRecDepth 100000 in
/-- GlyphLines$CharacterMap.first -/
theorem g_CM_first (l : Launch) (dC : Nat → ClassId) (dI : Nat → Nat → Nat) (h0 : Nat) (qw : Nat) (qa : Nat) (a : Nat) (n : Nat) (mi : Bool) (cA : ClassId) (f : Nat → Int32) (pl : Int32) (rg : Int32) (si : Int32) (sz : Nat) (hq0 : a + n ≤ 1200) (hq1 : isB f) : Met l y_CM_first s_CM_first ({ frames := 10, cells := 0, slots := 0, locals := 300 }) (va_Pc [.ref h0, .int si] (fun U => U.heap.size = sz ∧ va_P (dC, dI) cls_ [(h0, .inr (1, [.ref qw, .int pl, .int rg])), (qw, .inr (0, [.ref qa, .int (nI (a)), .int (nI (n)), .int (bI mi)])), (qa, .inl (cA, 1200, .inl (f)))] U.heap ∧ va_K (dC, dI) cls_ [(cA, .int)] U ∧ va_D (fun _ => True) [(h0, .inr (1, [.ref qw, .int pl, .int rg])), (qw, .inr (0, [.ref qa, .int (nI (a)), .int (nI (n)), .int (bI mi)])), (qa, .inl (cA, 1200, .inl (f)))])) (va_Qi (fun (r : Int32) (_ : Unit) => ∃ v : Nat, v < 65536 ∧ r = nI v) (fun (_ : Unit) (t : State) => ∃ (m2 : Bool), va_P (dC, dI) cls_ [(h0, .inr (1, [.ref qw, .int pl, .int rg])), (qw, .inr (0, [.ref qa, .int (nI (a)), .int (nI (n)), .int (bI m2)])), (qa, .inl (cA, 1200, .inl (f)))] t.heap ∧ va_K (dC, dI) cls_ [(cA, .int)] t ∧ va_D (va_A [(h0, .inr (1, [.ref qw, .int pl, .int rg])), (qw, .inr (0, [.ref qa, .int (nI (a)), .int (nI (n)), .int (bI mi)])), (qa, .inl (cA, 1200, .inl (f)))] sz) [(h0, .inr (1, [.ref qw, .int pl, .int rg])), (qw, .inr (0, [.ref qa, .int (nI (a)), .int (nI (n)), .int (bI m2)])), (qa, .inl (cA, 1200, .inl (f)))]) (va_A [(h0, .inr (1, [.ref qw, .int pl, .int rg])), (qw, .inr (0, [.ref qa, .int (nI (a)), .int (nI (n)), .int (bI mi)])), (qa, .inl (cA, 1200, .inl (f)))] sz)) 0 0 (va_A [(h0, .inr (1, [.ref qw, .int pl, .int rg])), (qw, .inr (0, [.ref qa, .int (nI (a)), .int (nI (n)), .int (bI mi)])), (qa, .inl (cA, 1200, .inl (f)))] sz) := by
  refine Met.ofW (cc := b_CM_first) (maxL := 2) (ret := (some .int)) (by decide) rfl ?_
  intro p e s m args below meth c s₁ B hml hv
  obtain ⟨rfl, hsz, hP, hK, hD0⟩ := hv
  have hx := B.exec
  have hb := B.bytes
  have hr := B.returns
  have hts := atoms_spec (ws := s_CM_first) B.pre
  have hown : s.vm.findClass R_CM = some m.cls := findClass_of_methodNamed B.named
  have hlocks := B.notSynchronized
  subst hsz
  have hD := hD0.self (sz := s.heap.size)
  generalize hAe : va_A [(h0, .inr (1, [.ref qw, .int pl, .int rg])), (qw, .inr (0, [.ref qa, .int (nI (a)), .int (nI (n)), .int (bI mi)])), (qa, .inl (cA, 1200, .inl (f)))] s.heap.size = A at hD ⊢
  have hA : ∀ q : Nat, s.heap.size ≤ q → A q := fun q h => by rw [← hAe]; exact Or.inr h
  have hS : va_S A s.heap s.heap [] := va_S.rf
  have hP : va_P (dC, dI) cls_ [(h0, .inr (1, [.ref qw, .int pl, .int rg])), (qw, .inr (0, [.ref qa, .int (nI (a)), .int (nI (n)), .int (bI mi)])), (qa, .inl (cA, 1200, .inl (f)))] s.heap := hP
  have hl := lv_entry ([.ref h0, .int si]) (n := 2) (Nat.le_of_ble_eq_true rfl)
  rw [lg_entry_eq]
  generalize (lg_sl ([.ref h0, .int si]) ++ List.replicate (2 - (lg_sl ([.ref h0, .int si])).length) Slot.unset).toArray = ls at hl ⊢
  have hl : lv_has ls 2 [(0, .ref h0), (1, .int si)] := hl
  refine lv_aload_n hx hb d_CM_first_0 rfl (lv_at hl 0 rfl) ?_
  refine va_get (D := (dC, dI)) (ci := 1) (v := .ref qw) (C := R_CM) (T := F_CM) (N := 3) hx hb hts in_CM hown hK hP 0 rfl rfl 0 (by decide) (hts _ (List.mem_cons_of_mem _ w_89)) (fun _ h9 => h9) rfl d_CM_first_1 ?_
  refine lv_aload_n hx hb d_CM_first_4 rfl (lv_at hl 0 rfl) ?_
  refine va_get (D := (dC, dI)) (ci := 1) (v := .int pl) (C := R_CM) (T := F_CM) (N := 3) hx hb hts in_CM hown hK hP 0 rfl rfl 1 (by decide) (hts _ (List.mem_cons_of_mem _ w_91)) (fun _ h9 => h9) rfl d_CM_first_5 ?_
  refine lv_bipush (v := 16) hx hb d_CM_first_8 (by decide) ?_
  refine lv_iadd hx hb d_CM_first_10 ?_
  refine lv_topi (fun v148 ev148 => ?_)
  refine lv_iconst (v := 2) hx hb d_CM_first_11 (by decide) ?_
  refine lv_aload_n hx hb d_CM_first_12 rfl (lv_at hl 0 rfl) ?_
  refine va_get (D := (dC, dI)) (ci := 1) (v := .int rg) (C := R_CM) (T := F_CM) (N := 3) hx hb hts in_CM hown hK hP 0 rfl rfl 2 (by decide) (hts _ (List.mem_cons_of_mem _ w_92)) (fun _ h9 => h9) rfl d_CM_first_13 ?_
  refine lv_imul hx hb d_CM_first_16 ?_
  refine lv_topi (fun v149 ev149 => ?_)
  refine lv_iadd hx hb d_CM_first_17 ?_
  refine lv_topi (fun v150 ev150 => ?_)
  refine lv_iconst (v := 2) hx hb d_CM_first_18 (by decide) ?_
  refine lv_iload_n hx hb d_CM_first_19 rfl (lv_at hl 1 rfl) ?_
  refine lv_imul hx hb d_CM_first_20 ?_
  refine lv_topi (fun v151 ev151 => ?_)
  refine lv_iadd hx hb d_CM_first_21 ?_
  refine lv_topi (fun v152 ev152 => ?_)
  have hPc := hP.sub (ws' := [(qw, .inr (0, [.ref qa, .int (nI (a)), .int (nI (n)), .int (bI mi)])), (qa, .inl (cA, 1200, .inl (f)))]) [1, 2] rfl
  have hDc := hD.sub (ws' := [(qw, .inr (0, [.ref qa, .int (nI (a)), .int (nI (n)), .int (bI mi)])), (qa, .inl (cA, 1200, .inl (f)))]) [1, 2] (by decide) rfl
  have hKc := hK.sub (tys' := [(cA, .int)]) [0] rfl
  have hFc := va_free (wc := [(qw, .inr (0, [.ref qa, .int (nI (a)), .int (nI (n)), .int (bI mi)])), (qa, .inl (cA, 1200, .inl (f)))]) hD hS hA [1, 2] rfl
  refine va_calli (va_runV (As := [.int v152]) (rest := []) ⟨hx, hb, hml, hown, hts⟩ (g_SP_u16 l dC dI qw qa a n mi cA f v152 s.heap.size (by omega) (by assumption)) (cwV 1 hts (tw_inV w_430 w_353 w_354 w_4 w_355) rfl rfl rfl (by decide +kernel) ⟨Nat.le_of_ble_eq_true rfl, Nat.le_of_ble_eq_true rfl⟩) ⟨fun a U g mk q => by obtain ⟨q0, q1, qP, qK, qD⟩ := q; exact ⟨q0, q1, qP, va_K.moved (u := U) (U := U.calling g mk a) (Vm.Alike.refl U.vm) qK, qD⟩, va_recv (hK := hK) (hP := hP) (q0 := 1) (ci := 0) rfl rfl, fun U hU hW => ⟨rfl, by rw [hU], by rw [hU]; exact hPc, va_K.moved hW.alike hKc, hDc.weaken (fun _ _ _ _ => trivial)⟩⟩ rfl rfl hl.1 rfl (lv_room (Nat.le_of_ble_eq_true rfl)) d_CM_first_22 ⟨Nat.le_of_ble_eq_true rfl, Nat.le_of_ble_eq_true rfl⟩) hS (fun q _ h => hFc q h) hFc (fun r153 u t H1 locs ht hvm hw hB hz1 hk1 hS => ?_)
  obtain ⟨m_154, hP1, hK1, hD1⟩ := hB
  rw [ht] at hP1
  have hK1 := va_K.moved hvm.symm hK1
  obtain ⟨hP, hD⟩ := va_join (wr := [(h0, .inr (1, [.ref qw, .int pl, .int rg]))]) (w1 := [(qw, .inr (0, [.ref qa, .int (nI (a)), .int (nI (n)), .int (bI m_154)])), (qa, .inl (cA, 1200, .inl (f)))]) hP hD [1, 2] [0] rfl rfl (by decide) (by decide) hk1 hFc hP1 hD1
  have hK := (hK.sub (tys' := []) [] rfl).app hK1
  generalize H1 = H at hP hS ⊢
  have hP : va_P (dC, dI) cls_ [(h0, .inr (1, [.ref qw, .int pl, .int rg])), (qw, .inr (0, [.ref qa, .int (nI (a)), .int (nI (n)), .int (bI m_154)])), (qa, .inl (cA, 1200, .inl (f)))] H := hP
  have hD : va_D A [(h0, .inr (1, [.ref qw, .int pl, .int rg])), (qw, .inr (0, [.ref qa, .int (nI (a)), .int (nI (n)), .int (bI m_154)])), (qa, .inl (cA, 1200, .inl (f)))] := hD
  have hK : va_K (dC, dI) cls_ [(cA, .int)] s := hK
  have hw_r153 := hw
  obtain ⟨kn155, hb_kn155, rfl⟩ := hw_r153
  refine W.widen (k := 0) (n := 0) (Nat.le_of_ble_eq_true rfl) (Nat.le_of_ble_eq_true rfl) ?_
  have hP9 := hP.sub (ws' := [(h0, .inr (1, [.ref qw, .int pl, .int rg])), (qw, .inr (0, [.ref qa, .int (nI (a)), .int (nI (n)), .int (bI m_154)])), (qa, .inl (cA, 1200, .inl (f)))]) [0, 1, 2] rfl
  have hD9 := hD.sub (ws' := [(h0, .inr (1, [.ref qw, .int pl, .int rg])), (qw, .inr (0, [.ref qa, .int (nI (a)), .int (nI (n)), .int (bI m_154)])), (qa, .inl (cA, 1200, .inl (f)))]) [0, 1, 2] (by decide) rfl
  have hK9 := hK.sub (tys' := [(cA, .int)]) [0] rfl
  exact W.iret (v := nI (kn155)) hx hb hr (fun t ht hW => ⟨⟨nI (kn155), (), rfl, ⟨kn155, by omega, rfl⟩, m_154, by rw [ht]; exact hP9, va_K.moved hW.alike hK9, hD9⟩, hS.F ht⟩) hS.2.2 d_CM_first_25
set_option maxHeartbeats 4000000 in
set_option maxRecDepth 100000 in
/-- GlyphLines$CharacterMap.numberIn -/
theorem g_CM_numberIn (l : Launch) (dC : Nat → ClassId) (dI : Nat → Nat → Nat) (h0 : Nat) (qw : Nat) (qa : Nat) (a : Nat) (n : Nat) (mi : Bool) (cA : ClassId) (f : Nat → Int32) (pl : Int32) (rg : Int32) (si : Int32) (ch : Int32) (sz : Nat) (hq0 : a + n ≤ 1200) (hq1 : isB f) : Met l y_CM_numberIn s_CM_numberIn ({ frames := 12, cells := 0, slots := 0, locals := 400 }) (va_Pc [.ref h0, .int si, .int ch] (fun U => U.heap.size = sz ∧ va_P (dC, dI) cls_ [(h0, .inr (1, [.ref qw, .int pl, .int rg])), (qw, .inr (0, [.ref qa, .int (nI (a)), .int (nI (n)), .int (bI mi)])), (qa, .inl (cA, 1200, .inl (f)))] U.heap ∧ va_K (dC, dI) cls_ [(cA, .int)] U ∧ va_D (fun _ => True) [(h0, .inr (1, [.ref qw, .int pl, .int rg])), (qw, .inr (0, [.ref qa, .int (nI (a)), .int (nI (n)), .int (bI mi)])), (qa, .inl (cA, 1200, .inl (f)))])) (va_Qi (fun (r : Int32) (_ : Unit) => True) (fun (_ : Unit) (t : State) => ∃ (m2 : Bool), va_P (dC, dI) cls_ [(h0, .inr (1, [.ref qw, .int pl, .int rg])), (qw, .inr (0, [.ref qa, .int (nI (a)), .int (nI (n)), .int (bI m2)])), (qa, .inl (cA, 1200, .inl (f)))] t.heap ∧ va_K (dC, dI) cls_ [(cA, .int)] t ∧ va_D (va_A [(h0, .inr (1, [.ref qw, .int pl, .int rg])), (qw, .inr (0, [.ref qa, .int (nI (a)), .int (nI (n)), .int (bI mi)])), (qa, .inl (cA, 1200, .inl (f)))] sz) [(h0, .inr (1, [.ref qw, .int pl, .int rg])), (qw, .inr (0, [.ref qa, .int (nI (a)), .int (nI (n)), .int (bI m2)])), (qa, .inl (cA, 1200, .inl (f)))]) (va_A [(h0, .inr (1, [.ref qw, .int pl, .int rg])), (qw, .inr (0, [.ref qa, .int (nI (a)), .int (nI (n)), .int (bI mi)])), (qa, .inl (cA, 1200, .inl (f)))] sz)) 0 0 (va_A [(h0, .inr (1, [.ref qw, .int pl, .int rg])), (qw, .inr (0, [.ref qa, .int (nI (a)), .int (nI (n)), .int (bI mi)])), (qa, .inl (cA, 1200, .inl (f)))] sz) := by
  refine Met.ofW (cc := b_CM_numberIn) (maxL := 8) (ret := (some .int)) (by decide) rfl ?_
  intro p e s m args below meth c s₁ B hml hv
  obtain ⟨rfl, hsz, hP, hK, hD0⟩ := hv
  have hx := B.exec
  have hb := B.bytes
  have hr := B.returns
  have hts := atoms_spec (ws := s_CM_numberIn) B.pre
  have hown : s.vm.findClass R_CM = some m.cls := findClass_of_methodNamed B.named
  have hlocks := B.notSynchronized
  subst hsz
  have hD := hD0.self (sz := s.heap.size)
  generalize hAe : va_A [(h0, .inr (1, [.ref qw, .int pl, .int rg])), (qw, .inr (0, [.ref qa, .int (nI (a)), .int (nI (n)), .int (bI mi)])), (qa, .inl (cA, 1200, .inl (f)))] s.heap.size = A at hD ⊢
  have hA : ∀ q : Nat, s.heap.size ≤ q → A q := fun q h => by rw [← hAe]; exact Or.inr h
  have hS : va_S A s.heap s.heap [] := va_S.rf
  have hP : va_P (dC, dI) cls_ [(h0, .inr (1, [.ref qw, .int pl, .int rg])), (qw, .inr (0, [.ref qa, .int (nI (a)), .int (nI (n)), .int (bI mi)])), (qa, .inl (cA, 1200, .inl (f)))] s.heap := hP
  have hl := lv_entry ([.ref h0, .int si, .int ch]) (n := 8) (Nat.le_of_ble_eq_true rfl)
  rw [lg_entry_eq]
  generalize (lg_sl ([.ref h0, .int si, .int ch]) ++ List.replicate (8 - (lg_sl ([.ref h0, .int si, .int ch])).length) Slot.unset).toArray = ls at hl ⊢
  have hl : lv_has ls 8 [(0, .ref h0), (1, .int si), (2, .int ch)] := hl
  refine lv_aload_n hx hb d_CM_numberIn_0 rfl (lv_at hl 0 rfl) ?_
  refine va_get (D := (dC, dI)) (ci := 1) (v := .ref qw) (C := R_CM) (T := F_CM) (N := 3) hx hb hts in_CM hown hK hP 0 rfl rfl 0 (by decide) (hts _ (List.mem_cons_of_mem _ w_89)) (fun _ h9 => h9) rfl d_CM_numberIn_1 ?_
  refine lv_aload_n hx hb d_CM_numberIn_4 rfl (lv_at hl 0 rfl) ?_
  refine va_get (D := (dC, dI)) (ci := 1) (v := .int pl) (C := R_CM) (T := F_CM) (N := 3) hx hb hts in_CM hown hK hP 0 rfl rfl 1 (by decide) (hts _ (List.mem_cons_of_mem _ w_91)) (fun _ h9 => h9) rfl d_CM_numberIn_5 ?_
  refine lv_bipush (v := 16) hx hb d_CM_numberIn_8 (by decide) ?_
  refine lv_iadd hx hb d_CM_numberIn_10 ?_
  refine lv_topi (fun v156 ev156 => ?_)
  refine lv_iconst (v := 4) hx hb d_CM_numberIn_11 (by decide) ?_
  refine lv_aload_n hx hb d_CM_numberIn_12 rfl (lv_at hl 0 rfl) ?_
  refine va_get (D := (dC, dI)) (ci := 1) (v := .int rg) (C := R_CM) (T := F_CM) (N := 3) hx hb hts in_CM hown hK hP 0 rfl rfl 2 (by decide) (hts _ (List.mem_cons_of_mem _ w_92)) (fun _ h9 => h9) rfl d_CM_numberIn_13 ?_
  refine lv_imul hx hb d_CM_numberIn_16 ?_
  refine lv_topi (fun v157 ev157 => ?_)
  refine lv_iadd hx hb d_CM_numberIn_17 ?_
  refine lv_topi (fun v158 ev158 => ?_)
  refine lv_iconst (v := 2) hx hb d_CM_numberIn_18 (by decide) ?_
  refine lv_iload_n hx hb d_CM_numberIn_19 rfl (lv_at hl 1 rfl) ?_
  refine lv_imul hx hb d_CM_numberIn_20 ?_
  refine lv_topi (fun v159 ev159 => ?_)
  refine lv_iadd hx hb d_CM_numberIn_21 ?_
  refine lv_topi (fun v160 ev160 => ?_)
  have hPc := hP.sub (ws' := [(qw, .inr (0, [.ref qa, .int (nI (a)), .int (nI (n)), .int (bI mi)])), (qa, .inl (cA, 1200, .inl (f)))]) [1, 2] rfl
  have hDc := hD.sub (ws' := [(qw, .inr (0, [.ref qa, .int (nI (a)), .int (nI (n)), .int (bI mi)])), (qa, .inl (cA, 1200, .inl (f)))]) [1, 2] (by decide) rfl
  have hKc := hK.sub (tys' := [(cA, .int)]) [0] rfl
  have hFc := va_free (wc := [(qw, .inr (0, [.ref qa, .int (nI (a)), .int (nI (n)), .int (bI mi)])), (qa, .inl (cA, 1200, .inl (f)))]) hD hS hA [1, 2] rfl
  refine va_calli (va_runV (As := [.int v160]) (rest := []) ⟨hx, hb, hml, hown, hts⟩ (g_SP_u16 l dC dI qw qa a n mi cA f v160 s.heap.size (by omega) (by assumption)) (cwV 1 hts (tw_inV w_430 w_353 w_354 w_4 w_355) rfl rfl rfl (by decide +kernel) ⟨Nat.le_of_ble_eq_true rfl, Nat.le_of_ble_eq_true rfl⟩) ⟨fun a U g mk q => by obtain ⟨q0, q1, qP, qK, qD⟩ := q; exact ⟨q0, q1, qP, va_K.moved (u := U) (U := U.calling g mk a) (Vm.Alike.refl U.vm) qK, qD⟩, va_recv (hK := hK) (hP := hP) (q0 := 1) (ci := 0) rfl rfl, fun U hU hW => ⟨rfl, by rw [hU], by rw [hU]; exact hPc, va_K.moved hW.alike hKc, hDc.weaken (fun _ _ _ _ => trivial)⟩⟩ rfl rfl hl.1 rfl (lv_room (Nat.le_of_ble_eq_true rfl)) d_CM_numberIn_22 ⟨Nat.le_of_ble_eq_true rfl, Nat.le_of_ble_eq_true rfl⟩) hS (fun q _ h => hFc q h) hFc (fun r161 u t H1 locs ht hvm hw hB hz1 hk1 hS => ?_)
  obtain ⟨m_162, hP1, hK1, hD1⟩ := hB
  rw [ht] at hP1
  have hK1 := va_K.moved hvm.symm hK1
  obtain ⟨hP, hD⟩ := va_join (wr := [(h0, .inr (1, [.ref qw, .int pl, .int rg]))]) (w1 := [(qw, .inr (0, [.ref qa, .int (nI (a)), .int (nI (n)), .int (bI m_162)])), (qa, .inl (cA, 1200, .inl (f)))]) hP hD [1, 2] [0] rfl rfl (by decide) (by decide) hk1 hFc hP1 hD1
  have hK := (hK.sub (tys' := []) [] rfl).app hK1
  generalize H1 = H at hP hS ⊢
  have hP : va_P (dC, dI) cls_ [(h0, .inr (1, [.ref qw, .int pl, .int rg])), (qw, .inr (0, [.ref qa, .int (nI (a)), .int (nI (n)), .int (bI m_162)])), (qa, .inl (cA, 1200, .inl (f)))] H := hP
  have hD : va_D A [(h0, .inr (1, [.ref qw, .int pl, .int rg])), (qw, .inr (0, [.ref qa, .int (nI (a)), .int (nI (n)), .int (bI m_162)])), (qa, .inl (cA, 1200, .inl (f)))] := hD
  have hK : va_K (dC, dI) cls_ [(cA, .int)] s := hK
  have hw_r161 := hw
  obtain ⟨kn163, hb_kn163, rfl⟩ := hw_r161
  refine lv_istore_n (lv' := [(3, .int (nI (kn163))), (0, .ref h0), (1, .int si), (2, .int ch)]) hx hb d_CM_numberIn_25 rfl hl (by decide) rfl (fun ls hl => ?_)
  refine lv_aload_n hx hb d_CM_numberIn_26 rfl (lv_at hl 1 rfl) ?_
  refine va_get (D := (dC, dI)) (ci := 1) (v := .int pl) (C := R_CM) (T := F_CM) (N := 3) hx hb hts in_CM hown hK hP 0 rfl rfl 1 (by decide) (hts _ (List.mem_cons_of_mem _ w_91)) (fun _ h9 => h9) rfl d_CM_numberIn_27 ?_
  refine lv_bipush (v := 16) hx hb d_CM_numberIn_30 (by decide) ?_
  refine lv_iadd hx hb d_CM_numberIn_32 ?_
  refine lv_topi (fun v164 ev164 => ?_)
  refine lv_bipush (v := 6) hx hb d_CM_numberIn_33 (by decide) ?_
  refine lv_aload_n hx hb d_CM_numberIn_35 rfl (lv_at hl 1 rfl) ?_
  refine va_get (D := (dC, dI)) (ci := 1) (v := .int rg) (C := R_CM) (T := F_CM) (N := 3) hx hb hts in_CM hown hK hP 0 rfl rfl 2 (by decide) (hts _ (List.mem_cons_of_mem _ w_92)) (fun _ h9 => h9) rfl d_CM_numberIn_36 ?_
  refine lv_imul hx hb d_CM_numberIn_39 ?_
  refine lv_topi (fun v165 ev165 => ?_)
  refine lv_iadd hx hb d_CM_numberIn_40 ?_
  refine lv_topi (fun v166 ev166 => ?_)
  refine lv_iconst (v := 2) hx hb d_CM_numberIn_41 (by decide) ?_
  refine lv_iload_n hx hb d_CM_numberIn_42 rfl (lv_at hl 2 rfl) ?_
  refine lv_imul hx hb d_CM_numberIn_43 ?_
  refine lv_topi (fun v167 ev167 => ?_)
  refine lv_iadd hx hb d_CM_numberIn_44 ?_
  refine lv_topi (fun v168 ev168 => ?_)
  refine lv_istore (lv' := [(4, .int v168), (3, .int (nI (kn163))), (0, .ref h0), (1, .int si), (2, .int ch)]) hx hb d_CM_numberIn_45 hl (by decide) rfl (fun ls hl => ?_)
  refine lv_aload_n hx hb d_CM_numberIn_47 rfl (lv_at hl 2 rfl) ?_
  refine va_get (D := (dC, dI)) (ci := 1) (v := .ref qw) (C := R_CM) (T := F_CM) (N := 3) hx hb hts in_CM hown hK hP 0 rfl rfl 0 (by decide) (hts _ (List.mem_cons_of_mem _ w_89)) (fun _ h9 => h9) rfl d_CM_numberIn_48 ?_
  refine lv_iload hx hb d_CM_numberIn_51 (lv_at hl 0 rfl) ?_
  have hPc := hP.sub (ws' := [(qw, .inr (0, [.ref qa, .int (nI (a)), .int (nI (n)), .int (bI m_162)])), (qa, .inl (cA, 1200, .inl (f)))]) [1, 2] rfl
  have hDc := hD.sub (ws' := [(qw, .inr (0, [.ref qa, .int (nI (a)), .int (nI (n)), .int (bI m_162)])), (qa, .inl (cA, 1200, .inl (f)))]) [1, 2] (by decide) rfl
  have hKc := hK.sub (tys' := [(cA, .int)]) [0] rfl
  have hFc := va_free (wc := [(qw, .inr (0, [.ref qa, .int (nI (a)), .int (nI (n)), .int (bI m_162)])), (qa, .inl (cA, 1200, .inl (f)))]) hD hS hA [1, 2] rfl
  refine va_calli (va_runV (As := [.int v168]) (rest := []) ⟨hx, hb, hml, hown, hts⟩ (g_SP_u16 l dC dI qw qa a n m_162 cA f v168 H.size (by omega) (by assumption)) (cwV 1 hts (tw_inV w_430 w_353 w_354 w_4 w_355) rfl rfl rfl (by decide +kernel) ⟨Nat.le_of_ble_eq_true rfl, Nat.le_of_ble_eq_true rfl⟩) ⟨fun a U g mk q => by obtain ⟨q0, q1, qP, qK, qD⟩ := q; exact ⟨q0, q1, qP, va_K.moved (u := U) (U := U.calling g mk a) (Vm.Alike.refl U.vm) qK, qD⟩, va_recv (hK := hK) (hP := hP) (q0 := 1) (ci := 0) rfl rfl, fun U hU hW => ⟨rfl, by rw [hU], by rw [hU]; exact hPc, va_K.moved hW.alike hKc, hDc.weaken (fun _ _ _ _ => trivial)⟩⟩ rfl rfl hl.1 rfl (lv_room (Nat.le_of_ble_eq_true rfl)) d_CM_numberIn_53 ⟨Nat.le_of_ble_eq_true rfl, Nat.le_of_ble_eq_true rfl⟩) hS (fun q _ h => hFc q h) hFc (fun r169 u t H1 locs ht hvm hw hB hz1 hk1 hS => ?_)
  obtain ⟨m_170, hP1, hK1, hD1⟩ := hB
  rw [ht] at hP1
  have hK1 := va_K.moved hvm.symm hK1
  obtain ⟨hP, hD⟩ := va_join (wr := [(h0, .inr (1, [.ref qw, .int pl, .int rg]))]) (w1 := [(qw, .inr (0, [.ref qa, .int (nI (a)), .int (nI (n)), .int (bI m_170)])), (qa, .inl (cA, 1200, .inl (f)))]) hP hD [1, 2] [0] rfl rfl (by decide) (by decide) hk1 hFc hP1 hD1
  have hK := (hK.sub (tys' := []) [] rfl).app hK1
  generalize H1 = H at hP hS ⊢
  have hP : va_P (dC, dI) cls_ [(h0, .inr (1, [.ref qw, .int pl, .int rg])), (qw, .inr (0, [.ref qa, .int (nI (a)), .int (nI (n)), .int (bI m_170)])), (qa, .inl (cA, 1200, .inl (f)))] H := hP
  have hD : va_D A [(h0, .inr (1, [.ref qw, .int pl, .int rg])), (qw, .inr (0, [.ref qa, .int (nI (a)), .int (nI (n)), .int (bI m_170)])), (qa, .inl (cA, 1200, .inl (f)))] := hD
  have hK : va_K (dC, dI) cls_ [(cA, .int)] s := hK
  have hw_r169 := hw
  obtain ⟨kn171, hb_kn171, rfl⟩ := hw_r169
  refine lv_istore (lv' := [(5, .int (nI (kn171))), (4, .int v168), (3, .int (nI (kn163))), (0, .ref h0), (1, .int si), (2, .int ch)]) hx hb d_CM_numberIn_56 hl (by decide) rfl (fun ls hl => ?_)
  refine lv_iload hx hb d_CM_numberIn_58 (lv_at hl 0 rfl) ?_
  refine lv_if_ne (tgt := 70) hx hb d_CM_numberIn_60 (by decide) (fun hc172 => ?_) (fun hc172 => ?_)
  · skip
    have hc172n : ¬ kn171 = 0 := fun z => hc172 ((nI_eq (a := kn171) (b := 0) (by omega) (by omega)).mpr z)
    refine lv_iload hx hb d_CM_numberIn_70 (lv_at hl 1 rfl) ?_
    refine lv_iload hx hb d_CM_numberIn_72 (lv_at hl 0 rfl) ?_
    refine lv_iadd hx hb d_CM_numberIn_74 ?_
    refine lv_topi (fun v173 ev173 => ?_)
    refine lv_iconst (v := 2) hx hb d_CM_numberIn_75 (by decide) ?_
    refine lv_iload_n hx hb d_CM_numberIn_76 rfl (lv_at hl 5 rfl) ?_
    refine lv_aload_n hx hb d_CM_numberIn_77 rfl (lv_at hl 3 rfl) ?_
    refine lv_iload_n hx hb d_CM_numberIn_78 rfl (lv_at hl 4 rfl) ?_
    have hPc := hP.sub (ws' := [(h0, .inr (1, [.ref qw, .int pl, .int rg])), (qw, .inr (0, [.ref qa, .int (nI (a)), .int (nI (n)), .int (bI m_170)])), (qa, .inl (cA, 1200, .inl (f)))]) [0, 1, 2] rfl
    have hDc := hD.sub (ws' := [(h0, .inr (1, [.ref qw, .int pl, .int rg])), (qw, .inr (0, [.ref qa, .int (nI (a)), .int (nI (n)), .int (bI m_170)])), (qa, .inl (cA, 1200, .inl (f)))]) [0, 1, 2] (by decide) rfl
    have hKc := hK.sub (tys' := [(cA, .int)]) [0] rfl
    have hFc := va_free (wc := [(h0, .inr (1, [.ref qw, .int pl, .int rg])), (qw, .inr (0, [.ref qa, .int (nI (a)), .int (nI (n)), .int (bI m_170)])), (qa, .inl (cA, 1200, .inl (f)))]) hD hS hA [0, 1, 2] rfl
    refine va_calli (va_runV (As := [.int si]) (rest := [.int ch, .int 2, .int v173]) ⟨hx, hb, hml, hown, hts⟩ (g_CM_first l dC dI h0 qw qa a n m_170 cA f pl rg si H.size (by omega) (by assumption)) (cwV 1 hts (tw_inV w_444 w_446 wp_11 w_5 w_447) rfl rfl rfl (by decide +kernel) ⟨Nat.le_of_ble_eq_true rfl, Nat.le_of_ble_eq_true rfl⟩) ⟨fun a U g mk q => by obtain ⟨q0, q1, qP, qK, qD⟩ := q; exact ⟨q0, q1, qP, va_K.moved (u := U) (U := U.calling g mk a) (Vm.Alike.refl U.vm) qK, qD⟩, va_recv (hK := hK) (hP := hP) (q0 := 0) (ci := 1) rfl rfl, fun U hU hW => ⟨rfl, by rw [hU], by rw [hU]; exact hPc, va_K.moved hW.alike hKc, hDc.weaken (fun _ _ _ _ => trivial)⟩⟩ rfl rfl hl.1 rfl (lv_room (Nat.le_of_ble_eq_true rfl)) d_CM_numberIn_79 ⟨Nat.le_of_ble_eq_true rfl, Nat.le_of_ble_eq_true rfl⟩) hS (fun q _ h => hFc q h) hFc (fun r174 u t H1 locs ht hvm hw hB hz1 hk1 hS => ?_)
    obtain ⟨m_175, hP1, hK1, hD1⟩ := hB
    rw [ht] at hP1
    have hK1 := va_K.moved hvm.symm hK1
    obtain ⟨hP, hD⟩ := va_join (wr := []) (w1 := [(h0, .inr (1, [.ref qw, .int pl, .int rg])), (qw, .inr (0, [.ref qa, .int (nI (a)), .int (nI (n)), .int (bI m_175)])), (qa, .inl (cA, 1200, .inl (f)))]) hP hD [0, 1, 2] [] rfl rfl (by decide) (by decide) hk1 hFc hP1 hD1
    have hK := (hK.sub (tys' := []) [] rfl).app hK1
    generalize H1 = H at hP hS ⊢
    have hP : va_P (dC, dI) cls_ [(h0, .inr (1, [.ref qw, .int pl, .int rg])), (qw, .inr (0, [.ref qa, .int (nI (a)), .int (nI (n)), .int (bI m_175)])), (qa, .inl (cA, 1200, .inl (f)))] H := hP
    have hD : va_D A [(h0, .inr (1, [.ref qw, .int pl, .int rg])), (qw, .inr (0, [.ref qa, .int (nI (a)), .int (nI (n)), .int (bI m_175)])), (qa, .inl (cA, 1200, .inl (f)))] := hD
    have hK : va_K (dC, dI) cls_ [(cA, .int)] s := hK
    have hw_r174 := hw
    obtain ⟨kn176, hb_kn176, rfl⟩ := hw_r174
    refine lv_isub hx hb d_CM_numberIn_82 ?_
    refine lv_topi (fun v177 ev177 => ?_)
    refine lv_imul hx hb d_CM_numberIn_83 ?_
    refine lv_topi (fun v178 ev178 => ?_)
    refine lv_iadd hx hb d_CM_numberIn_84 ?_
    refine lv_topi (fun v179 ev179 => ?_)
    refine lv_istore (lv' := [(6, .int v179), (5, .int (nI (kn171))), (4, .int v168), (3, .int (nI (kn163))), (0, .ref h0), (1, .int si), (2, .int ch)]) hx hb d_CM_numberIn_85 hl (by decide) rfl (fun ls hl => ?_)
    refine lv_aload_n hx hb d_CM_numberIn_87 rfl (lv_at hl 4 rfl) ?_
    refine va_get (D := (dC, dI)) (ci := 1) (v := .ref qw) (C := R_CM) (T := F_CM) (N := 3) hx hb hts in_CM hown hK hP 0 rfl rfl 0 (by decide) (hts _ (List.mem_cons_of_mem _ w_89)) (fun _ h9 => h9) rfl d_CM_numberIn_88 ?_
    refine lv_iload hx hb d_CM_numberIn_91 (lv_at hl 0 rfl) ?_
    refine lv_i2l (v := v179.toInt64) hx hb d_CM_numberIn_93 (by first | rfl | decide +kernel) ?_
    refine lv_ldc2 (v := 2) hx hb hown (hts _ (List.mem_cons_of_mem _ w_691)) d_CM_numberIn_94 ?_
    have hPc := hP.sub (ws' := [(qw, .inr (0, [.ref qa, .int (nI (a)), .int (nI (n)), .int (bI m_175)]))]) [1] rfl
    have hDc := hD.sub (ws' := [(qw, .inr (0, [.ref qa, .int (nI (a)), .int (nI (n)), .int (bI m_175)]))]) [1] (by decide) rfl
    have hKc := hK.sub (tys' := []) [] rfl
    have hFc := va_free (wc := [(qw, .inr (0, [.ref qa, .int (nI (a)), .int (nI (n)), .int (bI m_175)]))]) hD hS hA [1] rfl
    refine va_calli (va_runV (As := [.long v179.toInt64, .long 2]) (rest := []) ⟨hx, hb, hml, hown, hts⟩ (g_SP_holds l dC dI qw qa (nI (a)) (nI (n)) m_175 v179.toInt64 2 H.size) (cwV 2 hts (tw_inV w_432 w_364 w_365 w_4 w_366) rfl rfl rfl (by decide +kernel) ⟨Nat.le_of_ble_eq_true rfl, Nat.le_of_ble_eq_true rfl⟩) ⟨fun a U g mk q => by obtain ⟨q0, q1, qP, qK, qD⟩ := q; exact ⟨q0, q1, qP, va_K.moved (u := U) (U := U.calling g mk a) (Vm.Alike.refl U.vm) qK, qD⟩, va_recv (hK := hK) (hP := hP) (q0 := 1) (ci := 0) rfl rfl, fun U hU hW => ⟨rfl, by rw [hU], by rw [hU]; exact hPc, va_K.moved hW.alike hKc, hDc.weaken (fun _ _ _ _ => trivial)⟩⟩ rfl rfl hl.1 rfl (lv_room (Nat.le_of_ble_eq_true rfl)) d_CM_numberIn_97 ⟨Nat.le_of_ble_eq_true rfl, Nat.le_of_ble_eq_true rfl⟩) hS (fun q _ h => hFc q h) hFc (fun r180 u t H1 locs ht hvm hw hB hz1 hk1 hS => ?_)
    obtain ⟨hP1, hK1, hD1⟩ := hB
    rw [ht] at hP1
    have hK1 := va_K.moved hvm.symm hK1
    obtain ⟨hP, hD⟩ := va_join (wr := [(h0, .inr (1, [.ref qw, .int pl, .int rg])), (qa, .inl (cA, 1200, .inl (f)))]) (w1 := [(qw, .inr (0, [.ref qa, .int (nI (a)), .int (nI (n)), .int (bI m_175)]))]) hP hD [1] [0, 2] rfl rfl (by decide) (by decide) hk1 hFc hP1 hD1
    have hK := (hK.sub (tys' := [(cA, .int)]) [0] rfl).app hK1
    generalize H1 = H at hP hS ⊢
    have hP : va_P (dC, dI) cls_ [(h0, .inr (1, [.ref qw, .int pl, .int rg])), (qa, .inl (cA, 1200, .inl (f))), (qw, .inr (0, [.ref qa, .int (nI (a)), .int (nI (n)), .int (bI m_175)]))] H := hP
    have hD : va_D A [(h0, .inr (1, [.ref qw, .int pl, .int rg])), (qa, .inl (cA, 1200, .inl (f))), (qw, .inr (0, [.ref qa, .int (nI (a)), .int (nI (n)), .int (bI m_175)]))] := hD
    have hK : va_K (dC, dI) cls_ [(cA, .int)] s := hK
    have hw_r180 := hw
    obtain ⟨bb181, rfl⟩ := hw_r180
    refine lv_if_eq (tgt := 115) hx hb d_CM_numberIn_100 (by decide) (fun hc182 => ?_) (fun hc182 => ?_)
    · skip
      have hc182b : bb181 = false := bI_0 hc182
      refine lv_iconst (v := 0) hx hb d_CM_numberIn_115 (by decide) ?_
      refine lv_istore (lv' := [(7, .int 0), (6, .int v179), (5, .int (nI (kn171))), (4, .int v168), (3, .int (nI (kn163))), (0, .ref h0), (1, .int si), (2, .int ch)]) hx hb d_CM_numberIn_116 hl (by decide) rfl (fun ls hl => ?_)
      refine lv_iload hx hb d_CM_numberIn_118 (lv_at hl 0 rfl) ?_
      refine lv_if_ne (tgt := 127) hx hb d_CM_numberIn_120 (by decide) (fun hc => absurd hc (by decide +kernel)) (fun _ => ?_)
      refine lv_iconst (v := 0) hx hb d_CM_numberIn_123 (by decide) ?_
      refine lv_goto (tgt := 134) hx hb d_CM_numberIn_124 (by decide) ?_
      refine W.widen (k := 0) (n := 0) (Nat.le_of_ble_eq_true rfl) (Nat.le_of_ble_eq_true rfl) ?_
      have hP9 := hP.sub (ws' := [(h0, .inr (1, [.ref qw, .int pl, .int rg])), (qw, .inr (0, [.ref qa, .int (nI (a)), .int (nI (n)), .int (bI m_175)])), (qa, .inl (cA, 1200, .inl (f)))]) [0, 2, 1] rfl
      have hD9 := hD.sub (ws' := [(h0, .inr (1, [.ref qw, .int pl, .int rg])), (qw, .inr (0, [.ref qa, .int (nI (a)), .int (nI (n)), .int (bI m_175)])), (qa, .inl (cA, 1200, .inl (f)))]) [0, 2, 1] (by decide) rfl
      have hK9 := hK.sub (tys' := [(cA, .int)]) [0] rfl
      exact W.iret (v := 0) hx hb hr (fun t ht hW => ⟨⟨0, (), rfl, trivial, m_175, by rw [ht]; exact hP9, va_K.moved hW.alike hK9, hD9⟩, hS.F ht⟩) hS.2.2 d_CM_numberIn_134
    · skip
      have hc182b : bb181 = true := bI_1 hc182
      refine lv_aload_n hx hb d_CM_numberIn_103 rfl (lv_at hl 4 rfl) ?_
      refine va_get (D := (dC, dI)) (ci := 1) (v := .ref qw) (C := R_CM) (T := F_CM) (N := 3) hx hb hts in_CM hown hK hP 0 rfl rfl 0 (by decide) (hts _ (List.mem_cons_of_mem _ w_89)) (fun _ h9 => h9) rfl d_CM_numberIn_104 ?_
      refine lv_iload hx hb d_CM_numberIn_107 (lv_at hl 0 rfl) ?_
      have hPc := hP.sub (ws' := [(qw, .inr (0, [.ref qa, .int (nI (a)), .int (nI (n)), .int (bI m_175)])), (qa, .inl (cA, 1200, .inl (f)))]) [2, 1] rfl
      have hDc := hD.sub (ws' := [(qw, .inr (0, [.ref qa, .int (nI (a)), .int (nI (n)), .int (bI m_175)])), (qa, .inl (cA, 1200, .inl (f)))]) [2, 1] (by decide) rfl
      have hKc := hK.sub (tys' := [(cA, .int)]) [0] rfl
      have hFc := va_free (wc := [(qw, .inr (0, [.ref qa, .int (nI (a)), .int (nI (n)), .int (bI m_175)])), (qa, .inl (cA, 1200, .inl (f)))]) hD hS hA [2, 1] rfl
      refine va_calli (va_runV (As := [.int v179]) (rest := []) ⟨hx, hb, hml, hown, hts⟩ (g_SP_u16 l dC dI qw qa a n m_175 cA f v179 H.size (by omega) (by assumption)) (cwV 1 hts (tw_inV w_430 w_353 w_354 w_4 w_355) rfl rfl rfl (by decide +kernel) ⟨Nat.le_of_ble_eq_true rfl, Nat.le_of_ble_eq_true rfl⟩) ⟨fun a U g mk q => by obtain ⟨q0, q1, qP, qK, qD⟩ := q; exact ⟨q0, q1, qP, va_K.moved (u := U) (U := U.calling g mk a) (Vm.Alike.refl U.vm) qK, qD⟩, va_recv (hK := hK) (hP := hP) (q0 := 2) (ci := 0) rfl rfl, fun U hU hW => ⟨rfl, by rw [hU], by rw [hU]; exact hPc, va_K.moved hW.alike hKc, hDc.weaken (fun _ _ _ _ => trivial)⟩⟩ rfl rfl hl.1 rfl (lv_room (Nat.le_of_ble_eq_true rfl)) d_CM_numberIn_109 ⟨Nat.le_of_ble_eq_true rfl, Nat.le_of_ble_eq_true rfl⟩) hS (fun q _ h => hFc q h) hFc (fun r183 u t H1 locs ht hvm hw hB hz1 hk1 hS => ?_)
      obtain ⟨m_184, hP1, hK1, hD1⟩ := hB
      rw [ht] at hP1
      have hK1 := va_K.moved hvm.symm hK1
      obtain ⟨hP, hD⟩ := va_join (wr := [(h0, .inr (1, [.ref qw, .int pl, .int rg]))]) (w1 := [(qw, .inr (0, [.ref qa, .int (nI (a)), .int (nI (n)), .int (bI m_184)])), (qa, .inl (cA, 1200, .inl (f)))]) hP hD [2, 1] [0] rfl rfl (by decide) (by decide) hk1 hFc hP1 hD1
      have hK := (hK.sub (tys' := []) [] rfl).app hK1
      generalize H1 = H at hP hS ⊢
      have hP : va_P (dC, dI) cls_ [(h0, .inr (1, [.ref qw, .int pl, .int rg])), (qw, .inr (0, [.ref qa, .int (nI (a)), .int (nI (n)), .int (bI m_184)])), (qa, .inl (cA, 1200, .inl (f)))] H := hP
      have hD : va_D A [(h0, .inr (1, [.ref qw, .int pl, .int rg])), (qw, .inr (0, [.ref qa, .int (nI (a)), .int (nI (n)), .int (bI m_184)])), (qa, .inl (cA, 1200, .inl (f)))] := hD
      have hK : va_K (dC, dI) cls_ [(cA, .int)] s := hK
      have hw_r183 := hw
      obtain ⟨kn185, hb_kn185, rfl⟩ := hw_r183
      refine lv_goto (tgt := 116) hx hb d_CM_numberIn_112 (by decide) ?_
      refine lv_istore (lv' := [(7, .int (nI (kn185))), (6, .int v179), (5, .int (nI (kn171))), (4, .int v168), (3, .int (nI (kn163))), (0, .ref h0), (1, .int si), (2, .int ch)]) hx hb d_CM_numberIn_116 hl (by decide) rfl (fun ls hl => ?_)
      refine lv_iload hx hb d_CM_numberIn_118 (lv_at hl 0 rfl) ?_
      refine lv_if_ne (tgt := 127) hx hb d_CM_numberIn_120 (by decide) (fun hc186 => ?_) (fun hc186 => ?_)
      · skip
        have hc186n : ¬ kn185 = 0 := fun z => hc186 ((nI_eq (a := kn185) (b := 0) (by omega) (by omega)).mpr z)
        refine lv_iload hx hb d_CM_numberIn_127 (lv_at hl 0 rfl) ?_
        refine lv_iload_n hx hb d_CM_numberIn_129 rfl (lv_at hl 4 rfl) ?_
        refine lv_iadd hx hb d_CM_numberIn_130 ?_
        refine lv_ci (y := nI (kn185 + kn163)) (nI_add (kn185) (kn163)) ?_
        refine lv_ldc (v := 65535) hx hb hown (hts _ (List.mem_cons_of_mem _ w_448)) d_CM_numberIn_131 ?_
        refine lv_iand hx hb d_CM_numberIn_133 ?_
        refine lv_topi (fun v187 ev187 => ?_)
        refine W.widen (k := 0) (n := 0) (Nat.le_of_ble_eq_true rfl) (Nat.le_of_ble_eq_true rfl) ?_
        have hP9 := hP.sub (ws' := [(h0, .inr (1, [.ref qw, .int pl, .int rg])), (qw, .inr (0, [.ref qa, .int (nI (a)), .int (nI (n)), .int (bI m_184)])), (qa, .inl (cA, 1200, .inl (f)))]) [0, 1, 2] rfl
        have hD9 := hD.sub (ws' := [(h0, .inr (1, [.ref qw, .int pl, .int rg])), (qw, .inr (0, [.ref qa, .int (nI (a)), .int (nI (n)), .int (bI m_184)])), (qa, .inl (cA, 1200, .inl (f)))]) [0, 1, 2] (by decide) rfl
        have hK9 := hK.sub (tys' := [(cA, .int)]) [0] rfl
        exact W.iret (v := v187) hx hb hr (fun t ht hW => ⟨⟨v187, (), rfl, trivial, m_184, by rw [ht]; exact hP9, va_K.moved hW.alike hK9, hD9⟩, hS.F ht⟩) hS.2.2 d_CM_numberIn_134
      · skip
        have hc186n : kn185 = 0 := (nI_eq (a := kn185) (b := 0) (by omega) (by omega)).mp hc186
        refine lv_iconst (v := 0) hx hb d_CM_numberIn_123 (by decide) ?_
        refine lv_goto (tgt := 134) hx hb d_CM_numberIn_124 (by decide) ?_
        refine W.widen (k := 0) (n := 0) (Nat.le_of_ble_eq_true rfl) (Nat.le_of_ble_eq_true rfl) ?_
        have hP9 := hP.sub (ws' := [(h0, .inr (1, [.ref qw, .int pl, .int rg])), (qw, .inr (0, [.ref qa, .int (nI (a)), .int (nI (n)), .int (bI m_184)])), (qa, .inl (cA, 1200, .inl (f)))]) [0, 1, 2] rfl
        have hD9 := hD.sub (ws' := [(h0, .inr (1, [.ref qw, .int pl, .int rg])), (qw, .inr (0, [.ref qa, .int (nI (a)), .int (nI (n)), .int (bI m_184)])), (qa, .inl (cA, 1200, .inl (f)))]) [0, 1, 2] (by decide) rfl
        have hK9 := hK.sub (tys' := [(cA, .int)]) [0] rfl
        exact W.iret (v := 0) hx hb hr (fun t ht hW => ⟨⟨0, (), rfl, trivial, m_184, by rw [ht]; exact hP9, va_K.moved hW.alike hK9, hD9⟩, hS.F ht⟩) hS.2.2 d_CM_numberIn_134
  · skip
    have hc172n : kn171 = 0 := (nI_eq (a := kn171) (b := 0) (by omega) (by omega)).mp hc172
    refine lv_iload_n hx hb d_CM_numberIn_63 rfl (lv_at hl 5 rfl) ?_
    refine lv_iload_n hx hb d_CM_numberIn_64 rfl (lv_at hl 2 rfl) ?_
    refine lv_iadd hx hb d_CM_numberIn_65 ?_
    refine lv_topi (fun v188 ev188 => ?_)
    refine lv_ldc (v := 65535) hx hb hown (hts _ (List.mem_cons_of_mem _ w_448)) d_CM_numberIn_66 ?_
    refine lv_iand hx hb d_CM_numberIn_68 ?_
    refine lv_topi (fun v189 ev189 => ?_)
    refine W.widen (k := 0) (n := 0) (Nat.le_of_ble_eq_true rfl) (Nat.le_of_ble_eq_true rfl) ?_
    have hP9 := hP.sub (ws' := [(h0, .inr (1, [.ref qw, .int pl, .int rg])), (qw, .inr (0, [.ref qa, .int (nI (a)), .int (nI (n)), .int (bI m_170)])), (qa, .inl (cA, 1200, .inl (f)))]) [0, 1, 2] rfl
    have hD9 := hD.sub (ws' := [(h0, .inr (1, [.ref qw, .int pl, .int rg])), (qw, .inr (0, [.ref qa, .int (nI (a)), .int (nI (n)), .int (bI m_170)])), (qa, .inl (cA, 1200, .inl (f)))]) [0, 1, 2] (by decide) rfl
    have hK9 := hK.sub (tys' := [(cA, .int)]) [0] rfl
    exact W.iret (v := v189) hx hb hr (fun t ht hW => ⟨⟨v189, (), rfl, trivial, m_170, by rw [ht]; exact hP9, va_K.moved hW.alike hK9, hD9⟩, hS.F ht⟩) hS.2.2 d_CM_numberIn_69
set_option maxHeartbeats 8000000 in
set_option maxRecDepth 100000 in
/-- a loop of GlyphLines$CharacterMap.numberOf -/
theorem cm_number_loop {p : Program} {l : Launch} {e : Env} {s : State} {m : MethodId} {args : Array Value} {below : List Frame} {meth : Method} {c : Code} {Q : State → Prop} {A : Nat → Prop} (hx : p.tables.exec = Jvm.exec) (hb : c.code = b_CM_numberOf) (hml : c.maxLocals = 3) (hts : ∀ w ∈ s_CM_numberOf, w.before args s = true) (hown : s.vm.findClass R_CM = some m.cls) (hA : ∀ q : Nat, s.heap.size ≤ q → A q) (dC : Nat → ClassId) (dI : Nat → Nat → Nat) (h0 : Nat) (qw : Nat) (qa : Nat) (a : Nat) (n : Nat) (mi : Bool) (cA : ClassId) (f : Nat → Int32) (pl : Int32) (rg : Int32) (ch : Int32) (hq0 : a + n ≤ 1200) (hq1 : isB f) (hK : va_K (dC, dI) cls_ [(cA, .int)] s)
    (kx19 : ∀ (k : Nat) (m3 : Bool), (k ≤ rg.toNatClampNeg) → ∀ (H : Heap) (locs : List Loc) (ls : Array Slot), va_P (dC, dI) cls_ [(h0, .inr (1, [.ref qw, .int pl, .int rg])), (qw, .inr (0, [.ref qa, .int (nI (a)), .int (nI (n)), .int (bI m3)])), (qa, .inl (cA, 1200, .inl (f)))] H → va_D A [(h0, .inr (1, [.ref qw, .int pl, .int rg])), (qw, .inr (0, [.ref qa, .int (nI (a)), .int (nI (n)), .int (bI m3)])), (qa, .inl (cA, 1200, .inl (f)))] → va_S A s.heap H locs → lv_has ls 3 [(2, .int (nI (k))), (0, .ref h0), (1, .int ch)] → W p l e (headSpec s_CM_numberOf ({ frames := 14, cells := 0, slots := 0, locals := 500 })).room s m args below meth c H locs 0 0 Q (F0 m 19 ls []))
    (kx45 : ∀ (k : Nat) (m3 : Bool), (k ≤ rg.toNatClampNeg) → ∀ (H : Heap) (locs : List Loc) (ls : Array Slot), va_P (dC, dI) cls_ [(h0, .inr (1, [.ref qw, .int pl, .int rg])), (qw, .inr (0, [.ref qa, .int (nI (a)), .int (nI (n)), .int (bI m3)])), (qa, .inl (cA, 1200, .inl (f)))] H → va_D A [(h0, .inr (1, [.ref qw, .int pl, .int rg])), (qw, .inr (0, [.ref qa, .int (nI (a)), .int (nI (n)), .int (bI m3)])), (qa, .inl (cA, 1200, .inl (f)))] → va_S A s.heap H locs → lv_has ls 3 [(2, .int (nI (k))), (0, .ref h0), (1, .int ch)] → W p l e (headSpec s_CM_numberOf ({ frames := 14, cells := 0, slots := 0, locals := 500 })).room s m args below meth c H locs 0 0 Q (F0 m 45 ls []))
    : ∀ (fu : Nat) (k : Nat) (m3 : Bool), (k ≤ rg.toNatClampNeg) → rg.toNatClampNeg - k < fu → ∀ (H : Heap) (locs : List Loc) (ls : Array Slot), va_P (dC, dI) cls_ [(h0, .inr (1, [.ref qw, .int pl, .int rg])), (qw, .inr (0, [.ref qa, .int (nI (a)), .int (nI (n)), .int (bI m3)])), (qa, .inl (cA, 1200, .inl (f)))] H → va_D A [(h0, .inr (1, [.ref qw, .int pl, .int rg])), (qw, .inr (0, [.ref qa, .int (nI (a)), .int (nI (n)), .int (bI m3)])), (qa, .inl (cA, 1200, .inl (f)))] → va_S A s.heap H locs → lv_has ls 3 [(2, .int (nI (k))), (0, .ref h0), (1, .int ch)] → W p l e (headSpec s_CM_numberOf ({ frames := 14, cells := 0, slots := 0, locals := 500 })).room s m args below meth c H locs 0 0 Q (F0 m 2 ls []) := by
  intro fu
  induction fu with
  | zero => intro k m3 hf0 hm; exact absurd hm (Nat.not_lt_zero _)
  | succ fu ih =>
    intro k m3 hf0 hm H locs ls hP hD hS hl
    have hB0 := cl_lt (rg)
    refine lv_iload_n hx hb d_CM_numberOf_2 rfl (lv_at hl 0 rfl) ?_
    refine lv_aload_n hx hb d_CM_numberOf_3 rfl (lv_at hl 1 rfl) ?_
    refine va_get (D := (dC, dI)) (ci := 1) (v := .int rg) (C := R_CM) (T := F_CM) (N := 3) hx hb hts in_CM hown hK hP 0 rfl rfl 2 (by decide) (hts _ (List.mem_cons_of_mem _ w_92)) (fun _ h9 => h9) rfl d_CM_numberOf_4 ?_
    refine lv_icmp_ge (tgt := 45) hx hb d_CM_numberOf_7 (by decide) (fun hc190 => ?_) (fun hc190 => ?_)
    · skip
      have hP8 := hP.sub (ws' := [(h0, .inr (1, [.ref qw, .int pl, .int rg])), (qw, .inr (0, [.ref qa, .int (nI (a)), .int (nI (n)), .int (bI m3)])), (qa, .inl (cA, 1200, .inl (f)))]) [0, 1, 2] rfl
      have hD8 := hD.sub (ws' := [(h0, .inr (1, [.ref qw, .int pl, .int rg])), (qw, .inr (0, [.ref qa, .int (nI (a)), .int (nI (n)), .int (bI m3)])), (qa, .inl (cA, 1200, .inl (f)))]) [0, 1, 2] (by decide) rfl
      exact kx45 k m3 (by omega) H locs ls hP8 hD8 hS (lv_sub hl [0, 1, 2] rfl)
    · skip
      have hc190B := cl_lt (rg)
      have hc190n : k < (rg).toNatClampNeg := cl_of (k := k) (by omega) hc190
      refine lv_aload_n hx hb d_CM_numberOf_10 rfl (lv_at hl 1 rfl) ?_
      refine lv_iload_n hx hb d_CM_numberOf_11 rfl (lv_at hl 0 rfl) ?_
      have hPc := hP.sub (ws' := [(h0, .inr (1, [.ref qw, .int pl, .int rg])), (qw, .inr (0, [.ref qa, .int (nI (a)), .int (nI (n)), .int (bI m3)])), (qa, .inl (cA, 1200, .inl (f)))]) [0, 1, 2] rfl
      have hDc := hD.sub (ws' := [(h0, .inr (1, [.ref qw, .int pl, .int rg])), (qw, .inr (0, [.ref qa, .int (nI (a)), .int (nI (n)), .int (bI m3)])), (qa, .inl (cA, 1200, .inl (f)))]) [0, 1, 2] (by decide) rfl
      have hKc := hK.sub (tys' := [(cA, .int)]) [0] rfl
      have hFc := va_free (wc := [(h0, .inr (1, [.ref qw, .int pl, .int rg])), (qw, .inr (0, [.ref qa, .int (nI (a)), .int (nI (n)), .int (bI m3)])), (qa, .inl (cA, 1200, .inl (f)))]) hD hS hA [0, 1, 2] rfl
      refine va_calli (va_runV (As := [.int (nI (k))]) (rest := []) ⟨hx, hb, hml, hown, hts⟩ (g_CM_last l dC dI h0 qw qa a n m3 cA f pl rg (nI (k)) H.size (by omega) (by assumption)) (cwV 1 hts (tw_inV w_440 w_442 wp_10 w_5 w_443) rfl rfl rfl (by decide +kernel) ⟨Nat.le_of_ble_eq_true rfl, Nat.le_of_ble_eq_true rfl⟩) ⟨fun a U g mk q => by obtain ⟨q0, q1, qP, qK, qD⟩ := q; exact ⟨q0, q1, qP, va_K.moved (u := U) (U := U.calling g mk a) (Vm.Alike.refl U.vm) qK, qD⟩, va_recv (hK := hK) (hP := hP) (q0 := 0) (ci := 1) rfl rfl, fun U hU hW => ⟨rfl, by rw [hU], by rw [hU]; exact hPc, va_K.moved hW.alike hKc, hDc.weaken (fun _ _ _ _ => trivial)⟩⟩ rfl rfl hl.1 rfl (lv_room (Nat.le_of_ble_eq_true rfl)) d_CM_numberOf_12 ⟨Nat.le_of_ble_eq_true rfl, Nat.le_of_ble_eq_true rfl⟩) hS (fun q _ h => hFc q h) hFc (fun r191 u t H1 locs ht hvm hw hB hz1 hk1 hS => ?_)
      obtain ⟨m_192, hP1, hK1, hD1⟩ := hB
      rw [ht] at hP1
      have hK1 := va_K.moved hvm.symm hK1
      obtain ⟨hP, hD⟩ := va_join (wr := []) (w1 := [(h0, .inr (1, [.ref qw, .int pl, .int rg])), (qw, .inr (0, [.ref qa, .int (nI (a)), .int (nI (n)), .int (bI m_192)])), (qa, .inl (cA, 1200, .inl (f)))]) hP hD [0, 1, 2] [] rfl rfl (by decide) (by decide) hk1 hFc hP1 hD1
      have hK := (hK.sub (tys' := []) [] rfl).app hK1
      generalize H1 = H at hP hS ⊢
      have hP : va_P (dC, dI) cls_ [(h0, .inr (1, [.ref qw, .int pl, .int rg])), (qw, .inr (0, [.ref qa, .int (nI (a)), .int (nI (n)), .int (bI m_192)])), (qa, .inl (cA, 1200, .inl (f)))] H := hP
      have hD : va_D A [(h0, .inr (1, [.ref qw, .int pl, .int rg])), (qw, .inr (0, [.ref qa, .int (nI (a)), .int (nI (n)), .int (bI m_192)])), (qa, .inl (cA, 1200, .inl (f)))] := hD
      have hK : va_K (dC, dI) cls_ [(cA, .int)] s := hK
      have hw_r191 := hw
      obtain ⟨kn193, hb_kn193, rfl⟩ := hw_r191
      refine lv_iload_n hx hb d_CM_numberOf_15 rfl (lv_at hl 2 rfl) ?_
      refine lv_icmp_lt (tgt := 39) hx hb d_CM_numberOf_16 (by decide) (fun hc194 => ?_) (fun hc194 => ?_)
      · skip
        have hc194B := cl_lt (ch)
        have hc194n : kn193 < (ch).toNatClampNeg := cl_of (k := kn193) (by omega) (Int32.not_le.mpr hc194)
        refine lv_iinc (k := 0) (v := nI (k + 1)) (lv' := [(2, .int (nI (k + 1))), (0, .ref h0), (1, .int ch)]) hx hb d_CM_numberOf_39 hl rfl (nI_add (k) 1) (by decide) rfl (fun ls hl => ?_)
        refine lv_goto (tgt := 2) hx hb d_CM_numberOf_42 (by decide) ?_
        have hP8 := hP.sub (ws' := [(h0, .inr (1, [.ref qw, .int pl, .int rg])), (qw, .inr (0, [.ref qa, .int (nI (a)), .int (nI (n)), .int (bI m_192)])), (qa, .inl (cA, 1200, .inl (f)))]) [0, 1, 2] rfl
        have hD8 := hD.sub (ws' := [(h0, .inr (1, [.ref qw, .int pl, .int rg])), (qw, .inr (0, [.ref qa, .int (nI (a)), .int (nI (n)), .int (bI m_192)])), (qa, .inl (cA, 1200, .inl (f)))]) [0, 1, 2] (by decide) rfl
        exact ih (k + 1) m_192 (by omega) (by omega) H locs ls hP8 hD8 hS (lv_sub hl [0, 1, 2] rfl)
      · skip
        have hP8 := hP.sub (ws' := [(h0, .inr (1, [.ref qw, .int pl, .int rg])), (qw, .inr (0, [.ref qa, .int (nI (a)), .int (nI (n)), .int (bI m_192)])), (qa, .inl (cA, 1200, .inl (f)))]) [0, 1, 2] rfl
        have hD8 := hD.sub (ws' := [(h0, .inr (1, [.ref qw, .int pl, .int rg])), (qw, .inr (0, [.ref qa, .int (nI (a)), .int (nI (n)), .int (bI m_192)])), (qa, .inl (cA, 1200, .inl (f)))]) [0, 1, 2] (by decide) rfl
        exact kx19 k m_192 (by omega) H locs ls hP8 hD8 hS (lv_sub hl [0, 1, 2] rfl)
set_option maxHeartbeats 4000000 in
set_option maxRecDepth 100000 in
/-- GlyphLines$CharacterMap.numberOf -/
theorem g_CM_numberOf (l : Launch) (dC : Nat → ClassId) (dI : Nat → Nat → Nat) (h0 : Nat) (qw : Nat) (qa : Nat) (a : Nat) (n : Nat) (mi : Bool) (cA : ClassId) (f : Nat → Int32) (pl : Int32) (rg : Int32) (ch : Int32) (sz : Nat) (hq0 : a + n ≤ 1200) (hq1 : isB f) : Met l y_CM_numberOf s_CM_numberOf ({ frames := 14, cells := 0, slots := 0, locals := 500 }) (va_Pc [.ref h0, .int ch] (fun U => U.heap.size = sz ∧ va_P (dC, dI) cls_ [(h0, .inr (1, [.ref qw, .int pl, .int rg])), (qw, .inr (0, [.ref qa, .int (nI (a)), .int (nI (n)), .int (bI mi)])), (qa, .inl (cA, 1200, .inl (f)))] U.heap ∧ va_K (dC, dI) cls_ [(cA, .int)] U ∧ va_D (fun _ => True) [(h0, .inr (1, [.ref qw, .int pl, .int rg])), (qw, .inr (0, [.ref qa, .int (nI (a)), .int (nI (n)), .int (bI mi)])), (qa, .inl (cA, 1200, .inl (f)))])) (va_Qi (fun (r : Int32) (_ : Unit) => True) (fun (_ : Unit) (t : State) => ∃ (m2 : Bool), va_P (dC, dI) cls_ [(h0, .inr (1, [.ref qw, .int pl, .int rg])), (qw, .inr (0, [.ref qa, .int (nI (a)), .int (nI (n)), .int (bI m2)])), (qa, .inl (cA, 1200, .inl (f)))] t.heap ∧ va_K (dC, dI) cls_ [(cA, .int)] t ∧ va_D (va_A [(h0, .inr (1, [.ref qw, .int pl, .int rg])), (qw, .inr (0, [.ref qa, .int (nI (a)), .int (nI (n)), .int (bI mi)])), (qa, .inl (cA, 1200, .inl (f)))] sz) [(h0, .inr (1, [.ref qw, .int pl, .int rg])), (qw, .inr (0, [.ref qa, .int (nI (a)), .int (nI (n)), .int (bI m2)])), (qa, .inl (cA, 1200, .inl (f)))]) (va_A [(h0, .inr (1, [.ref qw, .int pl, .int rg])), (qw, .inr (0, [.ref qa, .int (nI (a)), .int (nI (n)), .int (bI mi)])), (qa, .inl (cA, 1200, .inl (f)))] sz)) 0 0 (va_A [(h0, .inr (1, [.ref qw, .int pl, .int rg])), (qw, .inr (0, [.ref qa, .int (nI (a)), .int (nI (n)), .int (bI mi)])), (qa, .inl (cA, 1200, .inl (f)))] sz) := by
  refine Met.ofW (cc := b_CM_numberOf) (maxL := 3) (ret := (some .int)) (by decide) rfl ?_
  intro p e s m args below meth c s₁ B hml hv
  obtain ⟨rfl, hsz, hP, hK, hD0⟩ := hv
  have hx := B.exec
  have hb := B.bytes
  have hr := B.returns
  have hts := atoms_spec (ws := s_CM_numberOf) B.pre
  have hown : s.vm.findClass R_CM = some m.cls := findClass_of_methodNamed B.named
  have hlocks := B.notSynchronized
  subst hsz
  have hD := hD0.self (sz := s.heap.size)
  generalize hAe : va_A [(h0, .inr (1, [.ref qw, .int pl, .int rg])), (qw, .inr (0, [.ref qa, .int (nI (a)), .int (nI (n)), .int (bI mi)])), (qa, .inl (cA, 1200, .inl (f)))] s.heap.size = A at hD ⊢
  have hA : ∀ q : Nat, s.heap.size ≤ q → A q := fun q h => by rw [← hAe]; exact Or.inr h
  have hS : va_S A s.heap s.heap [] := va_S.rf
  have hP : va_P (dC, dI) cls_ [(h0, .inr (1, [.ref qw, .int pl, .int rg])), (qw, .inr (0, [.ref qa, .int (nI (a)), .int (nI (n)), .int (bI mi)])), (qa, .inl (cA, 1200, .inl (f)))] s.heap := hP
  have hl := lv_entry ([.ref h0, .int ch]) (n := 3) (Nat.le_of_ble_eq_true rfl)
  rw [lg_entry_eq]
  generalize (lg_sl ([.ref h0, .int ch]) ++ List.replicate (3 - (lg_sl ([.ref h0, .int ch])).length) Slot.unset).toArray = ls at hl ⊢
  have hl : lv_has ls 3 [(0, .ref h0), (1, .int ch)] := hl
  refine lv_iconst (v := 0) hx hb d_CM_numberOf_0 (by decide) ?_
  refine lv_istore_n (lv' := [(2, .int 0), (0, .ref h0), (1, .int ch)]) hx hb d_CM_numberOf_1 rfl hl (by decide) rfl (fun ls hl => ?_)
  have hP8 := hP.sub (ws' := [(h0, .inr (1, [.ref qw, .int pl, .int rg])), (qw, .inr (0, [.ref qa, .int (nI (a)), .int (nI (n)), .int (bI mi)])), (qa, .inl (cA, 1200, .inl (f)))]) [0, 1, 2] rfl
  have hD8 := hD.sub (ws' := [(h0, .inr (1, [.ref qw, .int pl, .int rg])), (qw, .inr (0, [.ref qa, .int (nI (a)), .int (nI (n)), .int (bI mi)])), (qa, .inl (cA, 1200, .inl (f)))]) [0, 1, 2] (by decide) rfl
  have hBe0 := cl_lt (rg)
  have hK9 := hK.sub (tys' := [(cA, .int)]) [0] rfl
  refine cm_number_loop hx hb hml hts hown hA dC dI h0 qw qa a n mi cA f pl rg ch (by omega) (by assumption) hK9 (fun k_195 m_196 hf_197 H locs ls hP hD hS hl => ?_) (fun k_198 m_199 hf_200 H locs ls hP hD hS hl => ?_) (rg.toNatClampNeg - 0 + 1) 0 mi (by omega) (by omega) s.heap _ ls hP8 hD8 hS (lv_sub hl [0, 1, 2] rfl)
  · skip
    have hBx0 := cl_lt (rg)
    have hK := hK9
    have hP : va_P (dC, dI) cls_ [(h0, .inr (1, [.ref qw, .int pl, .int rg])), (qw, .inr (0, [.ref qa, .int (nI (a)), .int (nI (n)), .int (bI m_196)])), (qa, .inl (cA, 1200, .inl (f)))] H := hP
    have hD : va_D A [(h0, .inr (1, [.ref qw, .int pl, .int rg])), (qw, .inr (0, [.ref qa, .int (nI (a)), .int (nI (n)), .int (bI m_196)])), (qa, .inl (cA, 1200, .inl (f)))] := hD
    have hK : va_K (dC, dI) cls_ [(cA, .int)] s := hK
    refine lv_aload_n hx hb d_CM_numberOf_19 rfl (lv_at hl 1 rfl) ?_
    refine lv_iload_n hx hb d_CM_numberOf_20 rfl (lv_at hl 0 rfl) ?_
    have hPc := hP.sub (ws' := [(h0, .inr (1, [.ref qw, .int pl, .int rg])), (qw, .inr (0, [.ref qa, .int (nI (a)), .int (nI (n)), .int (bI m_196)])), (qa, .inl (cA, 1200, .inl (f)))]) [0, 1, 2] rfl
    have hDc := hD.sub (ws' := [(h0, .inr (1, [.ref qw, .int pl, .int rg])), (qw, .inr (0, [.ref qa, .int (nI (a)), .int (nI (n)), .int (bI m_196)])), (qa, .inl (cA, 1200, .inl (f)))]) [0, 1, 2] (by decide) rfl
    have hKc := hK.sub (tys' := [(cA, .int)]) [0] rfl
    have hFc := va_free (wc := [(h0, .inr (1, [.ref qw, .int pl, .int rg])), (qw, .inr (0, [.ref qa, .int (nI (a)), .int (nI (n)), .int (bI m_196)])), (qa, .inl (cA, 1200, .inl (f)))]) hD hS hA [0, 1, 2] rfl
    refine va_calli (va_runV (As := [.int (nI (k_195))]) (rest := []) ⟨hx, hb, hml, hown, hts⟩ (g_CM_first l dC dI h0 qw qa a n m_196 cA f pl rg (nI (k_195)) H.size (by omega) (by assumption)) (cwV 1 hts (tw_inV w_444 w_446 wp_11 w_5 w_447) rfl rfl rfl (by decide +kernel) ⟨Nat.le_of_ble_eq_true rfl, Nat.le_of_ble_eq_true rfl⟩) ⟨fun a U g mk q => by obtain ⟨q0, q1, qP, qK, qD⟩ := q; exact ⟨q0, q1, qP, va_K.moved (u := U) (U := U.calling g mk a) (Vm.Alike.refl U.vm) qK, qD⟩, va_recv (hK := hK) (hP := hP) (q0 := 0) (ci := 1) rfl rfl, fun U hU hW => ⟨rfl, by rw [hU], by rw [hU]; exact hPc, va_K.moved hW.alike hKc, hDc.weaken (fun _ _ _ _ => trivial)⟩⟩ rfl rfl hl.1 rfl (lv_room (Nat.le_of_ble_eq_true rfl)) d_CM_numberOf_21 ⟨Nat.le_of_ble_eq_true rfl, Nat.le_of_ble_eq_true rfl⟩) hS (fun q _ h => hFc q h) hFc (fun r201 u t H1 locs ht hvm hw hB hz1 hk1 hS => ?_)
    obtain ⟨m_202, hP1, hK1, hD1⟩ := hB
    rw [ht] at hP1
    have hK1 := va_K.moved hvm.symm hK1
    obtain ⟨hP, hD⟩ := va_join (wr := []) (w1 := [(h0, .inr (1, [.ref qw, .int pl, .int rg])), (qw, .inr (0, [.ref qa, .int (nI (a)), .int (nI (n)), .int (bI m_202)])), (qa, .inl (cA, 1200, .inl (f)))]) hP hD [0, 1, 2] [] rfl rfl (by decide) (by decide) hk1 hFc hP1 hD1
    have hK := (hK.sub (tys' := []) [] rfl).app hK1
    generalize H1 = H at hP hS ⊢
    have hP : va_P (dC, dI) cls_ [(h0, .inr (1, [.ref qw, .int pl, .int rg])), (qw, .inr (0, [.ref qa, .int (nI (a)), .int (nI (n)), .int (bI m_202)])), (qa, .inl (cA, 1200, .inl (f)))] H := hP
    have hD : va_D A [(h0, .inr (1, [.ref qw, .int pl, .int rg])), (qw, .inr (0, [.ref qa, .int (nI (a)), .int (nI (n)), .int (bI m_202)])), (qa, .inl (cA, 1200, .inl (f)))] := hD
    have hK : va_K (dC, dI) cls_ [(cA, .int)] s := hK
    have hw_r201 := hw
    obtain ⟨kn203, hb_kn203, rfl⟩ := hw_r201
    refine lv_iload_n hx hb d_CM_numberOf_24 rfl (lv_at hl 2 rfl) ?_
    refine lv_icmp_le (tgt := 32) hx hb d_CM_numberOf_25 (by decide) (fun hc204 => ?_) (fun hc204 => ?_)
    · skip
      refine lv_aload_n hx hb d_CM_numberOf_32 rfl (lv_at hl 1 rfl) ?_
      refine lv_iload_n hx hb d_CM_numberOf_33 rfl (lv_at hl 0 rfl) ?_
      refine lv_iload_n hx hb d_CM_numberOf_34 rfl (lv_at hl 2 rfl) ?_
      have hPc := hP.sub (ws' := [(h0, .inr (1, [.ref qw, .int pl, .int rg])), (qw, .inr (0, [.ref qa, .int (nI (a)), .int (nI (n)), .int (bI m_202)])), (qa, .inl (cA, 1200, .inl (f)))]) [0, 1, 2] rfl
      have hDc := hD.sub (ws' := [(h0, .inr (1, [.ref qw, .int pl, .int rg])), (qw, .inr (0, [.ref qa, .int (nI (a)), .int (nI (n)), .int (bI m_202)])), (qa, .inl (cA, 1200, .inl (f)))]) [0, 1, 2] (by decide) rfl
      have hKc := hK.sub (tys' := [(cA, .int)]) [0] rfl
      have hFc := va_free (wc := [(h0, .inr (1, [.ref qw, .int pl, .int rg])), (qw, .inr (0, [.ref qa, .int (nI (a)), .int (nI (n)), .int (bI m_202)])), (qa, .inl (cA, 1200, .inl (f)))]) hD hS hA [0, 1, 2] rfl
      refine va_calli (va_runV (As := [.int (nI (k_195)), .int ch]) (rest := []) ⟨hx, hb, hml, hown, hts⟩ (g_CM_numberIn l dC dI h0 qw qa a n m_202 cA f pl rg (nI (k_195)) ch H.size (by omega) (by assumption)) (cwV 2 hts (tw_inV w_687 w_689 wp_23 w_5 w_690) rfl rfl rfl (by decide +kernel) ⟨Nat.le_of_ble_eq_true rfl, Nat.le_of_ble_eq_true rfl⟩) ⟨fun a U g mk q => by obtain ⟨q0, q1, qP, qK, qD⟩ := q; exact ⟨q0, q1, qP, va_K.moved (u := U) (U := U.calling g mk a) (Vm.Alike.refl U.vm) qK, qD⟩, va_recv (hK := hK) (hP := hP) (q0 := 0) (ci := 1) rfl rfl, fun U hU hW => ⟨rfl, by rw [hU], by rw [hU]; exact hPc, va_K.moved hW.alike hKc, hDc.weaken (fun _ _ _ _ => trivial)⟩⟩ rfl rfl hl.1 rfl (lv_room (Nat.le_of_ble_eq_true rfl)) d_CM_numberOf_35 ⟨Nat.le_of_ble_eq_true rfl, Nat.le_of_ble_eq_true rfl⟩) hS (fun q _ h => hFc q h) hFc (fun r205 u t H1 locs ht hvm hw hB hz1 hk1 hS => ?_)
      obtain ⟨m_206, hP1, hK1, hD1⟩ := hB
      rw [ht] at hP1
      have hK1 := va_K.moved hvm.symm hK1
      obtain ⟨hP, hD⟩ := va_join (wr := []) (w1 := [(h0, .inr (1, [.ref qw, .int pl, .int rg])), (qw, .inr (0, [.ref qa, .int (nI (a)), .int (nI (n)), .int (bI m_206)])), (qa, .inl (cA, 1200, .inl (f)))]) hP hD [0, 1, 2] [] rfl rfl (by decide) (by decide) hk1 hFc hP1 hD1
      have hK := (hK.sub (tys' := []) [] rfl).app hK1
      generalize H1 = H at hP hS ⊢
      have hP : va_P (dC, dI) cls_ [(h0, .inr (1, [.ref qw, .int pl, .int rg])), (qw, .inr (0, [.ref qa, .int (nI (a)), .int (nI (n)), .int (bI m_206)])), (qa, .inl (cA, 1200, .inl (f)))] H := hP
      have hD : va_D A [(h0, .inr (1, [.ref qw, .int pl, .int rg])), (qw, .inr (0, [.ref qa, .int (nI (a)), .int (nI (n)), .int (bI m_206)])), (qa, .inl (cA, 1200, .inl (f)))] := hD
      have hK : va_K (dC, dI) cls_ [(cA, .int)] s := hK
      have hw_r205 := hw
      refine W.widen (k := 0) (n := 0) (Nat.le_of_ble_eq_true rfl) (Nat.le_of_ble_eq_true rfl) ?_
      have hP9 := hP.sub (ws' := [(h0, .inr (1, [.ref qw, .int pl, .int rg])), (qw, .inr (0, [.ref qa, .int (nI (a)), .int (nI (n)), .int (bI m_206)])), (qa, .inl (cA, 1200, .inl (f)))]) [0, 1, 2] rfl
      have hD9 := hD.sub (ws' := [(h0, .inr (1, [.ref qw, .int pl, .int rg])), (qw, .inr (0, [.ref qa, .int (nI (a)), .int (nI (n)), .int (bI m_206)])), (qa, .inl (cA, 1200, .inl (f)))]) [0, 1, 2] (by decide) rfl
      have hK9 := hK.sub (tys' := [(cA, .int)]) [0] rfl
      exact W.iret (v := r205) hx hb hr (fun t ht hW => ⟨⟨r205, (), rfl, trivial, m_206, by rw [ht]; exact hP9, va_K.moved hW.alike hK9, hD9⟩, hS.F ht⟩) hS.2.2 d_CM_numberOf_38
    · skip
      refine lv_iconst (v := 0) hx hb d_CM_numberOf_28 (by decide) ?_
      refine lv_goto (tgt := 38) hx hb d_CM_numberOf_29 (by decide) ?_
      refine W.widen (k := 0) (n := 0) (Nat.le_of_ble_eq_true rfl) (Nat.le_of_ble_eq_true rfl) ?_
      have hP9 := hP.sub (ws' := [(h0, .inr (1, [.ref qw, .int pl, .int rg])), (qw, .inr (0, [.ref qa, .int (nI (a)), .int (nI (n)), .int (bI m_202)])), (qa, .inl (cA, 1200, .inl (f)))]) [0, 1, 2] rfl
      have hD9 := hD.sub (ws' := [(h0, .inr (1, [.ref qw, .int pl, .int rg])), (qw, .inr (0, [.ref qa, .int (nI (a)), .int (nI (n)), .int (bI m_202)])), (qa, .inl (cA, 1200, .inl (f)))]) [0, 1, 2] (by decide) rfl
      have hK9 := hK.sub (tys' := [(cA, .int)]) [0] rfl
      exact W.iret (v := 0) hx hb hr (fun t ht hW => ⟨⟨0, (), rfl, trivial, m_202, by rw [ht]; exact hP9, va_K.moved hW.alike hK9, hD9⟩, hS.F ht⟩) hS.2.2 d_CM_numberOf_38
  · skip
    have hBx0 := cl_lt (rg)
    have hK := hK9
    have hP : va_P (dC, dI) cls_ [(h0, .inr (1, [.ref qw, .int pl, .int rg])), (qw, .inr (0, [.ref qa, .int (nI (a)), .int (nI (n)), .int (bI m_199)])), (qa, .inl (cA, 1200, .inl (f)))] H := hP
    have hD : va_D A [(h0, .inr (1, [.ref qw, .int pl, .int rg])), (qw, .inr (0, [.ref qa, .int (nI (a)), .int (nI (n)), .int (bI m_199)])), (qa, .inl (cA, 1200, .inl (f)))] := hD
    have hK : va_K (dC, dI) cls_ [(cA, .int)] s := hK
    refine lv_iconst (v := 0) hx hb d_CM_numberOf_45 (by decide) ?_
    refine W.widen (k := 0) (n := 0) (Nat.le_of_ble_eq_true rfl) (Nat.le_of_ble_eq_true rfl) ?_
    have hP9 := hP.sub (ws' := [(h0, .inr (1, [.ref qw, .int pl, .int rg])), (qw, .inr (0, [.ref qa, .int (nI (a)), .int (nI (n)), .int (bI m_199)])), (qa, .inl (cA, 1200, .inl (f)))]) [0, 1, 2] rfl
    have hD9 := hD.sub (ws' := [(h0, .inr (1, [.ref qw, .int pl, .int rg])), (qw, .inr (0, [.ref qa, .int (nI (a)), .int (nI (n)), .int (bI m_199)])), (qa, .inl (cA, 1200, .inl (f)))]) [0, 1, 2] (by decide) rfl
    have hK9 := hK.sub (tys' := [(cA, .int)]) [0] rfl
    exact W.iret (v := 0) hx hb hr (fun t ht hW => ⟨⟨0, (), rfl, trivial, m_199, by rw [ht]; exact hP9, va_K.moved hW.alike hK9, hD9⟩, hS.F ht⟩) hS.2.2 d_CM_numberOf_46
set_option maxHeartbeats 8000000 in
set_option maxRecDepth 100000 in
/-- a loop of GlyphLines$CharacterMap.rangesAreRight -/
theorem cm_ranges_loop {p : Program} {l : Launch} {e : Env} {s : State} {m : MethodId} {args : Array Value} {below : List Frame} {meth : Method} {c : Code} {Q : State → Prop} {A : Nat → Prop} (hx : p.tables.exec = Jvm.exec) (hb : c.code = b_CM_rangesAreRight) (hml : c.maxLocals = 3) (hts : ∀ w ∈ s_CM_rangesAreRight, w.before args s = true) (hown : s.vm.findClass R_CM = some m.cls) (hA : ∀ q : Nat, s.heap.size ≤ q → A q) (dC : Nat → ClassId) (dI : Nat → Nat → Nat) (h0 : Nat) (qw : Nat) (qa : Nat) (a : Nat) (n : Nat) (mi : Bool) (cA : ClassId) (f : Nat → Int32) (pl : Int32) (rg : Int32) (hq0 : a + n ≤ 1200) (hq1 : isB f) (hK : va_K (dC, dI) cls_ [(cA, .int)] s)
    (kx34 : ∀ (k : Nat) (bf : Int32) (m3 : Bool), (k ≤ rg.toNatClampNeg) → ∀ (H : Heap) (locs : List Loc) (ls : Array Slot), va_P (dC, dI) cls_ [(h0, .inr (1, [.ref qw, .int pl, .int rg])), (qw, .inr (0, [.ref qa, .int (nI (a)), .int (nI (n)), .int (bI m3)])), (qa, .inl (cA, 1200, .inl (f)))] H → va_D A [(h0, .inr (1, [.ref qw, .int pl, .int rg])), (qw, .inr (0, [.ref qa, .int (nI (a)), .int (nI (n)), .int (bI m3)])), (qa, .inl (cA, 1200, .inl (f)))] → va_S A s.heap H locs → lv_has ls 3 [(2, .int (nI (k))), (1, .int bf), (0, .ref h0)] → W p l e (headSpec s_CM_rangesAreRight ({ frames := 14, cells := 0, slots := 0, locals := 500 })).room s m args below meth c H locs 0 0 Q (F0 m 34 ls []))
    (kx48 : ∀ (k : Nat) (bf : Int32) (m3 : Bool), (k ≤ rg.toNatClampNeg) → ∀ (H : Heap) (locs : List Loc) (ls : Array Slot), va_P (dC, dI) cls_ [(h0, .inr (1, [.ref qw, .int pl, .int rg])), (qw, .inr (0, [.ref qa, .int (nI (a)), .int (nI (n)), .int (bI m3)])), (qa, .inl (cA, 1200, .inl (f)))] H → va_D A [(h0, .inr (1, [.ref qw, .int pl, .int rg])), (qw, .inr (0, [.ref qa, .int (nI (a)), .int (nI (n)), .int (bI m3)])), (qa, .inl (cA, 1200, .inl (f)))] → va_S A s.heap H locs → lv_has ls 3 [(2, .int (nI (k))), (1, .int bf), (0, .ref h0)] → W p l e (headSpec s_CM_rangesAreRight ({ frames := 14, cells := 0, slots := 0, locals := 500 })).room s m args below meth c H locs 0 0 Q (F0 m 48 ls []))
    : ∀ (fu : Nat) (k : Nat) (bf : Int32) (m3 : Bool), (k ≤ rg.toNatClampNeg) → rg.toNatClampNeg - k < fu → ∀ (H : Heap) (locs : List Loc) (ls : Array Slot), va_P (dC, dI) cls_ [(h0, .inr (1, [.ref qw, .int pl, .int rg])), (qw, .inr (0, [.ref qa, .int (nI (a)), .int (nI (n)), .int (bI m3)])), (qa, .inl (cA, 1200, .inl (f)))] H → va_D A [(h0, .inr (1, [.ref qw, .int pl, .int rg])), (qw, .inr (0, [.ref qa, .int (nI (a)), .int (nI (n)), .int (bI m3)])), (qa, .inl (cA, 1200, .inl (f)))] → va_S A s.heap H locs → lv_has ls 3 [(2, .int (nI (k))), (1, .int bf), (0, .ref h0)] → W p l e (headSpec s_CM_rangesAreRight ({ frames := 14, cells := 0, slots := 0, locals := 500 })).room s m args below meth c H locs 0 0 Q (F0 m 4 ls []) := by
  intro fu
  induction fu with
  | zero => intro k bf m3 hf0 hm; exact absurd hm (Nat.not_lt_zero _)
  | succ fu ih =>
    intro k bf m3 hf0 hm H locs ls hP hD hS hl
    have hB0 := cl_lt (rg)
    refine lv_iload_n hx hb d_CM_rangesAreRight_4 rfl (lv_at hl 0 rfl) ?_
    refine lv_aload_n hx hb d_CM_rangesAreRight_5 rfl (lv_at hl 2 rfl) ?_
    refine va_get (D := (dC, dI)) (ci := 1) (v := .int rg) (C := R_CM) (T := F_CM) (N := 3) hx hb hts in_CM hown hK hP 0 rfl rfl 2 (by decide) (hts _ (List.mem_cons_of_mem _ w_92)) (fun _ h9 => h9) rfl d_CM_rangesAreRight_6 ?_
    refine lv_icmp_ge (tgt := 48) hx hb d_CM_rangesAreRight_9 (by decide) (fun hc207 => ?_) (fun hc207 => ?_)
    · skip
      have hP8 := hP.sub (ws' := [(h0, .inr (1, [.ref qw, .int pl, .int rg])), (qw, .inr (0, [.ref qa, .int (nI (a)), .int (nI (n)), .int (bI m3)])), (qa, .inl (cA, 1200, .inl (f)))]) [0, 1, 2] rfl
      have hD8 := hD.sub (ws' := [(h0, .inr (1, [.ref qw, .int pl, .int rg])), (qw, .inr (0, [.ref qa, .int (nI (a)), .int (nI (n)), .int (bI m3)])), (qa, .inl (cA, 1200, .inl (f)))]) [0, 1, 2] (by decide) rfl
      exact kx48 k bf m3 (by omega) H locs ls hP8 hD8 hS (lv_sub hl [0, 1, 2] rfl)
    · skip
      have hc207B := cl_lt (rg)
      have hc207n : k < (rg).toNatClampNeg := cl_of (k := k) (by omega) hc207
      refine lv_aload_n hx hb d_CM_rangesAreRight_12 rfl (lv_at hl 2 rfl) ?_
      refine lv_iload_n hx hb d_CM_rangesAreRight_13 rfl (lv_at hl 0 rfl) ?_
      have hPc := hP.sub (ws' := [(h0, .inr (1, [.ref qw, .int pl, .int rg])), (qw, .inr (0, [.ref qa, .int (nI (a)), .int (nI (n)), .int (bI m3)])), (qa, .inl (cA, 1200, .inl (f)))]) [0, 1, 2] rfl
      have hDc := hD.sub (ws' := [(h0, .inr (1, [.ref qw, .int pl, .int rg])), (qw, .inr (0, [.ref qa, .int (nI (a)), .int (nI (n)), .int (bI m3)])), (qa, .inl (cA, 1200, .inl (f)))]) [0, 1, 2] (by decide) rfl
      have hKc := hK.sub (tys' := [(cA, .int)]) [0] rfl
      have hFc := va_free (wc := [(h0, .inr (1, [.ref qw, .int pl, .int rg])), (qw, .inr (0, [.ref qa, .int (nI (a)), .int (nI (n)), .int (bI m3)])), (qa, .inl (cA, 1200, .inl (f)))]) hD hS hA [0, 1, 2] rfl
      refine va_calli (va_runV (As := [.int (nI (k))]) (rest := []) ⟨hx, hb, hml, hown, hts⟩ (g_CM_last l dC dI h0 qw qa a n m3 cA f pl rg (nI (k)) H.size (by omega) (by assumption)) (cwV 1 hts (tw_inV w_440 w_442 wp_10 w_5 w_443) rfl rfl rfl (by decide +kernel) ⟨Nat.le_of_ble_eq_true rfl, Nat.le_of_ble_eq_true rfl⟩) ⟨fun a U g mk q => by obtain ⟨q0, q1, qP, qK, qD⟩ := q; exact ⟨q0, q1, qP, va_K.moved (u := U) (U := U.calling g mk a) (Vm.Alike.refl U.vm) qK, qD⟩, va_recv (hK := hK) (hP := hP) (q0 := 0) (ci := 1) rfl rfl, fun U hU hW => ⟨rfl, by rw [hU], by rw [hU]; exact hPc, va_K.moved hW.alike hKc, hDc.weaken (fun _ _ _ _ => trivial)⟩⟩ rfl rfl hl.1 rfl (lv_room (Nat.le_of_ble_eq_true rfl)) d_CM_rangesAreRight_14 ⟨Nat.le_of_ble_eq_true rfl, Nat.le_of_ble_eq_true rfl⟩) hS (fun q _ h => hFc q h) hFc (fun r208 u t H1 locs ht hvm hw hB hz1 hk1 hS => ?_)
      obtain ⟨m_209, hP1, hK1, hD1⟩ := hB
      rw [ht] at hP1
      have hK1 := va_K.moved hvm.symm hK1
      obtain ⟨hP, hD⟩ := va_join (wr := []) (w1 := [(h0, .inr (1, [.ref qw, .int pl, .int rg])), (qw, .inr (0, [.ref qa, .int (nI (a)), .int (nI (n)), .int (bI m_209)])), (qa, .inl (cA, 1200, .inl (f)))]) hP hD [0, 1, 2] [] rfl rfl (by decide) (by decide) hk1 hFc hP1 hD1
      have hK := (hK.sub (tys' := []) [] rfl).app hK1
      generalize H1 = H at hP hS ⊢
      have hP : va_P (dC, dI) cls_ [(h0, .inr (1, [.ref qw, .int pl, .int rg])), (qw, .inr (0, [.ref qa, .int (nI (a)), .int (nI (n)), .int (bI m_209)])), (qa, .inl (cA, 1200, .inl (f)))] H := hP
      have hD : va_D A [(h0, .inr (1, [.ref qw, .int pl, .int rg])), (qw, .inr (0, [.ref qa, .int (nI (a)), .int (nI (n)), .int (bI m_209)])), (qa, .inl (cA, 1200, .inl (f)))] := hD
      have hK : va_K (dC, dI) cls_ [(cA, .int)] s := hK
      have hw_r208 := hw
      obtain ⟨kn210, hb_kn210, rfl⟩ := hw_r208
      refine lv_iload_n hx hb d_CM_rangesAreRight_17 rfl (lv_at hl 1 rfl) ?_
      refine lv_icmp_le (tgt := 34) hx hb d_CM_rangesAreRight_18 (by decide) (fun hc211 => ?_) (fun hc211 => ?_)
      · skip
        have hP8 := hP.sub (ws' := [(h0, .inr (1, [.ref qw, .int pl, .int rg])), (qw, .inr (0, [.ref qa, .int (nI (a)), .int (nI (n)), .int (bI m_209)])), (qa, .inl (cA, 1200, .inl (f)))]) [0, 1, 2] rfl
        have hD8 := hD.sub (ws' := [(h0, .inr (1, [.ref qw, .int pl, .int rg])), (qw, .inr (0, [.ref qa, .int (nI (a)), .int (nI (n)), .int (bI m_209)])), (qa, .inl (cA, 1200, .inl (f)))]) [0, 1, 2] (by decide) rfl
        exact kx34 k bf m_209 (by omega) H locs ls hP8 hD8 hS (lv_sub hl [0, 1, 2] rfl)
      · skip
        refine lv_aload_n hx hb d_CM_rangesAreRight_21 rfl (lv_at hl 2 rfl) ?_
        refine lv_iload_n hx hb d_CM_rangesAreRight_22 rfl (lv_at hl 0 rfl) ?_
        have hPc := hP.sub (ws' := [(h0, .inr (1, [.ref qw, .int pl, .int rg])), (qw, .inr (0, [.ref qa, .int (nI (a)), .int (nI (n)), .int (bI m_209)])), (qa, .inl (cA, 1200, .inl (f)))]) [0, 1, 2] rfl
        have hDc := hD.sub (ws' := [(h0, .inr (1, [.ref qw, .int pl, .int rg])), (qw, .inr (0, [.ref qa, .int (nI (a)), .int (nI (n)), .int (bI m_209)])), (qa, .inl (cA, 1200, .inl (f)))]) [0, 1, 2] (by decide) rfl
        have hKc := hK.sub (tys' := [(cA, .int)]) [0] rfl
        have hFc := va_free (wc := [(h0, .inr (1, [.ref qw, .int pl, .int rg])), (qw, .inr (0, [.ref qa, .int (nI (a)), .int (nI (n)), .int (bI m_209)])), (qa, .inl (cA, 1200, .inl (f)))]) hD hS hA [0, 1, 2] rfl
        refine va_calli (va_runV (As := [.int (nI (k))]) (rest := []) ⟨hx, hb, hml, hown, hts⟩ (g_CM_first l dC dI h0 qw qa a n m_209 cA f pl rg (nI (k)) H.size (by omega) (by assumption)) (cwV 1 hts (tw_inV w_444 w_446 wp_11 w_5 w_447) rfl rfl rfl (by decide +kernel) ⟨Nat.le_of_ble_eq_true rfl, Nat.le_of_ble_eq_true rfl⟩) ⟨fun a U g mk q => by obtain ⟨q0, q1, qP, qK, qD⟩ := q; exact ⟨q0, q1, qP, va_K.moved (u := U) (U := U.calling g mk a) (Vm.Alike.refl U.vm) qK, qD⟩, va_recv (hK := hK) (hP := hP) (q0 := 0) (ci := 1) rfl rfl, fun U hU hW => ⟨rfl, by rw [hU], by rw [hU]; exact hPc, va_K.moved hW.alike hKc, hDc.weaken (fun _ _ _ _ => trivial)⟩⟩ rfl rfl hl.1 rfl (lv_room (Nat.le_of_ble_eq_true rfl)) d_CM_rangesAreRight_23 ⟨Nat.le_of_ble_eq_true rfl, Nat.le_of_ble_eq_true rfl⟩) hS (fun q _ h => hFc q h) hFc (fun r212 u t H1 locs ht hvm hw hB hz1 hk1 hS => ?_)
        obtain ⟨m_213, hP1, hK1, hD1⟩ := hB
        rw [ht] at hP1
        have hK1 := va_K.moved hvm.symm hK1
        obtain ⟨hP, hD⟩ := va_join (wr := []) (w1 := [(h0, .inr (1, [.ref qw, .int pl, .int rg])), (qw, .inr (0, [.ref qa, .int (nI (a)), .int (nI (n)), .int (bI m_213)])), (qa, .inl (cA, 1200, .inl (f)))]) hP hD [0, 1, 2] [] rfl rfl (by decide) (by decide) hk1 hFc hP1 hD1
        have hK := (hK.sub (tys' := []) [] rfl).app hK1
        generalize H1 = H at hP hS ⊢
        have hP : va_P (dC, dI) cls_ [(h0, .inr (1, [.ref qw, .int pl, .int rg])), (qw, .inr (0, [.ref qa, .int (nI (a)), .int (nI (n)), .int (bI m_213)])), (qa, .inl (cA, 1200, .inl (f)))] H := hP
        have hD : va_D A [(h0, .inr (1, [.ref qw, .int pl, .int rg])), (qw, .inr (0, [.ref qa, .int (nI (a)), .int (nI (n)), .int (bI m_213)])), (qa, .inl (cA, 1200, .inl (f)))] := hD
        have hK : va_K (dC, dI) cls_ [(cA, .int)] s := hK
        have hw_r212 := hw
        obtain ⟨kn214, hb_kn214, rfl⟩ := hw_r212
        refine lv_aload_n hx hb d_CM_rangesAreRight_26 rfl (lv_at hl 2 rfl) ?_
        refine lv_iload_n hx hb d_CM_rangesAreRight_27 rfl (lv_at hl 0 rfl) ?_
        have hPc := hP.sub (ws' := [(h0, .inr (1, [.ref qw, .int pl, .int rg])), (qw, .inr (0, [.ref qa, .int (nI (a)), .int (nI (n)), .int (bI m_213)])), (qa, .inl (cA, 1200, .inl (f)))]) [0, 1, 2] rfl
        have hDc := hD.sub (ws' := [(h0, .inr (1, [.ref qw, .int pl, .int rg])), (qw, .inr (0, [.ref qa, .int (nI (a)), .int (nI (n)), .int (bI m_213)])), (qa, .inl (cA, 1200, .inl (f)))]) [0, 1, 2] (by decide) rfl
        have hKc := hK.sub (tys' := [(cA, .int)]) [0] rfl
        have hFc := va_free (wc := [(h0, .inr (1, [.ref qw, .int pl, .int rg])), (qw, .inr (0, [.ref qa, .int (nI (a)), .int (nI (n)), .int (bI m_213)])), (qa, .inl (cA, 1200, .inl (f)))]) hD hS hA [0, 1, 2] rfl
        refine va_calli (va_runV (As := [.int (nI (k))]) (rest := [.int (nI (kn214))]) ⟨hx, hb, hml, hown, hts⟩ (g_CM_last l dC dI h0 qw qa a n m_213 cA f pl rg (nI (k)) H.size (by omega) (by assumption)) (cwV 1 hts (tw_inV w_440 w_442 wp_10 w_5 w_443) rfl rfl rfl (by decide +kernel) ⟨Nat.le_of_ble_eq_true rfl, Nat.le_of_ble_eq_true rfl⟩) ⟨fun a U g mk q => by obtain ⟨q0, q1, qP, qK, qD⟩ := q; exact ⟨q0, q1, qP, va_K.moved (u := U) (U := U.calling g mk a) (Vm.Alike.refl U.vm) qK, qD⟩, va_recv (hK := hK) (hP := hP) (q0 := 0) (ci := 1) rfl rfl, fun U hU hW => ⟨rfl, by rw [hU], by rw [hU]; exact hPc, va_K.moved hW.alike hKc, hDc.weaken (fun _ _ _ _ => trivial)⟩⟩ rfl rfl hl.1 rfl (lv_room (Nat.le_of_ble_eq_true rfl)) d_CM_rangesAreRight_28 ⟨Nat.le_of_ble_eq_true rfl, Nat.le_of_ble_eq_true rfl⟩) hS (fun q _ h => hFc q h) hFc (fun r215 u t H1 locs ht hvm hw hB hz1 hk1 hS => ?_)
        obtain ⟨m_216, hP1, hK1, hD1⟩ := hB
        rw [ht] at hP1
        have hK1 := va_K.moved hvm.symm hK1
        obtain ⟨hP, hD⟩ := va_join (wr := []) (w1 := [(h0, .inr (1, [.ref qw, .int pl, .int rg])), (qw, .inr (0, [.ref qa, .int (nI (a)), .int (nI (n)), .int (bI m_216)])), (qa, .inl (cA, 1200, .inl (f)))]) hP hD [0, 1, 2] [] rfl rfl (by decide) (by decide) hk1 hFc hP1 hD1
        have hK := (hK.sub (tys' := []) [] rfl).app hK1
        generalize H1 = H at hP hS ⊢
        have hP : va_P (dC, dI) cls_ [(h0, .inr (1, [.ref qw, .int pl, .int rg])), (qw, .inr (0, [.ref qa, .int (nI (a)), .int (nI (n)), .int (bI m_216)])), (qa, .inl (cA, 1200, .inl (f)))] H := hP
        have hD : va_D A [(h0, .inr (1, [.ref qw, .int pl, .int rg])), (qw, .inr (0, [.ref qa, .int (nI (a)), .int (nI (n)), .int (bI m_216)])), (qa, .inl (cA, 1200, .inl (f)))] := hD
        have hK : va_K (dC, dI) cls_ [(cA, .int)] s := hK
        have hw_r215 := hw
        obtain ⟨kn217, hb_kn217, rfl⟩ := hw_r215
        refine lv_icmp_le (tgt := 36) hx hb d_CM_rangesAreRight_31 (by decide) (fun hc218 => ?_) (fun hc218 => ?_)
        · skip
          have hc218n : kn214 ≤ kn217 := (nI_leI (a := kn214) (b := kn217) (by omega) (by omega)).mp hc218
          refine lv_aload_n hx hb d_CM_rangesAreRight_36 rfl (lv_at hl 2 rfl) ?_
          refine lv_iload_n hx hb d_CM_rangesAreRight_37 rfl (lv_at hl 0 rfl) ?_
          have hPc := hP.sub (ws' := [(h0, .inr (1, [.ref qw, .int pl, .int rg])), (qw, .inr (0, [.ref qa, .int (nI (a)), .int (nI (n)), .int (bI m_216)])), (qa, .inl (cA, 1200, .inl (f)))]) [0, 1, 2] rfl
          have hDc := hD.sub (ws' := [(h0, .inr (1, [.ref qw, .int pl, .int rg])), (qw, .inr (0, [.ref qa, .int (nI (a)), .int (nI (n)), .int (bI m_216)])), (qa, .inl (cA, 1200, .inl (f)))]) [0, 1, 2] (by decide) rfl
          have hKc := hK.sub (tys' := [(cA, .int)]) [0] rfl
          have hFc := va_free (wc := [(h0, .inr (1, [.ref qw, .int pl, .int rg])), (qw, .inr (0, [.ref qa, .int (nI (a)), .int (nI (n)), .int (bI m_216)])), (qa, .inl (cA, 1200, .inl (f)))]) hD hS hA [0, 1, 2] rfl
          refine va_calli (va_runV (As := [.int (nI (k))]) (rest := []) ⟨hx, hb, hml, hown, hts⟩ (g_CM_last l dC dI h0 qw qa a n m_216 cA f pl rg (nI (k)) H.size (by omega) (by assumption)) (cwV 1 hts (tw_inV w_440 w_442 wp_10 w_5 w_443) rfl rfl rfl (by decide +kernel) ⟨Nat.le_of_ble_eq_true rfl, Nat.le_of_ble_eq_true rfl⟩) ⟨fun a U g mk q => by obtain ⟨q0, q1, qP, qK, qD⟩ := q; exact ⟨q0, q1, qP, va_K.moved (u := U) (U := U.calling g mk a) (Vm.Alike.refl U.vm) qK, qD⟩, va_recv (hK := hK) (hP := hP) (q0 := 0) (ci := 1) rfl rfl, fun U hU hW => ⟨rfl, by rw [hU], by rw [hU]; exact hPc, va_K.moved hW.alike hKc, hDc.weaken (fun _ _ _ _ => trivial)⟩⟩ rfl rfl hl.1 rfl (lv_room (Nat.le_of_ble_eq_true rfl)) d_CM_rangesAreRight_38 ⟨Nat.le_of_ble_eq_true rfl, Nat.le_of_ble_eq_true rfl⟩) hS (fun q _ h => hFc q h) hFc (fun r219 u t H1 locs ht hvm hw hB hz1 hk1 hS => ?_)
          obtain ⟨m_220, hP1, hK1, hD1⟩ := hB
          rw [ht] at hP1
          have hK1 := va_K.moved hvm.symm hK1
          obtain ⟨hP, hD⟩ := va_join (wr := []) (w1 := [(h0, .inr (1, [.ref qw, .int pl, .int rg])), (qw, .inr (0, [.ref qa, .int (nI (a)), .int (nI (n)), .int (bI m_220)])), (qa, .inl (cA, 1200, .inl (f)))]) hP hD [0, 1, 2] [] rfl rfl (by decide) (by decide) hk1 hFc hP1 hD1
          have hK := (hK.sub (tys' := []) [] rfl).app hK1
          generalize H1 = H at hP hS ⊢
          have hP : va_P (dC, dI) cls_ [(h0, .inr (1, [.ref qw, .int pl, .int rg])), (qw, .inr (0, [.ref qa, .int (nI (a)), .int (nI (n)), .int (bI m_220)])), (qa, .inl (cA, 1200, .inl (f)))] H := hP
          have hD : va_D A [(h0, .inr (1, [.ref qw, .int pl, .int rg])), (qw, .inr (0, [.ref qa, .int (nI (a)), .int (nI (n)), .int (bI m_220)])), (qa, .inl (cA, 1200, .inl (f)))] := hD
          have hK : va_K (dC, dI) cls_ [(cA, .int)] s := hK
          have hw_r219 := hw
          obtain ⟨kn221, hb_kn221, rfl⟩ := hw_r219
          refine lv_istore_n (lv' := [(1, .int (nI (kn221))), (2, .int (nI (k))), (0, .ref h0)]) hx hb d_CM_rangesAreRight_41 rfl hl (by decide) rfl (fun ls hl => ?_)
          refine lv_iinc (k := 1) (v := nI (k + 1)) (lv' := [(2, .int (nI (k + 1))), (1, .int (nI (kn221))), (0, .ref h0)]) hx hb d_CM_rangesAreRight_42 hl rfl (nI_add (k) 1) (by decide) rfl (fun ls hl => ?_)
          refine lv_goto (tgt := 4) hx hb d_CM_rangesAreRight_45 (by decide) ?_
          have hP8 := hP.sub (ws' := [(h0, .inr (1, [.ref qw, .int pl, .int rg])), (qw, .inr (0, [.ref qa, .int (nI (a)), .int (nI (n)), .int (bI m_220)])), (qa, .inl (cA, 1200, .inl (f)))]) [0, 1, 2] rfl
          have hD8 := hD.sub (ws' := [(h0, .inr (1, [.ref qw, .int pl, .int rg])), (qw, .inr (0, [.ref qa, .int (nI (a)), .int (nI (n)), .int (bI m_220)])), (qa, .inl (cA, 1200, .inl (f)))]) [0, 1, 2] (by decide) rfl
          exact ih (k + 1) (nI (kn221)) m_220 (by omega) (by omega) H locs ls hP8 hD8 hS (lv_sub hl [0, 1, 2] rfl)
        · skip
          have hc218n : ¬ (kn214 ≤ kn217) := fun z => hc218 ((nI_leI (a := kn214) (b := kn217) (by omega) (by omega)).mpr z)
          have hP8 := hP.sub (ws' := [(h0, .inr (1, [.ref qw, .int pl, .int rg])), (qw, .inr (0, [.ref qa, .int (nI (a)), .int (nI (n)), .int (bI m_216)])), (qa, .inl (cA, 1200, .inl (f)))]) [0, 1, 2] rfl
          have hD8 := hD.sub (ws' := [(h0, .inr (1, [.ref qw, .int pl, .int rg])), (qw, .inr (0, [.ref qa, .int (nI (a)), .int (nI (n)), .int (bI m_216)])), (qa, .inl (cA, 1200, .inl (f)))]) [0, 1, 2] (by decide) rfl
          exact kx34 k bf m_216 (by omega) H locs ls hP8 hD8 hS (lv_sub hl [0, 1, 2] rfl)
set_option maxHeartbeats 4000000 in
set_option maxRecDepth 100000 in
/-- GlyphLines$CharacterMap.rangesAreRight -/
theorem g_CM_rangesAreRight (l : Launch) (dC : Nat → ClassId) (dI : Nat → Nat → Nat) (h0 : Nat) (qw : Nat) (qa : Nat) (a : Nat) (n : Nat) (mi : Bool) (cA : ClassId) (f : Nat → Int32) (pl : Int32) (rg : Int32) (sz : Nat) (hq0 : a + n ≤ 1200) (hq1 : isB f) : Met l y_CM_rangesAreRight s_CM_rangesAreRight ({ frames := 14, cells := 0, slots := 0, locals := 500 }) (va_Pc [.ref h0] (fun U => U.heap.size = sz ∧ va_P (dC, dI) cls_ [(h0, .inr (1, [.ref qw, .int pl, .int rg])), (qw, .inr (0, [.ref qa, .int (nI (a)), .int (nI (n)), .int (bI mi)])), (qa, .inl (cA, 1200, .inl (f)))] U.heap ∧ va_K (dC, dI) cls_ [(cA, .int)] U ∧ va_D (fun _ => True) [(h0, .inr (1, [.ref qw, .int pl, .int rg])), (qw, .inr (0, [.ref qa, .int (nI (a)), .int (nI (n)), .int (bI mi)])), (qa, .inl (cA, 1200, .inl (f)))])) (va_Qi (fun (r : Int32) (_ : Unit) => ∃ b9 : Bool, r = bI b9) (fun (_ : Unit) (t : State) => ∃ (m2 : Bool), va_P (dC, dI) cls_ [(h0, .inr (1, [.ref qw, .int pl, .int rg])), (qw, .inr (0, [.ref qa, .int (nI (a)), .int (nI (n)), .int (bI m2)])), (qa, .inl (cA, 1200, .inl (f)))] t.heap ∧ va_K (dC, dI) cls_ [(cA, .int)] t ∧ va_D (va_A [(h0, .inr (1, [.ref qw, .int pl, .int rg])), (qw, .inr (0, [.ref qa, .int (nI (a)), .int (nI (n)), .int (bI mi)])), (qa, .inl (cA, 1200, .inl (f)))] sz) [(h0, .inr (1, [.ref qw, .int pl, .int rg])), (qw, .inr (0, [.ref qa, .int (nI (a)), .int (nI (n)), .int (bI m2)])), (qa, .inl (cA, 1200, .inl (f)))]) (va_A [(h0, .inr (1, [.ref qw, .int pl, .int rg])), (qw, .inr (0, [.ref qa, .int (nI (a)), .int (nI (n)), .int (bI mi)])), (qa, .inl (cA, 1200, .inl (f)))] sz)) 0 0 (va_A [(h0, .inr (1, [.ref qw, .int pl, .int rg])), (qw, .inr (0, [.ref qa, .int (nI (a)), .int (nI (n)), .int (bI mi)])), (qa, .inl (cA, 1200, .inl (f)))] sz) := by
  refine Met.ofW (cc := b_CM_rangesAreRight) (maxL := 3) (ret := (some .boolean)) (by decide) rfl ?_
  intro p e s m args below meth c s₁ B hml hv
  obtain ⟨rfl, hsz, hP, hK, hD0⟩ := hv
  have hx := B.exec
  have hb := B.bytes
  have hr := B.returns
  have hts := atoms_spec (ws := s_CM_rangesAreRight) B.pre
  have hown : s.vm.findClass R_CM = some m.cls := findClass_of_methodNamed B.named
  have hlocks := B.notSynchronized
  subst hsz
  have hD := hD0.self (sz := s.heap.size)
  generalize hAe : va_A [(h0, .inr (1, [.ref qw, .int pl, .int rg])), (qw, .inr (0, [.ref qa, .int (nI (a)), .int (nI (n)), .int (bI mi)])), (qa, .inl (cA, 1200, .inl (f)))] s.heap.size = A at hD ⊢
  have hA : ∀ q : Nat, s.heap.size ≤ q → A q := fun q h => by rw [← hAe]; exact Or.inr h
  have hS : va_S A s.heap s.heap [] := va_S.rf
  have hP : va_P (dC, dI) cls_ [(h0, .inr (1, [.ref qw, .int pl, .int rg])), (qw, .inr (0, [.ref qa, .int (nI (a)), .int (nI (n)), .int (bI mi)])), (qa, .inl (cA, 1200, .inl (f)))] s.heap := hP
  have hl := lv_entry ([.ref h0]) (n := 3) (Nat.le_of_ble_eq_true rfl)
  rw [lg_entry_eq]
  generalize (lg_sl ([.ref h0]) ++ List.replicate (3 - (lg_sl ([.ref h0])).length) Slot.unset).toArray = ls at hl ⊢
  have hl : lv_has ls 3 [(0, .ref h0)] := hl
  refine lv_iconst (v := (-1)) hx hb d_CM_rangesAreRight_0 (by decide) ?_
  refine lv_istore_n (lv' := [(1, .int ((-1))), (0, .ref h0)]) hx hb d_CM_rangesAreRight_1 rfl hl (by decide) rfl (fun ls hl => ?_)
  refine lv_iconst (v := 0) hx hb d_CM_rangesAreRight_2 (by decide) ?_
  refine lv_istore_n (lv' := [(2, .int 0), (1, .int ((-1))), (0, .ref h0)]) hx hb d_CM_rangesAreRight_3 rfl hl (by decide) rfl (fun ls hl => ?_)
  have hP8 := hP.sub (ws' := [(h0, .inr (1, [.ref qw, .int pl, .int rg])), (qw, .inr (0, [.ref qa, .int (nI (a)), .int (nI (n)), .int (bI mi)])), (qa, .inl (cA, 1200, .inl (f)))]) [0, 1, 2] rfl
  have hD8 := hD.sub (ws' := [(h0, .inr (1, [.ref qw, .int pl, .int rg])), (qw, .inr (0, [.ref qa, .int (nI (a)), .int (nI (n)), .int (bI mi)])), (qa, .inl (cA, 1200, .inl (f)))]) [0, 1, 2] (by decide) rfl
  have hBe0 := cl_lt (rg)
  have hK9 := hK.sub (tys' := [(cA, .int)]) [0] rfl
  refine cm_ranges_loop hx hb hml hts hown hA dC dI h0 qw qa a n mi cA f pl rg (by omega) (by assumption) hK9 (fun k_222 bf_223 m_224 hf_225 H locs ls hP hD hS hl => ?_) (fun k_226 bf_227 m_228 hf_229 H locs ls hP hD hS hl => ?_) (rg.toNatClampNeg - 0 + 1) 0 ((-1)) mi (by omega) (by omega) s.heap _ ls hP8 hD8 hS (lv_sub hl [0, 1, 2] rfl)
  · skip
    have hBx0 := cl_lt (rg)
    have hK := hK9
    have hP : va_P (dC, dI) cls_ [(h0, .inr (1, [.ref qw, .int pl, .int rg])), (qw, .inr (0, [.ref qa, .int (nI (a)), .int (nI (n)), .int (bI m_224)])), (qa, .inl (cA, 1200, .inl (f)))] H := hP
    have hD : va_D A [(h0, .inr (1, [.ref qw, .int pl, .int rg])), (qw, .inr (0, [.ref qa, .int (nI (a)), .int (nI (n)), .int (bI m_224)])), (qa, .inl (cA, 1200, .inl (f)))] := hD
    have hK : va_K (dC, dI) cls_ [(cA, .int)] s := hK
    refine lv_iconst (v := 0) hx hb d_CM_rangesAreRight_34 (by decide) ?_
    refine W.widen (k := 0) (n := 0) (Nat.le_of_ble_eq_true rfl) (Nat.le_of_ble_eq_true rfl) ?_
    have hP9 := hP.sub (ws' := [(h0, .inr (1, [.ref qw, .int pl, .int rg])), (qw, .inr (0, [.ref qa, .int (nI (a)), .int (nI (n)), .int (bI m_224)])), (qa, .inl (cA, 1200, .inl (f)))]) [0, 1, 2] rfl
    have hD9 := hD.sub (ws' := [(h0, .inr (1, [.ref qw, .int pl, .int rg])), (qw, .inr (0, [.ref qa, .int (nI (a)), .int (nI (n)), .int (bI m_224)])), (qa, .inl (cA, 1200, .inl (f)))]) [0, 1, 2] (by decide) rfl
    have hK9 := hK.sub (tys' := [(cA, .int)]) [0] rfl
    exact W.zret (v := 0) (ty := .boolean) hx hb hr (by decide +kernel) (fun t ht hW => ⟨⟨0, (), rfl, ⟨false, rfl⟩, m_224, by rw [ht]; exact hP9, va_K.moved hW.alike hK9, hD9⟩, hS.F ht⟩) hS.2.2 d_CM_rangesAreRight_35
  · skip
    have hBx0 := cl_lt (rg)
    have hK := hK9
    have hP : va_P (dC, dI) cls_ [(h0, .inr (1, [.ref qw, .int pl, .int rg])), (qw, .inr (0, [.ref qa, .int (nI (a)), .int (nI (n)), .int (bI m_228)])), (qa, .inl (cA, 1200, .inl (f)))] H := hP
    have hD : va_D A [(h0, .inr (1, [.ref qw, .int pl, .int rg])), (qw, .inr (0, [.ref qa, .int (nI (a)), .int (nI (n)), .int (bI m_228)])), (qa, .inl (cA, 1200, .inl (f)))] := hD
    have hK : va_K (dC, dI) cls_ [(cA, .int)] s := hK
    refine lv_iload_n hx hb d_CM_rangesAreRight_48 rfl (lv_at hl 1 rfl) ?_
    refine lv_ldc (v := 65535) hx hb hown (hts _ (List.mem_cons_of_mem _ w_448)) d_CM_rangesAreRight_49 ?_
    refine lv_icmp_ne (tgt := 58) hx hb d_CM_rangesAreRight_51 (by decide) (fun hc230 => ?_) (fun hc230 => ?_)
    · skip
      refine lv_iconst (v := 0) hx hb d_CM_rangesAreRight_58 (by decide) ?_
      refine W.widen (k := 0) (n := 0) (Nat.le_of_ble_eq_true rfl) (Nat.le_of_ble_eq_true rfl) ?_
      have hP9 := hP.sub (ws' := [(h0, .inr (1, [.ref qw, .int pl, .int rg])), (qw, .inr (0, [.ref qa, .int (nI (a)), .int (nI (n)), .int (bI m_228)])), (qa, .inl (cA, 1200, .inl (f)))]) [0, 1, 2] rfl
      have hD9 := hD.sub (ws' := [(h0, .inr (1, [.ref qw, .int pl, .int rg])), (qw, .inr (0, [.ref qa, .int (nI (a)), .int (nI (n)), .int (bI m_228)])), (qa, .inl (cA, 1200, .inl (f)))]) [0, 1, 2] (by decide) rfl
      have hK9 := hK.sub (tys' := [(cA, .int)]) [0] rfl
      exact W.zret (v := 0) (ty := .boolean) hx hb hr (by decide +kernel) (fun t ht hW => ⟨⟨0, (), rfl, ⟨false, rfl⟩, m_228, by rw [ht]; exact hP9, va_K.moved hW.alike hK9, hD9⟩, hS.F ht⟩) hS.2.2 d_CM_rangesAreRight_59
    · skip
      refine lv_iconst (v := 1) hx hb d_CM_rangesAreRight_54 (by decide) ?_
      refine lv_goto (tgt := 59) hx hb d_CM_rangesAreRight_55 (by decide) ?_
      refine W.widen (k := 0) (n := 0) (Nat.le_of_ble_eq_true rfl) (Nat.le_of_ble_eq_true rfl) ?_
      have hP9 := hP.sub (ws' := [(h0, .inr (1, [.ref qw, .int pl, .int rg])), (qw, .inr (0, [.ref qa, .int (nI (a)), .int (nI (n)), .int (bI m_228)])), (qa, .inl (cA, 1200, .inl (f)))]) [0, 1, 2] rfl
      have hD9 := hD.sub (ws' := [(h0, .inr (1, [.ref qw, .int pl, .int rg])), (qw, .inr (0, [.ref qa, .int (nI (a)), .int (nI (n)), .int (bI m_228)])), (qa, .inl (cA, 1200, .inl (f)))]) [0, 1, 2] (by decide) rfl
      have hK9 := hK.sub (tys' := [(cA, .int)]) [0] rfl
      exact W.zret (v := 1) (ty := .boolean) hx hb hr (by decide +kernel) (fun t ht hW => ⟨⟨1, (), rfl, ⟨true, rfl⟩, m_228, by rw [ht]; exact hP9, va_K.moved hW.alike hK9, hD9⟩, hS.F ht⟩) hS.2.2 d_CM_rangesAreRight_59
set_option maxHeartbeats 8000000 in
set_option maxRecDepth 100000 in
/-- a loop of GlyphLines$CharacterMap.findPlace -/
theorem cm_place_loop {p : Program} {l : Launch} {e : Env} {s : State} {m : MethodId} {args : Array Value} {below : List Frame} {meth : Method} {c : Code} {Q : State → Prop} {A : Nat → Prop} (hx : p.tables.exec = Jvm.exec) (hb : c.code = b_CM_findPlace) (hml : c.maxLocals = 3) (hts : ∀ w ∈ s_CM_findPlace, w.before args s = true) (hown : s.vm.findClass R_CM = some m.cls) (hA : ∀ q : Nat, s.heap.size ≤ q → A q) (dC : Nat → ClassId) (dI : Nat → Nat → Nat) (h0 : Nat) (qw : Nat) (qa : Nat) (a : Nat) (n : Nat) (mi : Bool) (cA : ClassId) (f : Nat → Int32) (pl : Int32) (rg : Int32) (hq0 : a + n ≤ 1200) (hq1 : isB f) (pt : Nat) (hg0 : pt < 65536) (hK : va_K (dC, dI) cls_ [(cA, .int)] s)
    (kx62 : ∀ (k : Nat) (m3 : Bool), (k ≤ 4 + 8 * pt + 8) → ∀ (H : Heap) (locs : List Loc) (ls : Array Slot), va_P (dC, dI) cls_ [(h0, .inr (1, [.ref qw, .int pl, .int rg])), (qw, .inr (0, [.ref qa, .int (nI (a)), .int (nI (n)), .int (bI m3)])), (qa, .inl (cA, 1200, .inl (f)))] H → va_D A [(h0, .inr (1, [.ref qw, .int pl, .int rg])), (qw, .inr (0, [.ref qa, .int (nI (a)), .int (nI (n)), .int (bI m3)])), (qa, .inl (cA, 1200, .inl (f)))] → va_S A s.heap H locs → lv_has ls 3 [(2, .int (nI (k))), (1, .int (nI (pt))), (0, .ref h0)] → W p l e (headSpec s_CM_findPlace ({ frames := 14, cells := 0, slots := 0, locals := 500 })).room s m args below meth c H locs 0 0 Q (F0 m 62 ls []))
    (kx79 : ∀ (k : Nat) (m3 : Bool), (k ≤ 4 + 8 * pt + 8) → ∀ (H : Heap) (locs : List Loc) (ls : Array Slot), va_P (dC, dI) cls_ [(h0, .inr (1, [.ref qw, .int pl, .int rg])), (qw, .inr (0, [.ref qa, .int (nI (a)), .int (nI (n)), .int (bI m3)])), (qa, .inl (cA, 1200, .inl (f)))] H → va_D A [(h0, .inr (1, [.ref qw, .int pl, .int rg])), (qw, .inr (0, [.ref qa, .int (nI (a)), .int (nI (n)), .int (bI m3)])), (qa, .inl (cA, 1200, .inl (f)))] → va_S A s.heap H locs → lv_has ls 3 [(2, .int (nI (k))), (1, .int (nI (pt))), (0, .ref h0)] → W p l e (headSpec s_CM_findPlace ({ frames := 14, cells := 0, slots := 0, locals := 500 })).room s m args below meth c H locs 0 0 Q (F0 m 79 ls []))
    : ∀ (fu : Nat) (k : Nat) (m3 : Bool), (k ≤ 4 + 8 * pt + 8) → 4 + 8 * pt + 9 - k < fu → ∀ (H : Heap) (locs : List Loc) (ls : Array Slot), va_P (dC, dI) cls_ [(h0, .inr (1, [.ref qw, .int pl, .int rg])), (qw, .inr (0, [.ref qa, .int (nI (a)), .int (nI (n)), .int (bI m3)])), (qa, .inl (cA, 1200, .inl (f)))] H → va_D A [(h0, .inr (1, [.ref qw, .int pl, .int rg])), (qw, .inr (0, [.ref qa, .int (nI (a)), .int (nI (n)), .int (bI m3)])), (qa, .inl (cA, 1200, .inl (f)))] → va_S A s.heap H locs → lv_has ls 3 [(2, .int (nI (k))), (1, .int (nI (pt))), (0, .ref h0)] → W p l e (headSpec s_CM_findPlace ({ frames := 14, cells := 0, slots := 0, locals := 500 })).room s m args below meth c H locs 0 0 Q (F0 m 11 ls []) := by
  intro fu
  induction fu with
  | zero => intro k m3 hf0 hm; exact absurd hm (Nat.not_lt_zero _)
  | succ fu ih =>
    intro k m3 hf0 hm H locs ls hP hD hS hl
    refine lv_iload_n hx hb d_CM_findPlace_11 rfl (lv_at hl 0 rfl) ?_
    refine lv_iconst (v := 4) hx hb d_CM_findPlace_12 (by decide) ?_
    refine lv_bipush (v := 8) hx hb d_CM_findPlace_13 (by decide) ?_
    refine lv_iload_n hx hb d_CM_findPlace_15 rfl (lv_at hl 1 rfl) ?_
    refine lv_imul hx hb d_CM_findPlace_16 ?_
    refine lv_ci (y := nI (8 * pt)) (pk_mul (8) (pt)) ?_
    refine lv_iadd hx hb d_CM_findPlace_17 ?_
    refine lv_ci (y := nI (4 + (8 * pt))) (nI_add (4) (8 * pt)) ?_
    refine lv_icmp_ge (tgt := 79) hx hb d_CM_findPlace_18 (by decide) (fun hc231 => ?_) (fun hc231 => ?_)
    · skip
      have hc231n : 4 + (8 * pt) ≤ k := (nI_leI (a := 4 + (8 * pt)) (b := k) (by omega) (by omega)).mp hc231
      have hP8 := hP.sub (ws' := [(h0, .inr (1, [.ref qw, .int pl, .int rg])), (qw, .inr (0, [.ref qa, .int (nI (a)), .int (nI (n)), .int (bI m3)])), (qa, .inl (cA, 1200, .inl (f)))]) [0, 1, 2] rfl
      have hD8 := hD.sub (ws' := [(h0, .inr (1, [.ref qw, .int pl, .int rg])), (qw, .inr (0, [.ref qa, .int (nI (a)), .int (nI (n)), .int (bI m3)])), (qa, .inl (cA, 1200, .inl (f)))]) [0, 1, 2] (by decide) rfl
      exact kx79 k m3 (by omega) H locs ls hP8 hD8 hS (lv_sub hl [0, 1, 2] rfl)
    · skip
      have hc231n : ¬ (4 + (8 * pt) ≤ k) := fun z => hc231 ((nI_leI (a := 4 + (8 * pt)) (b := k) (by omega) (by omega)).mpr z)
      refine lv_aload_n hx hb d_CM_findPlace_21 rfl (lv_at hl 2 rfl) ?_
      refine va_get (D := (dC, dI)) (ci := 1) (v := .ref qw) (C := R_CM) (T := F_CM) (N := 3) hx hb hts in_CM hown hK hP 0 rfl rfl 0 (by decide) (hts _ (List.mem_cons_of_mem _ w_89)) (fun _ h9 => h9) rfl d_CM_findPlace_22 ?_
      refine lv_iload_n hx hb d_CM_findPlace_25 rfl (lv_at hl 0 rfl) ?_
      refine lv_i2l (v := (nI (k)).toInt64) hx hb d_CM_findPlace_26 (by first | rfl | decide +kernel) ?_
      refine lv_ldc2 (v := 8) hx hb hown (hts _ (List.mem_cons_of_mem _ w_431)) d_CM_findPlace_27 ?_
      have hPc := hP.sub (ws' := [(qw, .inr (0, [.ref qa, .int (nI (a)), .int (nI (n)), .int (bI m3)]))]) [1] rfl
      have hDc := hD.sub (ws' := [(qw, .inr (0, [.ref qa, .int (nI (a)), .int (nI (n)), .int (bI m3)]))]) [1] (by decide) rfl
      have hKc := hK.sub (tys' := []) [] rfl
      have hFc := va_free (wc := [(qw, .inr (0, [.ref qa, .int (nI (a)), .int (nI (n)), .int (bI m3)]))]) hD hS hA [1] rfl
      refine va_calli (va_runV (As := [.long ((nI (k)).toInt64), .long 8]) (rest := []) ⟨hx, hb, hml, hown, hts⟩ (g_SP_holds l dC dI qw qa (nI (a)) (nI (n)) m3 ((nI (k)).toInt64) 8 H.size) (cwV 2 hts (tw_inV w_432 w_364 w_365 w_4 w_366) rfl rfl rfl (by decide +kernel) ⟨Nat.le_of_ble_eq_true rfl, Nat.le_of_ble_eq_true rfl⟩) ⟨fun a U g mk q => by obtain ⟨q0, q1, qP, qK, qD⟩ := q; exact ⟨q0, q1, qP, va_K.moved (u := U) (U := U.calling g mk a) (Vm.Alike.refl U.vm) qK, qD⟩, va_recv (hK := hK) (hP := hP) (q0 := 1) (ci := 0) rfl rfl, fun U hU hW => ⟨rfl, by rw [hU], by rw [hU]; exact hPc, va_K.moved hW.alike hKc, hDc.weaken (fun _ _ _ _ => trivial)⟩⟩ rfl rfl hl.1 rfl (lv_room (Nat.le_of_ble_eq_true rfl)) d_CM_findPlace_30 ⟨Nat.le_of_ble_eq_true rfl, Nat.le_of_ble_eq_true rfl⟩) hS (fun q _ h => hFc q h) hFc (fun r232 u t H1 locs ht hvm hw hB hz1 hk1 hS => ?_)
      obtain ⟨hP1, hK1, hD1⟩ := hB
      rw [ht] at hP1
      have hK1 := va_K.moved hvm.symm hK1
      obtain ⟨hP, hD⟩ := va_join (wr := [(h0, .inr (1, [.ref qw, .int pl, .int rg])), (qa, .inl (cA, 1200, .inl (f)))]) (w1 := [(qw, .inr (0, [.ref qa, .int (nI (a)), .int (nI (n)), .int (bI m3)]))]) hP hD [1] [0, 2] rfl rfl (by decide) (by decide) hk1 hFc hP1 hD1
      have hK := (hK.sub (tys' := [(cA, .int)]) [0] rfl).app hK1
      generalize H1 = H at hP hS ⊢
      have hP : va_P (dC, dI) cls_ [(h0, .inr (1, [.ref qw, .int pl, .int rg])), (qa, .inl (cA, 1200, .inl (f))), (qw, .inr (0, [.ref qa, .int (nI (a)), .int (nI (n)), .int (bI m3)]))] H := hP
      have hD : va_D A [(h0, .inr (1, [.ref qw, .int pl, .int rg])), (qa, .inl (cA, 1200, .inl (f))), (qw, .inr (0, [.ref qa, .int (nI (a)), .int (nI (n)), .int (bI m3)]))] := hD
      have hK : va_K (dC, dI) cls_ [(cA, .int)] s := hK
      have hw_r232 := hw
      obtain ⟨bb233, rfl⟩ := hw_r232
      refine lv_if_eq (tgt := 79) hx hb d_CM_findPlace_33 (by decide) (fun hc234 => ?_) (fun hc234 => ?_)
      · skip
        have hc234b : bb233 = false := bI_0 hc234
        have hP8 := hP.sub (ws' := [(h0, .inr (1, [.ref qw, .int pl, .int rg])), (qw, .inr (0, [.ref qa, .int (nI (a)), .int (nI (n)), .int (bI m3)])), (qa, .inl (cA, 1200, .inl (f)))]) [0, 2, 1] rfl
        have hD8 := hD.sub (ws' := [(h0, .inr (1, [.ref qw, .int pl, .int rg])), (qw, .inr (0, [.ref qa, .int (nI (a)), .int (nI (n)), .int (bI m3)])), (qa, .inl (cA, 1200, .inl (f)))]) [0, 2, 1] (by decide) rfl
        exact kx79 k m3 (by omega) H locs ls hP8 hD8 hS (lv_sub hl [0, 1, 2] rfl)
      · skip
        have hc234b : bb233 = true := bI_1 hc234
        refine lv_aload_n hx hb d_CM_findPlace_36 rfl (lv_at hl 2 rfl) ?_
        refine va_get (D := (dC, dI)) (ci := 1) (v := .ref qw) (C := R_CM) (T := F_CM) (N := 3) hx hb hts in_CM hown hK hP 0 rfl rfl 0 (by decide) (hts _ (List.mem_cons_of_mem _ w_89)) (fun _ h9 => h9) rfl d_CM_findPlace_37 ?_
        refine lv_iload_n hx hb d_CM_findPlace_40 rfl (lv_at hl 0 rfl) ?_
        have hPc := hP.sub (ws' := [(qw, .inr (0, [.ref qa, .int (nI (a)), .int (nI (n)), .int (bI m3)])), (qa, .inl (cA, 1200, .inl (f)))]) [2, 1] rfl
        have hDc := hD.sub (ws' := [(qw, .inr (0, [.ref qa, .int (nI (a)), .int (nI (n)), .int (bI m3)])), (qa, .inl (cA, 1200, .inl (f)))]) [2, 1] (by decide) rfl
        have hKc := hK.sub (tys' := [(cA, .int)]) [0] rfl
        have hFc := va_free (wc := [(qw, .inr (0, [.ref qa, .int (nI (a)), .int (nI (n)), .int (bI m3)])), (qa, .inl (cA, 1200, .inl (f)))]) hD hS hA [2, 1] rfl
        refine va_calli (va_runV (As := [.int (nI (k))]) (rest := []) ⟨hx, hb, hml, hown, hts⟩ (g_SP_u16 l dC dI qw qa a n m3 cA f (nI (k)) H.size (by omega) (by assumption)) (cwV 1 hts (tw_inV w_430 w_353 w_354 w_4 w_355) rfl rfl rfl (by decide +kernel) ⟨Nat.le_of_ble_eq_true rfl, Nat.le_of_ble_eq_true rfl⟩) ⟨fun a U g mk q => by obtain ⟨q0, q1, qP, qK, qD⟩ := q; exact ⟨q0, q1, qP, va_K.moved (u := U) (U := U.calling g mk a) (Vm.Alike.refl U.vm) qK, qD⟩, va_recv (hK := hK) (hP := hP) (q0 := 2) (ci := 0) rfl rfl, fun U hU hW => ⟨rfl, by rw [hU], by rw [hU]; exact hPc, va_K.moved hW.alike hKc, hDc.weaken (fun _ _ _ _ => trivial)⟩⟩ rfl rfl hl.1 rfl (lv_room (Nat.le_of_ble_eq_true rfl)) d_CM_findPlace_41 ⟨Nat.le_of_ble_eq_true rfl, Nat.le_of_ble_eq_true rfl⟩) hS (fun q _ h => hFc q h) hFc (fun r235 u t H1 locs ht hvm hw hB hz1 hk1 hS => ?_)
        obtain ⟨m_236, hP1, hK1, hD1⟩ := hB
        rw [ht] at hP1
        have hK1 := va_K.moved hvm.symm hK1
        obtain ⟨hP, hD⟩ := va_join (wr := [(h0, .inr (1, [.ref qw, .int pl, .int rg]))]) (w1 := [(qw, .inr (0, [.ref qa, .int (nI (a)), .int (nI (n)), .int (bI m_236)])), (qa, .inl (cA, 1200, .inl (f)))]) hP hD [2, 1] [0] rfl rfl (by decide) (by decide) hk1 hFc hP1 hD1
        have hK := (hK.sub (tys' := []) [] rfl).app hK1
        generalize H1 = H at hP hS ⊢
        have hP : va_P (dC, dI) cls_ [(h0, .inr (1, [.ref qw, .int pl, .int rg])), (qw, .inr (0, [.ref qa, .int (nI (a)), .int (nI (n)), .int (bI m_236)])), (qa, .inl (cA, 1200, .inl (f)))] H := hP
        have hD : va_D A [(h0, .inr (1, [.ref qw, .int pl, .int rg])), (qw, .inr (0, [.ref qa, .int (nI (a)), .int (nI (n)), .int (bI m_236)])), (qa, .inl (cA, 1200, .inl (f)))] := hD
        have hK : va_K (dC, dI) cls_ [(cA, .int)] s := hK
        have hw_r235 := hw
        obtain ⟨kn237, hb_kn237, rfl⟩ := hw_r235
        refine lv_iconst (v := 3) hx hb d_CM_findPlace_44 (by decide) ?_
        refine lv_icmp_ne (tgt := 73) hx hb d_CM_findPlace_45 (by decide) (fun hc238 => ?_) (fun hc238 => ?_)
        · skip
          have hc238n : ¬ kn237 = 3 := fun z => hc238 ((nI_eq (a := kn237) (b := 3) (by omega) (by omega)).mpr z)
          refine lv_iinc (k := 0) (v := nI (k + 8)) (lv' := [(2, .int (nI (k + 8))), (1, .int (nI (pt))), (0, .ref h0)]) hx hb d_CM_findPlace_73 hl rfl (nI_add (k) 8) (by decide) rfl (fun ls hl => ?_)
          refine lv_goto (tgt := 11) hx hb d_CM_findPlace_76 (by decide) ?_
          have hP8 := hP.sub (ws' := [(h0, .inr (1, [.ref qw, .int pl, .int rg])), (qw, .inr (0, [.ref qa, .int (nI (a)), .int (nI (n)), .int (bI m_236)])), (qa, .inl (cA, 1200, .inl (f)))]) [0, 1, 2] rfl
          have hD8 := hD.sub (ws' := [(h0, .inr (1, [.ref qw, .int pl, .int rg])), (qw, .inr (0, [.ref qa, .int (nI (a)), .int (nI (n)), .int (bI m_236)])), (qa, .inl (cA, 1200, .inl (f)))]) [0, 1, 2] (by decide) rfl
          exact ih (k + 8) m_236 (by omega) (by omega) H locs ls hP8 hD8 hS (lv_sub hl [0, 1, 2] rfl)
        · skip
          have hc238n : kn237 = 3 := (nI_eq (a := kn237) (b := 3) (by omega) (by omega)).mp hc238
          refine lv_aload_n hx hb d_CM_findPlace_48 rfl (lv_at hl 2 rfl) ?_
          refine va_get (D := (dC, dI)) (ci := 1) (v := .ref qw) (C := R_CM) (T := F_CM) (N := 3) hx hb hts in_CM hown hK hP 0 rfl rfl 0 (by decide) (hts _ (List.mem_cons_of_mem _ w_89)) (fun _ h9 => h9) rfl d_CM_findPlace_49 ?_
          refine lv_iload_n hx hb d_CM_findPlace_52 rfl (lv_at hl 0 rfl) ?_
          refine lv_iconst (v := 2) hx hb d_CM_findPlace_53 (by decide) ?_
          refine lv_iadd hx hb d_CM_findPlace_54 ?_
          refine lv_ci (y := nI (k + 2)) (nI_add (k) (2)) ?_
          have hPc := hP.sub (ws' := [(qw, .inr (0, [.ref qa, .int (nI (a)), .int (nI (n)), .int (bI m_236)])), (qa, .inl (cA, 1200, .inl (f)))]) [1, 2] rfl
          have hDc := hD.sub (ws' := [(qw, .inr (0, [.ref qa, .int (nI (a)), .int (nI (n)), .int (bI m_236)])), (qa, .inl (cA, 1200, .inl (f)))]) [1, 2] (by decide) rfl
          have hKc := hK.sub (tys' := [(cA, .int)]) [0] rfl
          have hFc := va_free (wc := [(qw, .inr (0, [.ref qa, .int (nI (a)), .int (nI (n)), .int (bI m_236)])), (qa, .inl (cA, 1200, .inl (f)))]) hD hS hA [1, 2] rfl
          refine va_calli (va_runV (As := [.int (nI (k + 2))]) (rest := []) ⟨hx, hb, hml, hown, hts⟩ (g_SP_u16 l dC dI qw qa a n m_236 cA f (nI (k + 2)) H.size (by omega) (by assumption)) (cwV 1 hts (tw_inV w_430 w_353 w_354 w_4 w_355) rfl rfl rfl (by decide +kernel) ⟨Nat.le_of_ble_eq_true rfl, Nat.le_of_ble_eq_true rfl⟩) ⟨fun a U g mk q => by obtain ⟨q0, q1, qP, qK, qD⟩ := q; exact ⟨q0, q1, qP, va_K.moved (u := U) (U := U.calling g mk a) (Vm.Alike.refl U.vm) qK, qD⟩, va_recv (hK := hK) (hP := hP) (q0 := 1) (ci := 0) rfl rfl, fun U hU hW => ⟨rfl, by rw [hU], by rw [hU]; exact hPc, va_K.moved hW.alike hKc, hDc.weaken (fun _ _ _ _ => trivial)⟩⟩ rfl rfl hl.1 rfl (lv_room (Nat.le_of_ble_eq_true rfl)) d_CM_findPlace_55 ⟨Nat.le_of_ble_eq_true rfl, Nat.le_of_ble_eq_true rfl⟩) hS (fun q _ h => hFc q h) hFc (fun r239 u t H1 locs ht hvm hw hB hz1 hk1 hS => ?_)
          obtain ⟨m_240, hP1, hK1, hD1⟩ := hB
          rw [ht] at hP1
          have hK1 := va_K.moved hvm.symm hK1
          obtain ⟨hP, hD⟩ := va_join (wr := [(h0, .inr (1, [.ref qw, .int pl, .int rg]))]) (w1 := [(qw, .inr (0, [.ref qa, .int (nI (a)), .int (nI (n)), .int (bI m_240)])), (qa, .inl (cA, 1200, .inl (f)))]) hP hD [1, 2] [0] rfl rfl (by decide) (by decide) hk1 hFc hP1 hD1
          have hK := (hK.sub (tys' := []) [] rfl).app hK1
          generalize H1 = H at hP hS ⊢
          have hP : va_P (dC, dI) cls_ [(h0, .inr (1, [.ref qw, .int pl, .int rg])), (qw, .inr (0, [.ref qa, .int (nI (a)), .int (nI (n)), .int (bI m_240)])), (qa, .inl (cA, 1200, .inl (f)))] H := hP
          have hD : va_D A [(h0, .inr (1, [.ref qw, .int pl, .int rg])), (qw, .inr (0, [.ref qa, .int (nI (a)), .int (nI (n)), .int (bI m_240)])), (qa, .inl (cA, 1200, .inl (f)))] := hD
          have hK : va_K (dC, dI) cls_ [(cA, .int)] s := hK
          have hw_r239 := hw
          obtain ⟨kn241, hb_kn241, rfl⟩ := hw_r239
          refine lv_iconst (v := 1) hx hb d_CM_findPlace_58 (by decide) ?_
          refine lv_icmp_ne (tgt := 73) hx hb d_CM_findPlace_59 (by decide) (fun hc242 => ?_) (fun hc242 => ?_)
          · skip
            have hc242n : ¬ kn241 = 1 := fun z => hc242 ((nI_eq (a := kn241) (b := 1) (by omega) (by omega)).mpr z)
            refine lv_iinc (k := 0) (v := nI (k + 8)) (lv' := [(2, .int (nI (k + 8))), (1, .int (nI (pt))), (0, .ref h0)]) hx hb d_CM_findPlace_73 hl rfl (nI_add (k) 8) (by decide) rfl (fun ls hl => ?_)
            refine lv_goto (tgt := 11) hx hb d_CM_findPlace_76 (by decide) ?_
            have hP8 := hP.sub (ws' := [(h0, .inr (1, [.ref qw, .int pl, .int rg])), (qw, .inr (0, [.ref qa, .int (nI (a)), .int (nI (n)), .int (bI m_240)])), (qa, .inl (cA, 1200, .inl (f)))]) [0, 1, 2] rfl
            have hD8 := hD.sub (ws' := [(h0, .inr (1, [.ref qw, .int pl, .int rg])), (qw, .inr (0, [.ref qa, .int (nI (a)), .int (nI (n)), .int (bI m_240)])), (qa, .inl (cA, 1200, .inl (f)))]) [0, 1, 2] (by decide) rfl
            exact ih (k + 8) m_240 (by omega) (by omega) H locs ls hP8 hD8 hS (lv_sub hl [0, 1, 2] rfl)
          · skip
            have hc242n : kn241 = 1 := (nI_eq (a := kn241) (b := 1) (by omega) (by omega)).mp hc242
            have hP8 := hP.sub (ws' := [(h0, .inr (1, [.ref qw, .int pl, .int rg])), (qw, .inr (0, [.ref qa, .int (nI (a)), .int (nI (n)), .int (bI m_240)])), (qa, .inl (cA, 1200, .inl (f)))]) [0, 1, 2] rfl
            have hD8 := hD.sub (ws' := [(h0, .inr (1, [.ref qw, .int pl, .int rg])), (qw, .inr (0, [.ref qa, .int (nI (a)), .int (nI (n)), .int (bI m_240)])), (qa, .inl (cA, 1200, .inl (f)))]) [0, 1, 2] (by decide) rfl
            exact kx62 k m_240 (by omega) H locs ls hP8 hD8 hS (lv_sub hl [0, 1, 2] rfl)
set_option maxHeartbeats 4000000 in
set_option maxRecDepth 100000 in
/-- GlyphLines$CharacterMap.findPlace -/
theorem g_CM_findPlace (l : Launch) (dC : Nat → ClassId) (dI : Nat → Nat → Nat) (h0 : Nat) (qw : Nat) (qa : Nat) (a : Nat) (n : Nat) (mi : Bool) (cA : ClassId) (f : Nat → Int32) (pl : Int32) (rg : Int32) (sz : Nat) (hq0 : a + n ≤ 1200) (hq1 : isB f) : Met l y_CM_findPlace s_CM_findPlace ({ frames := 14, cells := 0, slots := 0, locals := 500 }) (va_Pc [.ref h0] (fun U => U.heap.size = sz ∧ va_P (dC, dI) cls_ [(h0, .inr (1, [.ref qw, .int pl, .int rg])), (qw, .inr (0, [.ref qa, .int (nI (a)), .int (nI (n)), .int (bI mi)])), (qa, .inl (cA, 1200, .inl (f)))] U.heap ∧ va_K (dC, dI) cls_ [(cA, .int)] U ∧ va_D (fun _ => True) [(h0, .inr (1, [.ref qw, .int pl, .int rg])), (qw, .inr (0, [.ref qa, .int (nI (a)), .int (nI (n)), .int (bI mi)])), (qa, .inl (cA, 1200, .inl (f)))])) (va_Ql (fun (r : Int64) (_ : Unit) => True) (fun (_ : Unit) (t : State) => ∃ (m2 : Bool), va_P (dC, dI) cls_ [(h0, .inr (1, [.ref qw, .int pl, .int rg])), (qw, .inr (0, [.ref qa, .int (nI (a)), .int (nI (n)), .int (bI m2)])), (qa, .inl (cA, 1200, .inl (f)))] t.heap ∧ va_K (dC, dI) cls_ [(cA, .int)] t ∧ va_D (va_A [(h0, .inr (1, [.ref qw, .int pl, .int rg])), (qw, .inr (0, [.ref qa, .int (nI (a)), .int (nI (n)), .int (bI mi)])), (qa, .inl (cA, 1200, .inl (f)))] sz) [(h0, .inr (1, [.ref qw, .int pl, .int rg])), (qw, .inr (0, [.ref qa, .int (nI (a)), .int (nI (n)), .int (bI m2)])), (qa, .inl (cA, 1200, .inl (f)))]) (va_A [(h0, .inr (1, [.ref qw, .int pl, .int rg])), (qw, .inr (0, [.ref qa, .int (nI (a)), .int (nI (n)), .int (bI mi)])), (qa, .inl (cA, 1200, .inl (f)))] sz)) 0 0 (va_A [(h0, .inr (1, [.ref qw, .int pl, .int rg])), (qw, .inr (0, [.ref qa, .int (nI (a)), .int (nI (n)), .int (bI mi)])), (qa, .inl (cA, 1200, .inl (f)))] sz) := by
  refine Met.ofW (cc := b_CM_findPlace) (maxL := 3) (ret := (some .long)) (by decide) rfl ?_
  intro p e s m args below meth c s₁ B hml hv
  obtain ⟨rfl, hsz, hP, hK, hD0⟩ := hv
  have hx := B.exec
  have hb := B.bytes
  have hr := B.returns
  have hts := atoms_spec (ws := s_CM_findPlace) B.pre
  have hown : s.vm.findClass R_CM = some m.cls := findClass_of_methodNamed B.named
  have hlocks := B.notSynchronized
  subst hsz
  have hD := hD0.self (sz := s.heap.size)
  generalize hAe : va_A [(h0, .inr (1, [.ref qw, .int pl, .int rg])), (qw, .inr (0, [.ref qa, .int (nI (a)), .int (nI (n)), .int (bI mi)])), (qa, .inl (cA, 1200, .inl (f)))] s.heap.size = A at hD ⊢
  have hA : ∀ q : Nat, s.heap.size ≤ q → A q := fun q h => by rw [← hAe]; exact Or.inr h
  have hS : va_S A s.heap s.heap [] := va_S.rf
  have hP : va_P (dC, dI) cls_ [(h0, .inr (1, [.ref qw, .int pl, .int rg])), (qw, .inr (0, [.ref qa, .int (nI (a)), .int (nI (n)), .int (bI mi)])), (qa, .inl (cA, 1200, .inl (f)))] s.heap := hP
  have hl := lv_entry ([.ref h0]) (n := 3) (Nat.le_of_ble_eq_true rfl)
  rw [lg_entry_eq]
  generalize (lg_sl ([.ref h0]) ++ List.replicate (3 - (lg_sl ([.ref h0])).length) Slot.unset).toArray = ls at hl ⊢
  have hl : lv_has ls 3 [(0, .ref h0)] := hl
  refine lv_aload_n hx hb d_CM_findPlace_0 rfl (lv_at hl 0 rfl) ?_
  refine va_get (D := (dC, dI)) (ci := 1) (v := .ref qw) (C := R_CM) (T := F_CM) (N := 3) hx hb hts in_CM hown hK hP 0 rfl rfl 0 (by decide) (hts _ (List.mem_cons_of_mem _ w_89)) (fun _ h9 => h9) rfl d_CM_findPlace_1 ?_
  refine lv_iconst (v := 2) hx hb d_CM_findPlace_4 (by decide) ?_
  have hPc := hP.sub (ws' := [(qw, .inr (0, [.ref qa, .int (nI (a)), .int (nI (n)), .int (bI mi)])), (qa, .inl (cA, 1200, .inl (f)))]) [1, 2] rfl
  have hDc := hD.sub (ws' := [(qw, .inr (0, [.ref qa, .int (nI (a)), .int (nI (n)), .int (bI mi)])), (qa, .inl (cA, 1200, .inl (f)))]) [1, 2] (by decide) rfl
  have hKc := hK.sub (tys' := [(cA, .int)]) [0] rfl
  have hFc := va_free (wc := [(qw, .inr (0, [.ref qa, .int (nI (a)), .int (nI (n)), .int (bI mi)])), (qa, .inl (cA, 1200, .inl (f)))]) hD hS hA [1, 2] rfl
  refine va_calli (va_runV (As := [.int 2]) (rest := []) ⟨hx, hb, hml, hown, hts⟩ (g_SP_u16 l dC dI qw qa a n mi cA f 2 s.heap.size (by omega) (by assumption)) (cwV 1 hts (tw_inV w_430 w_353 w_354 w_4 w_355) rfl rfl rfl (by decide +kernel) ⟨Nat.le_of_ble_eq_true rfl, Nat.le_of_ble_eq_true rfl⟩) ⟨fun a U g mk q => by obtain ⟨q0, q1, qP, qK, qD⟩ := q; exact ⟨q0, q1, qP, va_K.moved (u := U) (U := U.calling g mk a) (Vm.Alike.refl U.vm) qK, qD⟩, va_recv (hK := hK) (hP := hP) (q0 := 1) (ci := 0) rfl rfl, fun U hU hW => ⟨rfl, by rw [hU], by rw [hU]; exact hPc, va_K.moved hW.alike hKc, hDc.weaken (fun _ _ _ _ => trivial)⟩⟩ rfl rfl hl.1 rfl (lv_room (Nat.le_of_ble_eq_true rfl)) d_CM_findPlace_5 ⟨Nat.le_of_ble_eq_true rfl, Nat.le_of_ble_eq_true rfl⟩) hS (fun q _ h => hFc q h) hFc (fun r243 u t H1 locs ht hvm hw hB hz1 hk1 hS => ?_)
  obtain ⟨m_244, hP1, hK1, hD1⟩ := hB
  rw [ht] at hP1
  have hK1 := va_K.moved hvm.symm hK1
  obtain ⟨hP, hD⟩ := va_join (wr := [(h0, .inr (1, [.ref qw, .int pl, .int rg]))]) (w1 := [(qw, .inr (0, [.ref qa, .int (nI (a)), .int (nI (n)), .int (bI m_244)])), (qa, .inl (cA, 1200, .inl (f)))]) hP hD [1, 2] [0] rfl rfl (by decide) (by decide) hk1 hFc hP1 hD1
  have hK := (hK.sub (tys' := []) [] rfl).app hK1
  generalize H1 = H at hP hS ⊢
  have hP : va_P (dC, dI) cls_ [(h0, .inr (1, [.ref qw, .int pl, .int rg])), (qw, .inr (0, [.ref qa, .int (nI (a)), .int (nI (n)), .int (bI m_244)])), (qa, .inl (cA, 1200, .inl (f)))] H := hP
  have hD : va_D A [(h0, .inr (1, [.ref qw, .int pl, .int rg])), (qw, .inr (0, [.ref qa, .int (nI (a)), .int (nI (n)), .int (bI m_244)])), (qa, .inl (cA, 1200, .inl (f)))] := hD
  have hK : va_K (dC, dI) cls_ [(cA, .int)] s := hK
  have hw_r243 := hw
  obtain ⟨kn245, hb_kn245, rfl⟩ := hw_r243
  refine lv_istore_n (lv' := [(1, .int (nI (kn245))), (0, .ref h0)]) hx hb d_CM_findPlace_8 rfl hl (by decide) rfl (fun ls hl => ?_)
  refine lv_iconst (v := 4) hx hb d_CM_findPlace_9 (by decide) ?_
  refine lv_istore_n (lv' := [(2, .int 4), (1, .int (nI (kn245))), (0, .ref h0)]) hx hb d_CM_findPlace_10 rfl hl (by decide) rfl (fun ls hl => ?_)
  have hP8 := hP.sub (ws' := [(h0, .inr (1, [.ref qw, .int pl, .int rg])), (qw, .inr (0, [.ref qa, .int (nI (a)), .int (nI (n)), .int (bI m_244)])), (qa, .inl (cA, 1200, .inl (f)))]) [0, 1, 2] rfl
  have hD8 := hD.sub (ws' := [(h0, .inr (1, [.ref qw, .int pl, .int rg])), (qw, .inr (0, [.ref qa, .int (nI (a)), .int (nI (n)), .int (bI m_244)])), (qa, .inl (cA, 1200, .inl (f)))]) [0, 1, 2] (by decide) rfl
  have hK9 := hK.sub (tys' := [(cA, .int)]) [0] rfl
  refine cm_place_loop hx hb hml hts hown hA dC dI h0 qw qa a n mi cA f pl rg (by omega) (by assumption) kn245 (by omega) hK9 (fun k_246 m_247 hf_248 H locs ls hP hD hS hl => ?_) (fun k_249 m_250 hf_251 H locs ls hP hD hS hl => ?_) (4 + 8 * kn245 + 9 - 4 + 1) 4 m_244 (by omega) (by omega) H locs ls hP8 hD8 hS (lv_sub hl [0, 1, 2] rfl)
  · skip
    have hK := hK9
    have hP : va_P (dC, dI) cls_ [(h0, .inr (1, [.ref qw, .int pl, .int rg])), (qw, .inr (0, [.ref qa, .int (nI (a)), .int (nI (n)), .int (bI m_247)])), (qa, .inl (cA, 1200, .inl (f)))] H := hP
    have hD : va_D A [(h0, .inr (1, [.ref qw, .int pl, .int rg])), (qw, .inr (0, [.ref qa, .int (nI (a)), .int (nI (n)), .int (bI m_247)])), (qa, .inl (cA, 1200, .inl (f)))] := hD
    have hK : va_K (dC, dI) cls_ [(cA, .int)] s := hK
    refine lv_aload_n hx hb d_CM_findPlace_62 rfl (lv_at hl 2 rfl) ?_
    refine va_get (D := (dC, dI)) (ci := 1) (v := .ref qw) (C := R_CM) (T := F_CM) (N := 3) hx hb hts in_CM hown hK hP 0 rfl rfl 0 (by decide) (hts _ (List.mem_cons_of_mem _ w_89)) (fun _ h9 => h9) rfl d_CM_findPlace_63 ?_
    refine lv_iload_n hx hb d_CM_findPlace_66 rfl (lv_at hl 0 rfl) ?_
    refine lv_iconst (v := 4) hx hb d_CM_findPlace_67 (by decide) ?_
    refine lv_iadd hx hb d_CM_findPlace_68 ?_
    refine lv_ci (y := nI (k_246 + 4)) (nI_add (k_246) (4)) ?_
    have hPc := hP.sub (ws' := [(qw, .inr (0, [.ref qa, .int (nI (a)), .int (nI (n)), .int (bI m_247)])), (qa, .inl (cA, 1200, .inl (f)))]) [1, 2] rfl
    have hDc := hD.sub (ws' := [(qw, .inr (0, [.ref qa, .int (nI (a)), .int (nI (n)), .int (bI m_247)])), (qa, .inl (cA, 1200, .inl (f)))]) [1, 2] (by decide) rfl
    have hKc := hK.sub (tys' := [(cA, .int)]) [0] rfl
    have hFc := va_free (wc := [(qw, .inr (0, [.ref qa, .int (nI (a)), .int (nI (n)), .int (bI m_247)])), (qa, .inl (cA, 1200, .inl (f)))]) hD hS hA [1, 2] rfl
    refine va_calll (va_runV (As := [.int (nI (k_246 + 4))]) (rest := []) ⟨hx, hb, hml, hown, hts⟩ (g_SP_u32 l dC dI qw qa a n m_247 cA f (nI (k_246 + 4)) H.size (by omega) (by assumption)) (cwV 1 hts (tw_inV w_433 w_357 w_358 w_4 w_359) rfl rfl rfl (by decide +kernel) ⟨Nat.le_of_ble_eq_true rfl, Nat.le_of_ble_eq_true rfl⟩) ⟨fun a U g mk q => by obtain ⟨q0, q1, qP, qK, qD⟩ := q; exact ⟨q0, q1, qP, va_K.moved (u := U) (U := U.calling g mk a) (Vm.Alike.refl U.vm) qK, qD⟩, va_recv (hK := hK) (hP := hP) (q0 := 1) (ci := 0) rfl rfl, fun U hU hW => ⟨rfl, by rw [hU], by rw [hU]; exact hPc, va_K.moved hW.alike hKc, hDc.weaken (fun _ _ _ _ => trivial)⟩⟩ rfl rfl hl.1 rfl (lv_room (Nat.le_of_ble_eq_true rfl)) d_CM_findPlace_69 ⟨Nat.le_of_ble_eq_true rfl, Nat.le_of_ble_eq_true rfl⟩) hS (fun q _ h => hFc q h) hFc (fun r252 u t H1 locs ht hvm hw hB hz1 hk1 hS => ?_)
    obtain ⟨m_253, hP1, hK1, hD1⟩ := hB
    rw [ht] at hP1
    have hK1 := va_K.moved hvm.symm hK1
    obtain ⟨hP, hD⟩ := va_join (wr := [(h0, .inr (1, [.ref qw, .int pl, .int rg]))]) (w1 := [(qw, .inr (0, [.ref qa, .int (nI (a)), .int (nI (n)), .int (bI m_253)])), (qa, .inl (cA, 1200, .inl (f)))]) hP hD [1, 2] [0] rfl rfl (by decide) (by decide) hk1 hFc hP1 hD1
    have hK := (hK.sub (tys' := []) [] rfl).app hK1
    generalize H1 = H at hP hS ⊢
    have hP : va_P (dC, dI) cls_ [(h0, .inr (1, [.ref qw, .int pl, .int rg])), (qw, .inr (0, [.ref qa, .int (nI (a)), .int (nI (n)), .int (bI m_253)])), (qa, .inl (cA, 1200, .inl (f)))] H := hP
    have hD : va_D A [(h0, .inr (1, [.ref qw, .int pl, .int rg])), (qw, .inr (0, [.ref qa, .int (nI (a)), .int (nI (n)), .int (bI m_253)])), (qa, .inl (cA, 1200, .inl (f)))] := hD
    have hK : va_K (dC, dI) cls_ [(cA, .int)] s := hK
    have hw_r252 := hw
    refine W.widen (k := 0) (n := 0) (Nat.le_of_ble_eq_true rfl) (Nat.le_of_ble_eq_true rfl) ?_
    have hP9 := hP.sub (ws' := [(h0, .inr (1, [.ref qw, .int pl, .int rg])), (qw, .inr (0, [.ref qa, .int (nI (a)), .int (nI (n)), .int (bI m_253)])), (qa, .inl (cA, 1200, .inl (f)))]) [0, 1, 2] rfl
    have hD9 := hD.sub (ws' := [(h0, .inr (1, [.ref qw, .int pl, .int rg])), (qw, .inr (0, [.ref qa, .int (nI (a)), .int (nI (n)), .int (bI m_253)])), (qa, .inl (cA, 1200, .inl (f)))]) [0, 1, 2] (by decide) rfl
    have hK9 := hK.sub (tys' := [(cA, .int)]) [0] rfl
    exact W.lret (v := r252) hx hb hr (fun t ht hW => ⟨⟨r252, (), rfl, trivial, m_253, by rw [ht]; exact hP9, va_K.moved hW.alike hK9, hD9⟩, hS.F ht⟩) hS.2.2 d_CM_findPlace_72
  · skip
    have hK := hK9
    have hP : va_P (dC, dI) cls_ [(h0, .inr (1, [.ref qw, .int pl, .int rg])), (qw, .inr (0, [.ref qa, .int (nI (a)), .int (nI (n)), .int (bI m_250)])), (qa, .inl (cA, 1200, .inl (f)))] H := hP
    have hD : va_D A [(h0, .inr (1, [.ref qw, .int pl, .int rg])), (qw, .inr (0, [.ref qa, .int (nI (a)), .int (nI (n)), .int (bI m_250)])), (qa, .inl (cA, 1200, .inl (f)))] := hD
    have hK : va_K (dC, dI) cls_ [(cA, .int)] s := hK
    refine lv_ldc2 (v := (-1)) hx hb hown (hts _ (List.mem_cons_of_mem _ w_434)) d_CM_findPlace_79 ?_
    refine W.widen (k := 0) (n := 0) (Nat.le_of_ble_eq_true rfl) (Nat.le_of_ble_eq_true rfl) ?_
    have hP9 := hP.sub (ws' := [(h0, .inr (1, [.ref qw, .int pl, .int rg])), (qw, .inr (0, [.ref qa, .int (nI (a)), .int (nI (n)), .int (bI m_250)])), (qa, .inl (cA, 1200, .inl (f)))]) [0, 1, 2] rfl
    have hD9 := hD.sub (ws' := [(h0, .inr (1, [.ref qw, .int pl, .int rg])), (qw, .inr (0, [.ref qa, .int (nI (a)), .int (nI (n)), .int (bI m_250)])), (qa, .inl (cA, 1200, .inl (f)))]) [0, 1, 2] (by decide) rfl
    have hK9 := hK.sub (tys' := [(cA, .int)]) [0] rfl
    exact W.lret (v := (-1)) hx hb hr (fun t ht hW => ⟨⟨(-1), (), rfl, trivial, m_250, by rw [ht]; exact hP9, va_K.moved hW.alike hK9, hD9⟩, hS.F ht⟩) hS.2.2 d_CM_findPlace_82
set_option maxHeartbeats 4000000 in
set_option maxRecDepth 100000 in
/-- GlyphLines$CharacterMap.isRight -/
theorem g_CM_isRight (l : Launch) (dC : Nat → ClassId) (dI : Nat → Nat → Nat) (h0 : Nat) (qw : Nat) (qa : Nat) (a : Nat) (n : Nat) (mi : Bool) (cA : ClassId) (f : Nat → Int32) (pl : Int32) (rg : Int32) (sz : Nat) (hq0 : a + n ≤ 1200) (hq1 : isB f) : Met l y_CM_isRight s_CM_isRight ({ frames := 16, cells := 0, slots := 0, locals := 600 }) (va_Pc [.ref h0] (fun U => U.heap.size = sz ∧ va_P (dC, dI) cls_ [(h0, .inr (1, [.ref qw, .int pl, .int rg])), (qw, .inr (0, [.ref qa, .int (nI (a)), .int (nI (n)), .int (bI mi)])), (qa, .inl (cA, 1200, .inl (f)))] U.heap ∧ va_K (dC, dI) cls_ [(cA, .int)] U ∧ va_D (fun _ => True) [(h0, .inr (1, [.ref qw, .int pl, .int rg])), (qw, .inr (0, [.ref qa, .int (nI (a)), .int (nI (n)), .int (bI mi)])), (qa, .inl (cA, 1200, .inl (f)))])) (va_Qi (fun (r : Int32) (_ : Unit) => ∃ b9 : Bool, r = bI b9) (fun (_ : Unit) (t : State) => ∃ (m2 : Bool) (pl2 : Int32) (rg2 : Int32), va_P (dC, dI) cls_ [(h0, .inr (1, [.ref qw, .int pl2, .int rg2])), (qw, .inr (0, [.ref qa, .int (nI (a)), .int (nI (n)), .int (bI m2)])), (qa, .inl (cA, 1200, .inl (f)))] t.heap ∧ va_K (dC, dI) cls_ [(cA, .int)] t ∧ va_D (va_A [(h0, .inr (1, [.ref qw, .int pl, .int rg])), (qw, .inr (0, [.ref qa, .int (nI (a)), .int (nI (n)), .int (bI mi)])), (qa, .inl (cA, 1200, .inl (f)))] sz) [(h0, .inr (1, [.ref qw, .int pl2, .int rg2])), (qw, .inr (0, [.ref qa, .int (nI (a)), .int (nI (n)), .int (bI m2)])), (qa, .inl (cA, 1200, .inl (f)))]) (va_A [(h0, .inr (1, [.ref qw, .int pl, .int rg])), (qw, .inr (0, [.ref qa, .int (nI (a)), .int (nI (n)), .int (bI mi)])), (qa, .inl (cA, 1200, .inl (f)))] sz)) 0 0 (va_A [(h0, .inr (1, [.ref qw, .int pl, .int rg])), (qw, .inr (0, [.ref qa, .int (nI (a)), .int (nI (n)), .int (bI mi)])), (qa, .inl (cA, 1200, .inl (f)))] sz) := by
  refine Met.ofW (cc := b_CM_isRight) (maxL := 4) (ret := (some .boolean)) (by decide) rfl ?_
  intro p e s m args below meth c s₁ B hml hv
  obtain ⟨rfl, hsz, hP, hK, hD0⟩ := hv
  have hx := B.exec
  have hb := B.bytes
  have hr := B.returns
  have hts := atoms_spec (ws := s_CM_isRight) B.pre
  have hown : s.vm.findClass R_CM = some m.cls := findClass_of_methodNamed B.named
  have hlocks := B.notSynchronized
  subst hsz
  have hD := hD0.self (sz := s.heap.size)
  generalize hAe : va_A [(h0, .inr (1, [.ref qw, .int pl, .int rg])), (qw, .inr (0, [.ref qa, .int (nI (a)), .int (nI (n)), .int (bI mi)])), (qa, .inl (cA, 1200, .inl (f)))] s.heap.size = A at hD ⊢
  have hA : ∀ q : Nat, s.heap.size ≤ q → A q := fun q h => by rw [← hAe]; exact Or.inr h
  have hS : va_S A s.heap s.heap [] := va_S.rf
  have hP : va_P (dC, dI) cls_ [(h0, .inr (1, [.ref qw, .int pl, .int rg])), (qw, .inr (0, [.ref qa, .int (nI (a)), .int (nI (n)), .int (bI mi)])), (qa, .inl (cA, 1200, .inl (f)))] s.heap := hP
  have hl := lv_entry ([.ref h0]) (n := 4) (Nat.le_of_ble_eq_true rfl)
  rw [lg_entry_eq]
  generalize (lg_sl ([.ref h0]) ++ List.replicate (4 - (lg_sl ([.ref h0])).length) Slot.unset).toArray = ls at hl ⊢
  have hl : lv_has ls 4 [(0, .ref h0)] := hl
  refine lv_aload_n hx hb d_CM_isRight_0 rfl (lv_at hl 0 rfl) ?_
  have hPc := hP.sub (ws' := [(h0, .inr (1, [.ref qw, .int pl, .int rg])), (qw, .inr (0, [.ref qa, .int (nI (a)), .int (nI (n)), .int (bI mi)])), (qa, .inl (cA, 1200, .inl (f)))]) [0, 1, 2] rfl
  have hDc := hD.sub (ws' := [(h0, .inr (1, [.ref qw, .int pl, .int rg])), (qw, .inr (0, [.ref qa, .int (nI (a)), .int (nI (n)), .int (bI mi)])), (qa, .inl (cA, 1200, .inl (f)))]) [0, 1, 2] (by decide) rfl
  have hKc := hK.sub (tys' := [(cA, .int)]) [0] rfl
  have hFc := va_free (wc := [(h0, .inr (1, [.ref qw, .int pl, .int rg])), (qw, .inr (0, [.ref qa, .int (nI (a)), .int (nI (n)), .int (bI mi)])), (qa, .inl (cA, 1200, .inl (f)))]) hD hS hA [0, 1, 2] rfl
  refine va_calll (va_runV (As := []) (rest := []) ⟨hx, hb, hml, hown, hts⟩ (g_CM_findPlace l dC dI h0 qw qa a n mi cA f pl rg s.heap.size (by omega) (by assumption)) (cwV 0 hts (tw_inV w_426 w_428 wp_8 w_5 w_429) rfl rfl rfl (by decide +kernel) ⟨Nat.le_of_ble_eq_true rfl, Nat.le_of_ble_eq_true rfl⟩) ⟨fun a U g mk q => by obtain ⟨q0, q1, qP, qK, qD⟩ := q; exact ⟨q0, q1, qP, va_K.moved (u := U) (U := U.calling g mk a) (Vm.Alike.refl U.vm) qK, qD⟩, va_recv (hK := hK) (hP := hP) (q0 := 0) (ci := 1) rfl rfl, fun U hU hW => ⟨rfl, by rw [hU], by rw [hU]; exact hPc, va_K.moved hW.alike hKc, hDc.weaken (fun _ _ _ _ => trivial)⟩⟩ rfl rfl hl.1 rfl (lv_room (Nat.le_of_ble_eq_true rfl)) d_CM_isRight_1 ⟨Nat.le_of_ble_eq_true rfl, Nat.le_of_ble_eq_true rfl⟩) hS (fun q _ h => hFc q h) hFc (fun r254 u t H1 locs ht hvm hw hB hz1 hk1 hS => ?_)
  obtain ⟨m_255, hP1, hK1, hD1⟩ := hB
  rw [ht] at hP1
  have hK1 := va_K.moved hvm.symm hK1
  obtain ⟨hP, hD⟩ := va_join (wr := []) (w1 := [(h0, .inr (1, [.ref qw, .int pl, .int rg])), (qw, .inr (0, [.ref qa, .int (nI (a)), .int (nI (n)), .int (bI m_255)])), (qa, .inl (cA, 1200, .inl (f)))]) hP hD [0, 1, 2] [] rfl rfl (by decide) (by decide) hk1 hFc hP1 hD1
  have hK := (hK.sub (tys' := []) [] rfl).app hK1
  generalize H1 = H at hP hS ⊢
  have hP : va_P (dC, dI) cls_ [(h0, .inr (1, [.ref qw, .int pl, .int rg])), (qw, .inr (0, [.ref qa, .int (nI (a)), .int (nI (n)), .int (bI m_255)])), (qa, .inl (cA, 1200, .inl (f)))] H := hP
  have hD : va_D A [(h0, .inr (1, [.ref qw, .int pl, .int rg])), (qw, .inr (0, [.ref qa, .int (nI (a)), .int (nI (n)), .int (bI m_255)])), (qa, .inl (cA, 1200, .inl (f)))] := hD
  have hK : va_K (dC, dI) cls_ [(cA, .int)] s := hK
  have hw_r254 := hw
  refine lv_lstore_n (lv' := [(1, .long r254), (0, .ref h0)]) hx hb d_CM_isRight_4 rfl hl (by decide) rfl (fun ls hl => ?_)
  refine lv_aload_n hx hb d_CM_isRight_5 rfl (lv_at hl 1 rfl) ?_
  refine va_get (D := (dC, dI)) (ci := 1) (v := .ref qw) (C := R_CM) (T := F_CM) (N := 3) hx hb hts in_CM hown hK hP 0 rfl rfl 0 (by decide) (hts _ (List.mem_cons_of_mem _ w_89)) (fun _ h9 => h9) rfl d_CM_isRight_6 ?_
  refine lv_lload_n hx hb d_CM_isRight_9 rfl (lv_at hl 0 rfl) ?_
  refine lv_ldc2 (v := 8) hx hb hown (hts _ (List.mem_cons_of_mem _ w_431)) d_CM_isRight_10 ?_
  have hPc := hP.sub (ws' := [(qw, .inr (0, [.ref qa, .int (nI (a)), .int (nI (n)), .int (bI m_255)]))]) [1] rfl
  have hDc := hD.sub (ws' := [(qw, .inr (0, [.ref qa, .int (nI (a)), .int (nI (n)), .int (bI m_255)]))]) [1] (by decide) rfl
  have hKc := hK.sub (tys' := []) [] rfl
  have hFc := va_free (wc := [(qw, .inr (0, [.ref qa, .int (nI (a)), .int (nI (n)), .int (bI m_255)]))]) hD hS hA [1] rfl
  refine va_calli (va_runV (As := [.long r254, .long 8]) (rest := []) ⟨hx, hb, hml, hown, hts⟩ (g_SP_holds l dC dI qw qa (nI (a)) (nI (n)) m_255 r254 8 H.size) (cwV 2 hts (tw_inV w_432 w_364 w_365 w_4 w_366) rfl rfl rfl (by decide +kernel) ⟨Nat.le_of_ble_eq_true rfl, Nat.le_of_ble_eq_true rfl⟩) ⟨fun a U g mk q => by obtain ⟨q0, q1, qP, qK, qD⟩ := q; exact ⟨q0, q1, qP, va_K.moved (u := U) (U := U.calling g mk a) (Vm.Alike.refl U.vm) qK, qD⟩, va_recv (hK := hK) (hP := hP) (q0 := 1) (ci := 0) rfl rfl, fun U hU hW => ⟨rfl, by rw [hU], by rw [hU]; exact hPc, va_K.moved hW.alike hKc, hDc.weaken (fun _ _ _ _ => trivial)⟩⟩ rfl rfl hl.1 rfl (lv_room (Nat.le_of_ble_eq_true rfl)) d_CM_isRight_13 ⟨Nat.le_of_ble_eq_true rfl, Nat.le_of_ble_eq_true rfl⟩) hS (fun q _ h => hFc q h) hFc (fun r256 u t H1 locs ht hvm hw hB hz1 hk1 hS => ?_)
  obtain ⟨hP1, hK1, hD1⟩ := hB
  rw [ht] at hP1
  have hK1 := va_K.moved hvm.symm hK1
  obtain ⟨hP, hD⟩ := va_join (wr := [(h0, .inr (1, [.ref qw, .int pl, .int rg])), (qa, .inl (cA, 1200, .inl (f)))]) (w1 := [(qw, .inr (0, [.ref qa, .int (nI (a)), .int (nI (n)), .int (bI m_255)]))]) hP hD [1] [0, 2] rfl rfl (by decide) (by decide) hk1 hFc hP1 hD1
  have hK := (hK.sub (tys' := [(cA, .int)]) [0] rfl).app hK1
  generalize H1 = H at hP hS ⊢
  have hP : va_P (dC, dI) cls_ [(h0, .inr (1, [.ref qw, .int pl, .int rg])), (qa, .inl (cA, 1200, .inl (f))), (qw, .inr (0, [.ref qa, .int (nI (a)), .int (nI (n)), .int (bI m_255)]))] H := hP
  have hD : va_D A [(h0, .inr (1, [.ref qw, .int pl, .int rg])), (qa, .inl (cA, 1200, .inl (f))), (qw, .inr (0, [.ref qa, .int (nI (a)), .int (nI (n)), .int (bI m_255)]))] := hD
  have hK : va_K (dC, dI) cls_ [(cA, .int)] s := hK
  have hw_r256 := hw
  obtain ⟨bb257, rfl⟩ := hw_r256
  refine lv_if_ne (tgt := 21) hx hb d_CM_isRight_16 (by decide) (fun hc258 => ?_) (fun hc258 => ?_)
  · skip
    have hc258b : bb257 = true := bI_1 hc258
    refine lv_aload_n hx hb d_CM_isRight_21 rfl (lv_at hl 1 rfl) ?_
    refine lv_lload_n hx hb d_CM_isRight_22 rfl (lv_at hl 0 rfl) ?_
    refine lv_l2i (v := r254.toInt32) hx hb d_CM_isRight_23 rfl ?_
    refine lv_topi (fun v259 ev259 => ?_)
    refine va_put (D := (dC, dI)) (ci := 1) (v := .int v259) (ty := .int) (C := R_CM) (T := F_CM) (N := 3) hx hb hts in_CM t_CM t_CM_ok n_CM hown hK hP hD hS 0 rfl rfl 1 (by decide) (hts _ (List.mem_cons_of_mem _ w_91)) (fun _ h9 => h9) rfl  (by decide +kernel) rfl rfl (Nat.le_of_ble_eq_true rfl) d_CM_isRight_24 (fun H locs hP hD hS => ?_)
    have hP : va_P (dC, dI) cls_ [(h0, .inr (1, [.ref qw, .int v259, .int rg])), (qa, .inl (cA, 1200, .inl (f))), (qw, .inr (0, [.ref qa, .int (nI (a)), .int (nI (n)), .int (bI m_255)]))] H := hP
    have hD : va_D A [(h0, .inr (1, [.ref qw, .int v259, .int rg])), (qa, .inl (cA, 1200, .inl (f))), (qw, .inr (0, [.ref qa, .int (nI (a)), .int (nI (n)), .int (bI m_255)]))] := hD
    refine lv_aload_n hx hb d_CM_isRight_27 rfl (lv_at hl 1 rfl) ?_
    refine va_get (D := (dC, dI)) (ci := 1) (v := .ref qw) (C := R_CM) (T := F_CM) (N := 3) hx hb hts in_CM hown hK hP 0 rfl rfl 0 (by decide) (hts _ (List.mem_cons_of_mem _ w_89)) (fun _ h9 => h9) rfl d_CM_isRight_28 ?_
    refine lv_aload_n hx hb d_CM_isRight_31 rfl (lv_at hl 1 rfl) ?_
    refine va_get (D := (dC, dI)) (ci := 1) (v := .int v259) (C := R_CM) (T := F_CM) (N := 3) hx hb hts in_CM hown hK hP 0 rfl rfl 1 (by decide) (hts _ (List.mem_cons_of_mem _ w_91)) (fun _ h9 => h9) rfl d_CM_isRight_32 ?_
    refine lv_bipush (v := 6) hx hb d_CM_isRight_35 (by decide) ?_
    refine lv_iadd hx hb d_CM_isRight_37 ?_
    refine lv_topi (fun v260 ev260 => ?_)
    have hPc := hP.sub (ws' := [(qw, .inr (0, [.ref qa, .int (nI (a)), .int (nI (n)), .int (bI m_255)])), (qa, .inl (cA, 1200, .inl (f)))]) [2, 1] rfl
    have hDc := hD.sub (ws' := [(qw, .inr (0, [.ref qa, .int (nI (a)), .int (nI (n)), .int (bI m_255)])), (qa, .inl (cA, 1200, .inl (f)))]) [2, 1] (by decide) rfl
    have hKc := hK.sub (tys' := [(cA, .int)]) [0] rfl
    have hFc := va_free (wc := [(qw, .inr (0, [.ref qa, .int (nI (a)), .int (nI (n)), .int (bI m_255)])), (qa, .inl (cA, 1200, .inl (f)))]) hD hS hA [2, 1] rfl
    refine va_calli (va_runV (As := [.int v260]) (rest := []) ⟨hx, hb, hml, hown, hts⟩ (g_SP_u16 l dC dI qw qa a n m_255 cA f v260 H.size (by omega) (by assumption)) (cwV 1 hts (tw_inV w_430 w_353 w_354 w_4 w_355) rfl rfl rfl (by decide +kernel) ⟨Nat.le_of_ble_eq_true rfl, Nat.le_of_ble_eq_true rfl⟩) ⟨fun a U g mk q => by obtain ⟨q0, q1, qP, qK, qD⟩ := q; exact ⟨q0, q1, qP, va_K.moved (u := U) (U := U.calling g mk a) (Vm.Alike.refl U.vm) qK, qD⟩, va_recv (hK := hK) (hP := hP) (q0 := 2) (ci := 0) rfl rfl, fun U hU hW => ⟨rfl, by rw [hU], by rw [hU]; exact hPc, va_K.moved hW.alike hKc, hDc.weaken (fun _ _ _ _ => trivial)⟩⟩ rfl rfl hl.1 rfl (lv_room (Nat.le_of_ble_eq_true rfl)) d_CM_isRight_38 ⟨Nat.le_of_ble_eq_true rfl, Nat.le_of_ble_eq_true rfl⟩) hS (fun q _ h => hFc q h) hFc (fun r261 u t H1 locs ht hvm hw hB hz1 hk1 hS => ?_)
    obtain ⟨m_262, hP1, hK1, hD1⟩ := hB
    rw [ht] at hP1
    have hK1 := va_K.moved hvm.symm hK1
    obtain ⟨hP, hD⟩ := va_join (wr := [(h0, .inr (1, [.ref qw, .int v259, .int rg]))]) (w1 := [(qw, .inr (0, [.ref qa, .int (nI (a)), .int (nI (n)), .int (bI m_262)])), (qa, .inl (cA, 1200, .inl (f)))]) hP hD [2, 1] [0] rfl rfl (by decide) (by decide) hk1 hFc hP1 hD1
    have hK := (hK.sub (tys' := []) [] rfl).app hK1
    generalize H1 = H at hP hS ⊢
    have hP : va_P (dC, dI) cls_ [(h0, .inr (1, [.ref qw, .int v259, .int rg])), (qw, .inr (0, [.ref qa, .int (nI (a)), .int (nI (n)), .int (bI m_262)])), (qa, .inl (cA, 1200, .inl (f)))] H := hP
    have hD : va_D A [(h0, .inr (1, [.ref qw, .int v259, .int rg])), (qw, .inr (0, [.ref qa, .int (nI (a)), .int (nI (n)), .int (bI m_262)])), (qa, .inl (cA, 1200, .inl (f)))] := hD
    have hK : va_K (dC, dI) cls_ [(cA, .int)] s := hK
    have hw_r261 := hw
    obtain ⟨kn263, hb_kn263, rfl⟩ := hw_r261
    refine lv_istore_n (lv' := [(3, .int (nI (kn263))), (1, .long r254), (0, .ref h0)]) hx hb d_CM_isRight_41 rfl hl (by decide) rfl (fun ls hl => ?_)
    refine lv_aload_n hx hb d_CM_isRight_42 rfl (lv_at hl 2 rfl) ?_
    refine lv_iload_n hx hb d_CM_isRight_43 rfl (lv_at hl 0 rfl) ?_
    refine lv_iconst (v := 2) hx hb d_CM_isRight_44 (by decide) ?_
    refine lv_idiv hx hb d_CM_isRight_45 (by decide +kernel) ?_
    refine lv_ci (y := nI (kn263 / 2)) (pk_div (a := kn263) (d := 2) (by omega) (by decide) (by decide)) ?_
    refine va_put (D := (dC, dI)) (ci := 1) (v := .int (nI (kn263 / 2))) (ty := .int) (C := R_CM) (T := F_CM) (N := 3) hx hb hts in_CM t_CM t_CM_ok n_CM hown hK hP hD hS 0 rfl rfl 2 (by decide) (hts _ (List.mem_cons_of_mem _ w_92)) (fun _ h9 => h9) rfl  (by decide +kernel) rfl rfl (Nat.le_of_ble_eq_true rfl) d_CM_isRight_46 (fun H locs hP hD hS => ?_)
    have hP : va_P (dC, dI) cls_ [(h0, .inr (1, [.ref qw, .int v259, .int (nI (kn263 / 2))])), (qw, .inr (0, [.ref qa, .int (nI (a)), .int (nI (n)), .int (bI m_262)])), (qa, .inl (cA, 1200, .inl (f)))] H := hP
    have hD : va_D A [(h0, .inr (1, [.ref qw, .int v259, .int (nI (kn263 / 2))])), (qw, .inr (0, [.ref qa, .int (nI (a)), .int (nI (n)), .int (bI m_262)])), (qa, .inl (cA, 1200, .inl (f)))] := hD
    refine lv_aload_n hx hb d_CM_isRight_49 rfl (lv_at hl 2 rfl) ?_
    refine va_get (D := (dC, dI)) (ci := 1) (v := .ref qw) (C := R_CM) (T := F_CM) (N := 3) hx hb hts in_CM hown hK hP 0 rfl rfl 0 (by decide) (hts _ (List.mem_cons_of_mem _ w_89)) (fun _ h9 => h9) rfl d_CM_isRight_50 ?_
    refine lv_aload_n hx hb d_CM_isRight_53 rfl (lv_at hl 2 rfl) ?_
    refine va_get (D := (dC, dI)) (ci := 1) (v := .int v259) (C := R_CM) (T := F_CM) (N := 3) hx hb hts in_CM hown hK hP 0 rfl rfl 1 (by decide) (hts _ (List.mem_cons_of_mem _ w_91)) (fun _ h9 => h9) rfl d_CM_isRight_54 ?_
    have hPc := hP.sub (ws' := [(qw, .inr (0, [.ref qa, .int (nI (a)), .int (nI (n)), .int (bI m_262)])), (qa, .inl (cA, 1200, .inl (f)))]) [1, 2] rfl
    have hDc := hD.sub (ws' := [(qw, .inr (0, [.ref qa, .int (nI (a)), .int (nI (n)), .int (bI m_262)])), (qa, .inl (cA, 1200, .inl (f)))]) [1, 2] (by decide) rfl
    have hKc := hK.sub (tys' := [(cA, .int)]) [0] rfl
    have hFc := va_free (wc := [(qw, .inr (0, [.ref qa, .int (nI (a)), .int (nI (n)), .int (bI m_262)])), (qa, .inl (cA, 1200, .inl (f)))]) hD hS hA [1, 2] rfl
    refine va_calli (va_runV (As := [.int v259]) (rest := []) ⟨hx, hb, hml, hown, hts⟩ (g_SP_u16 l dC dI qw qa a n m_262 cA f v259 H.size (by omega) (by assumption)) (cwV 1 hts (tw_inV w_430 w_353 w_354 w_4 w_355) rfl rfl rfl (by decide +kernel) ⟨Nat.le_of_ble_eq_true rfl, Nat.le_of_ble_eq_true rfl⟩) ⟨fun a U g mk q => by obtain ⟨q0, q1, qP, qK, qD⟩ := q; exact ⟨q0, q1, qP, va_K.moved (u := U) (U := U.calling g mk a) (Vm.Alike.refl U.vm) qK, qD⟩, va_recv (hK := hK) (hP := hP) (q0 := 1) (ci := 0) rfl rfl, fun U hU hW => ⟨rfl, by rw [hU], by rw [hU]; exact hPc, va_K.moved hW.alike hKc, hDc.weaken (fun _ _ _ _ => trivial)⟩⟩ rfl rfl hl.1 rfl (lv_room (Nat.le_of_ble_eq_true rfl)) d_CM_isRight_57 ⟨Nat.le_of_ble_eq_true rfl, Nat.le_of_ble_eq_true rfl⟩) hS (fun q _ h => hFc q h) hFc (fun r264 u t H1 locs ht hvm hw hB hz1 hk1 hS => ?_)
    obtain ⟨m_265, hP1, hK1, hD1⟩ := hB
    rw [ht] at hP1
    have hK1 := va_K.moved hvm.symm hK1
    obtain ⟨hP, hD⟩ := va_join (wr := [(h0, .inr (1, [.ref qw, .int v259, .int (nI (kn263 / 2))]))]) (w1 := [(qw, .inr (0, [.ref qa, .int (nI (a)), .int (nI (n)), .int (bI m_265)])), (qa, .inl (cA, 1200, .inl (f)))]) hP hD [1, 2] [0] rfl rfl (by decide) (by decide) hk1 hFc hP1 hD1
    have hK := (hK.sub (tys' := []) [] rfl).app hK1
    generalize H1 = H at hP hS ⊢
    have hP : va_P (dC, dI) cls_ [(h0, .inr (1, [.ref qw, .int v259, .int (nI (kn263 / 2))])), (qw, .inr (0, [.ref qa, .int (nI (a)), .int (nI (n)), .int (bI m_265)])), (qa, .inl (cA, 1200, .inl (f)))] H := hP
    have hD : va_D A [(h0, .inr (1, [.ref qw, .int v259, .int (nI (kn263 / 2))])), (qw, .inr (0, [.ref qa, .int (nI (a)), .int (nI (n)), .int (bI m_265)])), (qa, .inl (cA, 1200, .inl (f)))] := hD
    have hK : va_K (dC, dI) cls_ [(cA, .int)] s := hK
    have hw_r264 := hw
    obtain ⟨kn266, hb_kn266, rfl⟩ := hw_r264
    refine lv_iconst (v := 4) hx hb d_CM_isRight_60 (by decide) ?_
    refine lv_icmp_ne (tgt := 117) hx hb d_CM_isRight_61 (by decide) (fun hc267 => ?_) (fun hc267 => ?_)
    · skip
      have hc267n : ¬ kn266 = 4 := fun z => hc267 ((nI_eq (a := kn266) (b := 4) (by omega) (by omega)).mpr z)
      refine lv_iconst (v := 0) hx hb d_CM_isRight_117 (by decide) ?_
      refine W.widen (k := 0) (n := 0) (Nat.le_of_ble_eq_true rfl) (Nat.le_of_ble_eq_true rfl) ?_
      have hP9 := hP.sub (ws' := [(h0, .inr (1, [.ref qw, .int v259, .int (nI (kn263 / 2))])), (qw, .inr (0, [.ref qa, .int (nI (a)), .int (nI (n)), .int (bI m_265)])), (qa, .inl (cA, 1200, .inl (f)))]) [0, 1, 2] rfl
      have hD9 := hD.sub (ws' := [(h0, .inr (1, [.ref qw, .int v259, .int (nI (kn263 / 2))])), (qw, .inr (0, [.ref qa, .int (nI (a)), .int (nI (n)), .int (bI m_265)])), (qa, .inl (cA, 1200, .inl (f)))]) [0, 1, 2] (by decide) rfl
      have hK9 := hK.sub (tys' := [(cA, .int)]) [0] rfl
      exact W.zret (v := 0) (ty := .boolean) hx hb hr (by decide +kernel) (fun t ht hW => ⟨⟨0, (), rfl, ⟨false, rfl⟩, m_265, v259, (nI (kn263 / 2)), by rw [ht]; exact hP9, va_K.moved hW.alike hK9, hD9⟩, hS.F ht⟩) hS.2.2 d_CM_isRight_118
    · skip
      have hc267n : kn266 = 4 := (nI_eq (a := kn266) (b := 4) (by omega) (by omega)).mp hc267
      refine lv_iload_n hx hb d_CM_isRight_64 rfl (lv_at hl 0 rfl) ?_
      refine lv_iconst (v := 2) hx hb d_CM_isRight_65 (by decide) ?_
      refine lv_irem hx hb d_CM_isRight_66 (by decide +kernel) ?_
      refine lv_ci (y := nI (kn263 % 2)) (pk_rem (a := kn263) (d := 2) (by omega) (by decide) (by decide)) ?_
      refine lv_if_ne (tgt := 117) hx hb d_CM_isRight_67 (by decide) (fun hc268 => ?_) (fun hc268 => ?_)
      · skip
        have hc268n : ¬ kn263 % 2 = 0 := fun z => hc268 ((nI_eq (a := kn263 % 2) (b := 0) (by omega) (by omega)).mpr z)
        refine lv_iconst (v := 0) hx hb d_CM_isRight_117 (by decide) ?_
        refine W.widen (k := 0) (n := 0) (Nat.le_of_ble_eq_true rfl) (Nat.le_of_ble_eq_true rfl) ?_
        have hP9 := hP.sub (ws' := [(h0, .inr (1, [.ref qw, .int v259, .int (nI (kn263 / 2))])), (qw, .inr (0, [.ref qa, .int (nI (a)), .int (nI (n)), .int (bI m_265)])), (qa, .inl (cA, 1200, .inl (f)))]) [0, 1, 2] rfl
        have hD9 := hD.sub (ws' := [(h0, .inr (1, [.ref qw, .int v259, .int (nI (kn263 / 2))])), (qw, .inr (0, [.ref qa, .int (nI (a)), .int (nI (n)), .int (bI m_265)])), (qa, .inl (cA, 1200, .inl (f)))]) [0, 1, 2] (by decide) rfl
        have hK9 := hK.sub (tys' := [(cA, .int)]) [0] rfl
        exact W.zret (v := 0) (ty := .boolean) hx hb hr (by decide +kernel) (fun t ht hW => ⟨⟨0, (), rfl, ⟨false, rfl⟩, m_265, v259, (nI (kn263 / 2)), by rw [ht]; exact hP9, va_K.moved hW.alike hK9, hD9⟩, hS.F ht⟩) hS.2.2 d_CM_isRight_118
      · skip
        have hc268n : kn263 % 2 = 0 := (nI_eq (a := kn263 % 2) (b := 0) (by omega) (by omega)).mp hc268
        refine lv_aload_n hx hb d_CM_isRight_70 rfl (lv_at hl 2 rfl) ?_
        refine va_get (D := (dC, dI)) (ci := 1) (v := .int (nI (kn263 / 2))) (C := R_CM) (T := F_CM) (N := 3) hx hb hts in_CM hown hK hP 0 rfl rfl 2 (by decide) (hts _ (List.mem_cons_of_mem _ w_92)) (fun _ h9 => h9) rfl d_CM_isRight_71 ?_
        refine lv_iconst (v := 1) hx hb d_CM_isRight_74 (by decide) ?_
        refine lv_icmp_lt (tgt := 117) hx hb d_CM_isRight_75 (by decide) (fun hc269 => ?_) (fun hc269 => ?_)
        · skip
          have hc269n : kn263 / 2 < 1 := (nI_ltI (a := kn263 / 2) (b := 1) (by omega) (by omega)).mp hc269
          refine lv_iconst (v := 0) hx hb d_CM_isRight_117 (by decide) ?_
          refine W.widen (k := 0) (n := 0) (Nat.le_of_ble_eq_true rfl) (Nat.le_of_ble_eq_true rfl) ?_
          have hP9 := hP.sub (ws' := [(h0, .inr (1, [.ref qw, .int v259, .int (nI (kn263 / 2))])), (qw, .inr (0, [.ref qa, .int (nI (a)), .int (nI (n)), .int (bI m_265)])), (qa, .inl (cA, 1200, .inl (f)))]) [0, 1, 2] rfl
          have hD9 := hD.sub (ws' := [(h0, .inr (1, [.ref qw, .int v259, .int (nI (kn263 / 2))])), (qw, .inr (0, [.ref qa, .int (nI (a)), .int (nI (n)), .int (bI m_265)])), (qa, .inl (cA, 1200, .inl (f)))]) [0, 1, 2] (by decide) rfl
          have hK9 := hK.sub (tys' := [(cA, .int)]) [0] rfl
          exact W.zret (v := 0) (ty := .boolean) hx hb hr (by decide +kernel) (fun t ht hW => ⟨⟨0, (), rfl, ⟨false, rfl⟩, m_265, v259, (nI (kn263 / 2)), by rw [ht]; exact hP9, va_K.moved hW.alike hK9, hD9⟩, hS.F ht⟩) hS.2.2 d_CM_isRight_118
        · skip
          have hc269n : ¬ (kn263 / 2 < 1) := fun z => hc269 ((nI_ltI (a := kn263 / 2) (b := 1) (by omega) (by omega)).mpr z)
          refine lv_aload_n hx hb d_CM_isRight_78 rfl (lv_at hl 2 rfl) ?_
          refine va_get (D := (dC, dI)) (ci := 1) (v := .ref qw) (C := R_CM) (T := F_CM) (N := 3) hx hb hts in_CM hown hK hP 0 rfl rfl 0 (by decide) (hts _ (List.mem_cons_of_mem _ w_89)) (fun _ h9 => h9) rfl d_CM_isRight_79 ?_
          refine lv_aload_n hx hb d_CM_isRight_82 rfl (lv_at hl 2 rfl) ?_
          refine va_get (D := (dC, dI)) (ci := 1) (v := .int v259) (C := R_CM) (T := F_CM) (N := 3) hx hb hts in_CM hown hK hP 0 rfl rfl 1 (by decide) (hts _ (List.mem_cons_of_mem _ w_91)) (fun _ h9 => h9) rfl d_CM_isRight_83 ?_
          refine lv_i2l (v := v259.toInt64) hx hb d_CM_isRight_86 (by first | rfl | decide +kernel) ?_
          refine lv_ldc2 (v := 16) hx hb hown (hts _ (List.mem_cons_of_mem _ w_435)) d_CM_isRight_87 ?_
          refine lv_ldc2 (v := 8) hx hb hown (hts _ (List.mem_cons_of_mem _ w_431)) d_CM_isRight_90 ?_
          refine lv_aload_n hx hb d_CM_isRight_93 rfl (lv_at hl 2 rfl) ?_
          refine va_get (D := (dC, dI)) (ci := 1) (v := .int (nI (kn263 / 2))) (C := R_CM) (T := F_CM) (N := 3) hx hb hts in_CM hown hK hP 0 rfl rfl 2 (by decide) (hts _ (List.mem_cons_of_mem _ w_92)) (fun _ h9 => h9) rfl d_CM_isRight_94 ?_
          refine lv_i2l (v := (nI (kn263 / 2)).toInt64) hx hb d_CM_isRight_97 (by first | rfl | decide +kernel) ?_
          refine lv_lmul hx hb d_CM_isRight_98 ?_
          refine lv_topl (fun v270 ev270 => ?_)
          refine lv_ladd hx hb d_CM_isRight_99 ?_
          refine lv_topl (fun v271 ev271 => ?_)
          have hPc := hP.sub (ws' := [(qw, .inr (0, [.ref qa, .int (nI (a)), .int (nI (n)), .int (bI m_265)]))]) [1] rfl
          have hDc := hD.sub (ws' := [(qw, .inr (0, [.ref qa, .int (nI (a)), .int (nI (n)), .int (bI m_265)]))]) [1] (by decide) rfl
          have hKc := hK.sub (tys' := []) [] rfl
          have hFc := va_free (wc := [(qw, .inr (0, [.ref qa, .int (nI (a)), .int (nI (n)), .int (bI m_265)]))]) hD hS hA [1] rfl
          refine va_calli (va_runV (As := [.long v259.toInt64, .long v271]) (rest := []) ⟨hx, hb, hml, hown, hts⟩ (g_SP_holds l dC dI qw qa (nI (a)) (nI (n)) m_265 v259.toInt64 v271 H.size) (cwV 2 hts (tw_inV w_432 w_364 w_365 w_4 w_366) rfl rfl rfl (by decide +kernel) ⟨Nat.le_of_ble_eq_true rfl, Nat.le_of_ble_eq_true rfl⟩) ⟨fun a U g mk q => by obtain ⟨q0, q1, qP, qK, qD⟩ := q; exact ⟨q0, q1, qP, va_K.moved (u := U) (U := U.calling g mk a) (Vm.Alike.refl U.vm) qK, qD⟩, va_recv (hK := hK) (hP := hP) (q0 := 1) (ci := 0) rfl rfl, fun U hU hW => ⟨rfl, by rw [hU], by rw [hU]; exact hPc, va_K.moved hW.alike hKc, hDc.weaken (fun _ _ _ _ => trivial)⟩⟩ rfl rfl hl.1 rfl (lv_room (Nat.le_of_ble_eq_true rfl)) d_CM_isRight_100 ⟨Nat.le_of_ble_eq_true rfl, Nat.le_of_ble_eq_true rfl⟩) hS (fun q _ h => hFc q h) hFc (fun r272 u t H1 locs ht hvm hw hB hz1 hk1 hS => ?_)
          obtain ⟨hP1, hK1, hD1⟩ := hB
          rw [ht] at hP1
          have hK1 := va_K.moved hvm.symm hK1
          obtain ⟨hP, hD⟩ := va_join (wr := [(h0, .inr (1, [.ref qw, .int v259, .int (nI (kn263 / 2))])), (qa, .inl (cA, 1200, .inl (f)))]) (w1 := [(qw, .inr (0, [.ref qa, .int (nI (a)), .int (nI (n)), .int (bI m_265)]))]) hP hD [1] [0, 2] rfl rfl (by decide) (by decide) hk1 hFc hP1 hD1
          have hK := (hK.sub (tys' := [(cA, .int)]) [0] rfl).app hK1
          generalize H1 = H at hP hS ⊢
          have hP : va_P (dC, dI) cls_ [(h0, .inr (1, [.ref qw, .int v259, .int (nI (kn263 / 2))])), (qa, .inl (cA, 1200, .inl (f))), (qw, .inr (0, [.ref qa, .int (nI (a)), .int (nI (n)), .int (bI m_265)]))] H := hP
          have hD : va_D A [(h0, .inr (1, [.ref qw, .int v259, .int (nI (kn263 / 2))])), (qa, .inl (cA, 1200, .inl (f))), (qw, .inr (0, [.ref qa, .int (nI (a)), .int (nI (n)), .int (bI m_265)]))] := hD
          have hK : va_K (dC, dI) cls_ [(cA, .int)] s := hK
          have hw_r272 := hw
          obtain ⟨bb273, rfl⟩ := hw_r272
          refine lv_if_eq (tgt := 117) hx hb d_CM_isRight_103 (by decide) (fun hc274 => ?_) (fun hc274 => ?_)
          · skip
            have hc274b : bb273 = false := bI_0 hc274
            refine lv_iconst (v := 0) hx hb d_CM_isRight_117 (by decide) ?_
            refine W.widen (k := 0) (n := 0) (Nat.le_of_ble_eq_true rfl) (Nat.le_of_ble_eq_true rfl) ?_
            have hP9 := hP.sub (ws' := [(h0, .inr (1, [.ref qw, .int v259, .int (nI (kn263 / 2))])), (qw, .inr (0, [.ref qa, .int (nI (a)), .int (nI (n)), .int (bI m_265)])), (qa, .inl (cA, 1200, .inl (f)))]) [0, 2, 1] rfl
            have hD9 := hD.sub (ws' := [(h0, .inr (1, [.ref qw, .int v259, .int (nI (kn263 / 2))])), (qw, .inr (0, [.ref qa, .int (nI (a)), .int (nI (n)), .int (bI m_265)])), (qa, .inl (cA, 1200, .inl (f)))]) [0, 2, 1] (by decide) rfl
            have hK9 := hK.sub (tys' := [(cA, .int)]) [0] rfl
            exact W.zret (v := 0) (ty := .boolean) hx hb hr (by decide +kernel) (fun t ht hW => ⟨⟨0, (), rfl, ⟨false, rfl⟩, m_265, v259, (nI (kn263 / 2)), by rw [ht]; exact hP9, va_K.moved hW.alike hK9, hD9⟩, hS.F ht⟩) hS.2.2 d_CM_isRight_118
          · skip
            have hc274b : bb273 = true := bI_1 hc274
            refine lv_aload_n hx hb d_CM_isRight_106 rfl (lv_at hl 2 rfl) ?_
            have hPc := hP.sub (ws' := [(h0, .inr (1, [.ref qw, .int v259, .int (nI (kn263 / 2))])), (qw, .inr (0, [.ref qa, .int (nI (a)), .int (nI (n)), .int (bI m_265)])), (qa, .inl (cA, 1200, .inl (f)))]) [0, 2, 1] rfl
            have hDc := hD.sub (ws' := [(h0, .inr (1, [.ref qw, .int v259, .int (nI (kn263 / 2))])), (qw, .inr (0, [.ref qa, .int (nI (a)), .int (nI (n)), .int (bI m_265)])), (qa, .inl (cA, 1200, .inl (f)))]) [0, 2, 1] (by decide) rfl
            have hKc := hK.sub (tys' := [(cA, .int)]) [0] rfl
            have hFc := va_free (wc := [(h0, .inr (1, [.ref qw, .int v259, .int (nI (kn263 / 2))])), (qw, .inr (0, [.ref qa, .int (nI (a)), .int (nI (n)), .int (bI m_265)])), (qa, .inl (cA, 1200, .inl (f)))]) hD hS hA [0, 2, 1] rfl
            refine va_calli (va_runV (As := []) (rest := []) ⟨hx, hb, hml, hown, hts⟩ (g_CM_rangesAreRight l dC dI h0 qw qa a n m_265 cA f v259 (nI (kn263 / 2)) H.size (by omega) (by assumption)) (cwV 0 hts (tw_inV w_436 w_438 wp_9 w_5 w_439) rfl rfl rfl (by decide +kernel) ⟨Nat.le_of_ble_eq_true rfl, Nat.le_of_ble_eq_true rfl⟩) ⟨fun a U g mk q => by obtain ⟨q0, q1, qP, qK, qD⟩ := q; exact ⟨q0, q1, qP, va_K.moved (u := U) (U := U.calling g mk a) (Vm.Alike.refl U.vm) qK, qD⟩, va_recv (hK := hK) (hP := hP) (q0 := 0) (ci := 1) rfl rfl, fun U hU hW => ⟨rfl, by rw [hU], by rw [hU]; exact hPc, va_K.moved hW.alike hKc, hDc.weaken (fun _ _ _ _ => trivial)⟩⟩ rfl rfl hl.1 rfl (lv_room (Nat.le_of_ble_eq_true rfl)) d_CM_isRight_107 ⟨Nat.le_of_ble_eq_true rfl, Nat.le_of_ble_eq_true rfl⟩) hS (fun q _ h => hFc q h) hFc (fun r275 u t H1 locs ht hvm hw hB hz1 hk1 hS => ?_)
            obtain ⟨m_276, hP1, hK1, hD1⟩ := hB
            rw [ht] at hP1
            have hK1 := va_K.moved hvm.symm hK1
            obtain ⟨hP, hD⟩ := va_join (wr := []) (w1 := [(h0, .inr (1, [.ref qw, .int v259, .int (nI (kn263 / 2))])), (qw, .inr (0, [.ref qa, .int (nI (a)), .int (nI (n)), .int (bI m_276)])), (qa, .inl (cA, 1200, .inl (f)))]) hP hD [0, 2, 1] [] rfl rfl (by decide) (by decide) hk1 hFc hP1 hD1
            have hK := (hK.sub (tys' := []) [] rfl).app hK1
            generalize H1 = H at hP hS ⊢
            have hP : va_P (dC, dI) cls_ [(h0, .inr (1, [.ref qw, .int v259, .int (nI (kn263 / 2))])), (qw, .inr (0, [.ref qa, .int (nI (a)), .int (nI (n)), .int (bI m_276)])), (qa, .inl (cA, 1200, .inl (f)))] H := hP
            have hD : va_D A [(h0, .inr (1, [.ref qw, .int v259, .int (nI (kn263 / 2))])), (qw, .inr (0, [.ref qa, .int (nI (a)), .int (nI (n)), .int (bI m_276)])), (qa, .inl (cA, 1200, .inl (f)))] := hD
            have hK : va_K (dC, dI) cls_ [(cA, .int)] s := hK
            have hw_r275 := hw
            obtain ⟨bb277, rfl⟩ := hw_r275
            refine lv_if_eq (tgt := 117) hx hb d_CM_isRight_110 (by decide) (fun hc278 => ?_) (fun hc278 => ?_)
            · skip
              have hc278b : bb277 = false := bI_0 hc278
              refine lv_iconst (v := 0) hx hb d_CM_isRight_117 (by decide) ?_
              refine W.widen (k := 0) (n := 0) (Nat.le_of_ble_eq_true rfl) (Nat.le_of_ble_eq_true rfl) ?_
              have hP9 := hP.sub (ws' := [(h0, .inr (1, [.ref qw, .int v259, .int (nI (kn263 / 2))])), (qw, .inr (0, [.ref qa, .int (nI (a)), .int (nI (n)), .int (bI m_276)])), (qa, .inl (cA, 1200, .inl (f)))]) [0, 1, 2] rfl
              have hD9 := hD.sub (ws' := [(h0, .inr (1, [.ref qw, .int v259, .int (nI (kn263 / 2))])), (qw, .inr (0, [.ref qa, .int (nI (a)), .int (nI (n)), .int (bI m_276)])), (qa, .inl (cA, 1200, .inl (f)))]) [0, 1, 2] (by decide) rfl
              have hK9 := hK.sub (tys' := [(cA, .int)]) [0] rfl
              exact W.zret (v := 0) (ty := .boolean) hx hb hr (by decide +kernel) (fun t ht hW => ⟨⟨0, (), rfl, ⟨false, rfl⟩, m_276, v259, (nI (kn263 / 2)), by rw [ht]; exact hP9, va_K.moved hW.alike hK9, hD9⟩, hS.F ht⟩) hS.2.2 d_CM_isRight_118
            · skip
              have hc278b : bb277 = true := bI_1 hc278
              refine lv_iconst (v := 1) hx hb d_CM_isRight_113 (by decide) ?_
              refine lv_goto (tgt := 118) hx hb d_CM_isRight_114 (by decide) ?_
              refine W.widen (k := 0) (n := 0) (Nat.le_of_ble_eq_true rfl) (Nat.le_of_ble_eq_true rfl) ?_
              have hP9 := hP.sub (ws' := [(h0, .inr (1, [.ref qw, .int v259, .int (nI (kn263 / 2))])), (qw, .inr (0, [.ref qa, .int (nI (a)), .int (nI (n)), .int (bI m_276)])), (qa, .inl (cA, 1200, .inl (f)))]) [0, 1, 2] rfl
              have hD9 := hD.sub (ws' := [(h0, .inr (1, [.ref qw, .int v259, .int (nI (kn263 / 2))])), (qw, .inr (0, [.ref qa, .int (nI (a)), .int (nI (n)), .int (bI m_276)])), (qa, .inl (cA, 1200, .inl (f)))]) [0, 1, 2] (by decide) rfl
              have hK9 := hK.sub (tys' := [(cA, .int)]) [0] rfl
              exact W.zret (v := 1) (ty := .boolean) hx hb hr (by decide +kernel) (fun t ht hW => ⟨⟨1, (), rfl, ⟨true, rfl⟩, m_276, v259, (nI (kn263 / 2)), by rw [ht]; exact hP9, va_K.moved hW.alike hK9, hD9⟩, hS.F ht⟩) hS.2.2 d_CM_isRight_118
  · skip
    have hc258b : bb257 = false := bI_0 hc258
    refine lv_iconst (v := 0) hx hb d_CM_isRight_19 (by decide) ?_
    refine W.widen (k := 0) (n := 0) (Nat.le_of_ble_eq_true rfl) (Nat.le_of_ble_eq_true rfl) ?_
    have hP9 := hP.sub (ws' := [(h0, .inr (1, [.ref qw, .int pl, .int rg])), (qw, .inr (0, [.ref qa, .int (nI (a)), .int (nI (n)), .int (bI m_255)])), (qa, .inl (cA, 1200, .inl (f)))]) [0, 2, 1] rfl
    have hD9 := hD.sub (ws' := [(h0, .inr (1, [.ref qw, .int pl, .int rg])), (qw, .inr (0, [.ref qa, .int (nI (a)), .int (nI (n)), .int (bI m_255)])), (qa, .inl (cA, 1200, .inl (f)))]) [0, 2, 1] (by decide) rfl
    have hK9 := hK.sub (tys' := [(cA, .int)]) [0] rfl
    exact W.zret (v := 0) (ty := .boolean) hx hb hr (by decide +kernel) (fun t ht hW => ⟨⟨0, (), rfl, ⟨false, rfl⟩, m_255, pl, rg, by rw [ht]; exact hP9, va_K.moved hW.alike hK9, hD9⟩, hS.F ht⟩) hS.2.2 d_CM_isRight_20
