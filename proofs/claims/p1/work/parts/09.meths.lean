abbrev b_GL_feed : ByteArray := prog_1_method_2_code
def y_GL_feed : MethodName := ⟨R_GL, "feed", "(I)I"⟩
def s_GL_feed : List Cond := .code y_GL_feed b_GL_feed 3 (some .int) :: tw_T
abbrev b_GL_at : ByteArray := prog_1_method_4_code
def y_GL_at : MethodName := ⟨R_GL, "at", "(I)I"⟩
def s_GL_at : List Cond := .code y_GL_at b_GL_at 2 (some .int) :: tw_T
abbrev b_GL_wipe : ByteArray := prog_1_method_12_code
def y_GL_wipe : MethodName := ⟨R_GL, "wipe", "()I"⟩
def s_GL_wipe : List Cond := .code y_GL_wipe b_GL_wipe 2 (some .int) :: tw_T
abbrev b_GL_isCharacter : ByteArray := prog_1_method_17_code
def y_GL_isCharacter : MethodName := ⟨R_GL, "isCharacter", "(I)Z"⟩
def s_GL_isCharacter : List Cond := .code y_GL_isCharacter b_GL_isCharacter 1 (some .boolean) :: tw_T
abbrev b_GL_type : ByteArray := prog_1_method_11_code
def y_GL_type : MethodName := ⟨R_GL, "type", "(I)Z"⟩
def s_GL_type : List Cond := .code y_GL_type b_GL_type 2 (some .boolean) :: tw_T
abbrev b_SP_lay : ByteArray := prog_10_method_2_code
def y_SP_lay : MethodName := ⟨R_SP, "lay", "(II)V"⟩
def s_SP_lay : List Cond := .code y_SP_lay b_SP_lay 3 none :: tw_T
abbrev b_SP_u16 : ByteArray := prog_10_method_5_code
def y_SP_u16 : MethodName := ⟨R_SP, "u16", "(I)I"⟩
def s_SP_u16 : List Cond := .code y_SP_u16 b_SP_u16 2 (some .int) :: tw_T
abbrev b_SP_u32 : ByteArray := prog_10_method_6_code
def y_SP_u32 : MethodName := ⟨R_SP, "u32", "(I)J"⟩
def s_SP_u32 : List Cond := .code y_SP_u32 b_SP_u32 6 (some .long) :: tw_T
abbrev b_DI_isRight : ByteArray := prog_4_method_2_code
def y_DI_isRight : MethodName := ⟨R_DI, "isRight", "(I)Z"⟩
def s_DI_isRight : List Cond := .code y_DI_isRight b_DI_isRight 7 (some .boolean) :: tw_T
abbrev b_FO_loadFrom : ByteArray := prog_5_method_2_code
def y_FO_loadFrom : MethodName := ⟨R_FO, "loadFrom", "([IIZLGlyphLines$Outline;)I"⟩
def s_FO_loadFrom : List Cond := .code y_FO_loadFrom b_FO_loadFrom 6 (some .int) :: tw_T
abbrev b_GL_load : ByteArray := prog_1_method_6_code
def y_GL_load : MethodName := ⟨R_GL, "load", "(Z)I"⟩
def s_GL_load : List Cond := .code y_GL_load b_GL_load 4 (some .int) :: tw_T
theorem w_17 : (Jvm.Cond.initialized "java/lang/Math") ∈ tw_T := tw_of 17 (by decide +kernel) (by decide +kernel)
theorem w_18 : (Jvm.Cond.initialized "java/lang/System") ∈ tw_T := tw_of 18 (by decide +kernel) (by decide +kernel)
theorem w_330 : (Jvm.Cond.methodLink "GlyphLines" (80 : Nat) ({ cls := "GlyphLines$Font", name := "loadFrom", desc := "([IIZLGlyphLines$Outline;)I" } : Jvm.MethodName)) ∈ tw_T := tw_of 330 (by decide +kernel) (by decide +kernel)
theorem w_331 : (Jvm.Cond.instanceMethod ({ cls := "GlyphLines$Font", name := "loadFrom", desc := "([IIZLGlyphLines$Outline;)I" } : Jvm.MethodName)) ∈ tw_T := tw_of 331 (by decide +kernel) (by decide +kernel)
theorem w_332 : (Jvm.Cond.selects "GlyphLines$Font" ({ cls := "GlyphLines$Font", name := "loadFrom", desc := "([IIZLGlyphLines$Outline;)I" } : Jvm.MethodName) ({ cls := "GlyphLines$Font", name := "loadFrom", desc := "([IIZLGlyphLines$Outline;)I" } : Jvm.MethodName)) ∈ tw_T := tw_of 332 (by decide +kernel) (by decide +kernel)
theorem w_333 : (Jvm.Cond.code ({ cls := "GlyphLines$Font", name := "loadFrom", desc := "([IIZLGlyphLines$Outline;)I" } : Jvm.MethodName) prog_5_method_2_code (6 : Nat) (Option.some Jvm.ClassFile.FieldType.int)) ∈ tw_T := tw_of 333 (by decide +kernel) (by decide +kernel)
theorem w_334 : (Jvm.Cond.methodLink "GlyphLines$Font" (78 : Nat) ({ cls := "java/lang/Math", name := "min", desc := "(II)I" } : Jvm.MethodName)) ∈ tw_T := tw_of 334 (by decide +kernel) (by decide +kernel)
theorem w_335 : (Jvm.Cond.static ({ cls := "java/lang/Math", name := "min", desc := "(II)I" } : Jvm.MethodName)) ∈ tw_T := tw_of 335 (by decide +kernel) (by decide +kernel)
theorem w_336 : (Jvm.Cond.code ({ cls := "java/lang/Math", name := "min", desc := "(II)I" } : Jvm.MethodName) prog_18_method_69_code (2 : Nat) (Option.some Jvm.ClassFile.FieldType.int)) ∈ tw_T := tw_of 336 (by decide +kernel) (by decide +kernel)
theorem w_337 : (Jvm.Cond.methodLink "GlyphLines$Font" (84 : Nat) ({ cls := "java/lang/System", name := "arraycopy", desc := "(Ljava/lang/Object;ILjava/lang/Object;II)V" } : Jvm.MethodName)) ∈ tw_T := tw_of 337 (by decide +kernel) (by decide +kernel)
theorem w_338 : (Jvm.Cond.static ({ cls := "java/lang/System", name := "arraycopy", desc := "(Ljava/lang/Object;ILjava/lang/Object;II)V" } : Jvm.MethodName)) ∈ tw_T := tw_of 338 (by decide +kernel) (by decide +kernel)
theorem w_339 : (Jvm.Cond.native ({ cls := "java/lang/System", name := "arraycopy", desc := "(Ljava/lang/Object;ILjava/lang/Object;II)V" } : Jvm.MethodName)) ∈ tw_T := tw_of 339 (by decide +kernel) (by decide +kernel)
theorem w_340 : (Jvm.Cond.methodLink "GlyphLines$Font" (90 : Nat) ({ cls := "GlyphLines$Directory", name := "isRight", desc := "(I)Z" } : Jvm.MethodName)) ∈ tw_T := tw_of 340 (by decide +kernel) (by decide +kernel)
theorem w_341 : (Jvm.Cond.instanceMethod ({ cls := "GlyphLines$Directory", name := "isRight", desc := "(I)Z" } : Jvm.MethodName)) ∈ tw_T := tw_of 341 (by decide +kernel) (by decide +kernel)
theorem w_342 : (Jvm.Cond.selects "GlyphLines$Directory" ({ cls := "GlyphLines$Directory", name := "isRight", desc := "(I)Z" } : Jvm.MethodName) ({ cls := "GlyphLines$Directory", name := "isRight", desc := "(I)Z" } : Jvm.MethodName)) ∈ tw_T := tw_of 342 (by decide +kernel) (by decide +kernel)
theorem w_343 : (Jvm.Cond.code ({ cls := "GlyphLines$Directory", name := "isRight", desc := "(I)Z" } : Jvm.MethodName) prog_4_method_2_code (7 : Nat) (Option.some Jvm.ClassFile.FieldType.boolean)) ∈ tw_T := tw_of 343 (by decide +kernel) (by decide +kernel)
theorem w_344 : (Jvm.Cond.methodLink "GlyphLines$Directory" (25 : Nat) ({ cls := "GlyphLines$Span", name := "lay", desc := "(II)V" } : Jvm.MethodName)) ∈ tw_T := tw_of 344 (by decide +kernel) (by decide +kernel)
theorem w_345 : (Jvm.Cond.instanceMethod ({ cls := "GlyphLines$Span", name := "lay", desc := "(II)V" } : Jvm.MethodName)) ∈ tw_T := tw_of 345 (by decide +kernel) (by decide +kernel)
theorem w_346 : (Jvm.Cond.selects "GlyphLines$Span" ({ cls := "GlyphLines$Span", name := "lay", desc := "(II)V" } : Jvm.MethodName) ({ cls := "GlyphLines$Span", name := "lay", desc := "(II)V" } : Jvm.MethodName)) ∈ tw_T := tw_of 346 (by decide +kernel) (by decide +kernel)
theorem w_347 : (Jvm.Cond.code ({ cls := "GlyphLines$Span", name := "lay", desc := "(II)V" } : Jvm.MethodName) prog_10_method_2_code (3 : Nat) (Option.none : Option Jvm.ClassFile.FieldType)) ∈ tw_T := tw_of 347 (by decide +kernel) (by decide +kernel)
theorem w_348 : (Jvm.Cond.methodLink "GlyphLines$Span" (24 : Nat) ({ cls := "java/lang/Math", name := "min", desc := "(II)I" } : Jvm.MethodName)) ∈ tw_T := tw_of 348 (by decide +kernel) (by decide +kernel)
theorem w_349 : (Jvm.Cond.methodLink "GlyphLines$Span" (30 : Nat) ({ cls := "java/lang/Math", name := "max", desc := "(II)I" } : Jvm.MethodName)) ∈ tw_T := tw_of 349 (by decide +kernel) (by decide +kernel)
theorem w_350 : (Jvm.Cond.static ({ cls := "java/lang/Math", name := "max", desc := "(II)I" } : Jvm.MethodName)) ∈ tw_T := tw_of 350 (by decide +kernel) (by decide +kernel)
theorem w_351 : (Jvm.Cond.code ({ cls := "java/lang/Math", name := "max", desc := "(II)I" } : Jvm.MethodName) prog_18_method_65_code (2 : Nat) (Option.some Jvm.ClassFile.FieldType.int)) ∈ tw_T := tw_of 351 (by decide +kernel) (by decide +kernel)
theorem w_352 : (Jvm.Cond.methodLink "GlyphLines$Directory" (29 : Nat) ({ cls := "GlyphLines$Span", name := "u16", desc := "(I)I" } : Jvm.MethodName)) ∈ tw_T := tw_of 352 (by decide +kernel) (by decide +kernel)
theorem w_353 : (Jvm.Cond.instanceMethod ({ cls := "GlyphLines$Span", name := "u16", desc := "(I)I" } : Jvm.MethodName)) ∈ tw_T := tw_of 353 (by decide +kernel) (by decide +kernel)
theorem w_354 : (Jvm.Cond.selects "GlyphLines$Span" ({ cls := "GlyphLines$Span", name := "u16", desc := "(I)I" } : Jvm.MethodName) ({ cls := "GlyphLines$Span", name := "u16", desc := "(I)I" } : Jvm.MethodName)) ∈ tw_T := tw_of 354 (by decide +kernel) (by decide +kernel)
theorem w_355 : (Jvm.Cond.code ({ cls := "GlyphLines$Span", name := "u16", desc := "(I)I" } : Jvm.MethodName) prog_10_method_5_code (2 : Nat) (Option.some Jvm.ClassFile.FieldType.int)) ∈ tw_T := tw_of 355 (by decide +kernel) (by decide +kernel)
theorem w_356 : (Jvm.Cond.methodLink "GlyphLines$Directory" (33 : Nat) ({ cls := "GlyphLines$Span", name := "u32", desc := "(I)J" } : Jvm.MethodName)) ∈ tw_T := tw_of 356 (by decide +kernel) (by decide +kernel)
theorem w_357 : (Jvm.Cond.instanceMethod ({ cls := "GlyphLines$Span", name := "u32", desc := "(I)J" } : Jvm.MethodName)) ∈ tw_T := tw_of 357 (by decide +kernel) (by decide +kernel)
theorem w_358 : (Jvm.Cond.selects "GlyphLines$Span" ({ cls := "GlyphLines$Span", name := "u32", desc := "(I)J" } : Jvm.MethodName) ({ cls := "GlyphLines$Span", name := "u32", desc := "(I)J" } : Jvm.MethodName)) ∈ tw_T := tw_of 358 (by decide +kernel) (by decide +kernel)
theorem w_359 : (Jvm.Cond.code ({ cls := "GlyphLines$Span", name := "u32", desc := "(I)J" } : Jvm.MethodName) prog_10_method_6_code (6 : Nat) (Option.some Jvm.ClassFile.FieldType.long)) ∈ tw_T := tw_of 359 (by decide +kernel) (by decide +kernel)
theorem w_360 : (Jvm.Cond.constantLong "GlyphLines$Directory" (37 : Nat) (65536 : Int64)) ∈ tw_T := tw_of 360 (by decide +kernel) (by decide +kernel)
theorem w_540 : (Jvm.Cond.methodLink "GlyphLines" (87 : Nat) ({ cls := "GlyphLines", name := "isCharacter", desc := "(I)Z" } : Jvm.MethodName)) ∈ tw_T := tw_of 540 (by decide +kernel) (by decide +kernel)
theorem w_541 : (Jvm.Cond.static ({ cls := "GlyphLines", name := "isCharacter", desc := "(I)Z" } : Jvm.MethodName)) ∈ tw_T := tw_of 541 (by decide +kernel) (by decide +kernel)
theorem w_542 : (Jvm.Cond.code ({ cls := "GlyphLines", name := "isCharacter", desc := "(I)Z" } : Jvm.MethodName) prog_1_method_17_code (1 : Nat) (Option.some Jvm.ClassFile.FieldType.boolean)) ∈ tw_T := tw_of 542 (by decide +kernel) (by decide +kernel)
theorem w_543 : (Jvm.Cond.constant "GlyphLines" (167 : Nat) (65535 : Int32)) ∈ tw_T := tw_of 543 (by decide +kernel) (by decide +kernel)
theorem w_649 : (Jvm.Cond.methodLink "GlyphLines" (74 : Nat) ({ cls := "java/lang/Math", name := "min", desc := "(II)I" } : Jvm.MethodName)) ∈ tw_T := tw_of 649 (by decide +kernel) (by decide +kernel)
theorem d_DI_isRight_0 : decode b_DI_isRight 0 = .ok (.aload_n 0, 1) := by decide +kernel
theorem d_DI_isRight_1 : decode b_DI_isRight 1 = .ok (.getfield 18, 3) := by decide +kernel
theorem d_DI_isRight_10 : decode b_DI_isRight 10 = .ok (.aload_n 0, 1) := by decide +kernel
theorem d_DI_isRight_11 : decode b_DI_isRight 11 = .ok (.getfield 18, 3) := by decide +kernel
theorem d_DI_isRight_14 : decode b_DI_isRight 14 = .ok (.iconst 4, 1) := by decide +kernel
theorem d_DI_isRight_15 : decode b_DI_isRight 15 = .ok (.invokevirtual 29, 3) := by decide +kernel
theorem d_DI_isRight_18 : decode b_DI_isRight 18 = .ok (.putfield 7, 3) := by decide +kernel
theorem d_DI_isRight_21 : decode b_DI_isRight 21 = .ok (.aload_n 0, 1) := by decide +kernel
theorem d_DI_isRight_22 : decode b_DI_isRight 22 = .ok (.getfield 18, 3) := by decide +kernel
theorem d_DI_isRight_25 : decode b_DI_isRight 25 = .ok (.iconst 0, 1) := by decide +kernel
theorem d_DI_isRight_26 : decode b_DI_isRight 26 = .ok (.invokevirtual 33, 3) := by decide +kernel
theorem d_DI_isRight_29 : decode b_DI_isRight 29 = .ok (.ldc2_w 37, 3) := by decide +kernel
theorem d_DI_isRight_32 : decode b_DI_isRight 32 = .ok (.lcmp, 1) := by decide +kernel
theorem d_DI_isRight_33 : decode b_DI_isRight 33 = .ok (.ifCond .ne (42), 3) := by decide +kernel
theorem d_DI_isRight_4 : decode b_DI_isRight 4 = .ok (.iconst 0, 1) := by decide +kernel
theorem d_DI_isRight_5 : decode b_DI_isRight 5 = .ok (.iload_n 1, 1) := by decide +kernel
theorem d_DI_isRight_6 : decode b_DI_isRight 6 = .ok (.invokevirtual 25, 3) := by decide +kernel
theorem d_DI_isRight_75 : decode b_DI_isRight 75 = .ok (.iconst 0, 1) := by decide +kernel
theorem d_DI_isRight_76 : decode b_DI_isRight 76 = .ok (.ireturn, 1) := by decide +kernel
theorem d_DI_isRight_9 : decode b_DI_isRight 9 = .ok (.aload_n 0, 1) := by decide +kernel
theorem d_FO_loadFrom_0 : decode b_FO_loadFrom 0 = .ok (.aload_n 1, 1) := by decide +kernel
theorem d_FO_loadFrom_1 : decode b_FO_loadFrom 1 = .ok (.iconst 0, 1) := by decide +kernel
theorem d_FO_loadFrom_10 : decode b_FO_loadFrom 10 = .ok (.getfield 9, 3) := by decide +kernel
theorem d_FO_loadFrom_13 : decode b_FO_loadFrom 13 = .ok (.arraylength, 1) := by decide +kernel
theorem d_FO_loadFrom_14 : decode b_FO_loadFrom 14 = .ok (.invokestatic 78, 3) := by decide +kernel
theorem d_FO_loadFrom_17 : decode b_FO_loadFrom 17 = .ok (.invokestatic 84, 3) := by decide +kernel
theorem d_FO_loadFrom_2 : decode b_FO_loadFrom 2 = .ok (.aload_n 0, 1) := by decide +kernel
theorem d_FO_loadFrom_20 : decode b_FO_loadFrom 20 = .ok (.aload_n 0, 1) := by decide +kernel
theorem d_FO_loadFrom_21 : decode b_FO_loadFrom 21 = .ok (.getfield 20, 3) := by decide +kernel
theorem d_FO_loadFrom_24 : decode b_FO_loadFrom 24 = .ok (.iload_n 2, 1) := by decide +kernel
theorem d_FO_loadFrom_25 : decode b_FO_loadFrom 25 = .ok (.invokevirtual 90, 3) := by decide +kernel
theorem d_FO_loadFrom_28 : decode b_FO_loadFrom 28 = .ok (.ifCond .ne (5), 3) := by decide +kernel
theorem d_FO_loadFrom_3 : decode b_FO_loadFrom 3 = .ok (.getfield 9, 3) := by decide +kernel
theorem d_FO_loadFrom_31 : decode b_FO_loadFrom 31 = .ok (.iconst (-1), 1) := by decide +kernel
theorem d_FO_loadFrom_32 : decode b_FO_loadFrom 32 = .ok (.ireturn, 1) := by decide +kernel
theorem d_FO_loadFrom_6 : decode b_FO_loadFrom 6 = .ok (.iconst 0, 1) := by decide +kernel
theorem d_FO_loadFrom_7 : decode b_FO_loadFrom 7 = .ok (.aload_n 1, 1) := by decide +kernel
theorem d_FO_loadFrom_8 : decode b_FO_loadFrom 8 = .ok (.arraylength, 1) := by decide +kernel
theorem d_FO_loadFrom_9 : decode b_FO_loadFrom 9 = .ok (.aload_n 0, 1) := by decide +kernel
theorem d_GL_at_0 : decode b_GL_at 0 = .ok (.iload_n 1, 1) := by decide +kernel
theorem d_GL_at_1 : decode b_GL_at 1 = .ok (.ifCond .lt (20), 3) := by decide +kernel
theorem d_GL_at_21 : decode b_GL_at 21 = .ok (.iconst (-1), 1) := by decide +kernel
theorem d_GL_at_22 : decode b_GL_at 22 = .ok (.ireturn, 1) := by decide +kernel
theorem d_GL_at_4 : decode b_GL_at 4 = .ok (.iload_n 1, 1) := by decide +kernel
theorem d_GL_at_5 : decode b_GL_at 5 = .ok (.aload_n 0, 1) := by decide +kernel
theorem d_GL_at_6 : decode b_GL_at 6 = .ok (.getfield 13, 3) := by decide +kernel
theorem d_GL_at_9 : decode b_GL_at 9 = .ok (.if_icmp .ge (12), 3) := by decide +kernel
theorem d_GL_cut_14 : decode b_GL_cut 14 = .ok (.iload_n 1, 1) := by decide +kernel
theorem d_GL_cut_15 : decode b_GL_cut 15 = .ok (.aload_n 0, 1) := by decide +kernel
theorem d_GL_cut_16 : decode b_GL_cut 16 = .ok (.getfield 13, 3) := by decide +kernel
theorem d_GL_cut_19 : decode b_GL_cut 19 = .ok (.invokestatic 74, 3) := by decide +kernel
theorem d_GL_cut_22 : decode b_GL_cut 22 = .ok (.istore_n 2, 1) := by decide +kernel
theorem d_GL_cut_23 : decode b_GL_cut 23 = .ok (.aload_n 0, 1) := by decide +kernel
theorem d_GL_cut_24 : decode b_GL_cut 24 = .ok (.getfield 13, 3) := by decide +kernel
theorem d_GL_cut_27 : decode b_GL_cut 27 = .ok (.iload_n 2, 1) := by decide +kernel
theorem d_GL_cut_28 : decode b_GL_cut 28 = .ok (.isub, 1) := by decide +kernel
theorem d_GL_cut_29 : decode b_GL_cut 29 = .ok (.istore_n 3, 1) := by decide +kernel
theorem d_GL_cut_30 : decode b_GL_cut 30 = .ok (.aload_n 0, 1) := by decide +kernel
theorem d_GL_cut_31 : decode b_GL_cut 31 = .ok (.iload_n 2, 1) := by decide +kernel
theorem d_GL_cut_32 : decode b_GL_cut 32 = .ok (.putfield 13, 3) := by decide +kernel
theorem d_GL_cut_35 : decode b_GL_cut 35 = .ok (.iload_n 3, 1) := by decide +kernel
theorem d_GL_cut_36 : decode b_GL_cut 36 = .ok (.ireturn, 1) := by decide +kernel
theorem d_GL_feed_0 : decode b_GL_feed 0 = .ok (.aload_n 0, 1) := by decide +kernel
theorem d_GL_feed_1 : decode b_GL_feed 1 = .ok (.getfield 13, 3) := by decide +kernel
theorem d_GL_feed_14 : decode b_GL_feed 14 = .ok (.bipush 24, 2) := by decide +kernel
theorem d_GL_feed_16 : decode b_GL_feed 16 = .ok (.istore_n 2, 1) := by decide +kernel
theorem d_GL_feed_17 : decode b_GL_feed 17 = .ok (.iload_n 2, 1) := by decide +kernel
theorem d_GL_feed_18 : decode b_GL_feed 18 = .ok (.ifCond .lt (35), 3) := by decide +kernel
theorem d_GL_feed_21 : decode b_GL_feed 21 = .ok (.aload_n 0, 1) := by decide +kernel
theorem d_GL_feed_22 : decode b_GL_feed 22 = .ok (.getfield 9, 3) := by decide +kernel
theorem d_GL_feed_25 : decode b_GL_feed 25 = .ok (.aload_n 0, 1) := by decide +kernel
theorem d_GL_feed_26 : decode b_GL_feed 26 = .ok (.getfield 13, 3) := by decide +kernel
theorem d_GL_feed_29 : decode b_GL_feed 29 = .ok (.iload_n 1, 1) := by decide +kernel
theorem d_GL_feed_30 : decode b_GL_feed 30 = .ok (.iload_n 2, 1) := by decide +kernel
theorem d_GL_feed_31 : decode b_GL_feed 31 = .ok (.ishr, 1) := by decide +kernel
theorem d_GL_feed_32 : decode b_GL_feed 32 = .ok (.sipush 255, 3) := by decide +kernel
theorem d_GL_feed_35 : decode b_GL_feed 35 = .ok (.iand, 1) := by decide +kernel
theorem d_GL_feed_36 : decode b_GL_feed 36 = .ok (.iastore, 1) := by decide +kernel
theorem d_GL_feed_37 : decode b_GL_feed 37 = .ok (.aload_n 0, 1) := by decide +kernel
theorem d_GL_feed_38 : decode b_GL_feed 38 = .ok (.dup, 1) := by decide +kernel
theorem d_GL_feed_39 : decode b_GL_feed 39 = .ok (.getfield 13, 3) := by decide +kernel
theorem d_GL_feed_4 : decode b_GL_feed 4 = .ok (.iconst 4, 1) := by decide +kernel
theorem d_GL_feed_42 : decode b_GL_feed 42 = .ok (.iconst 1, 1) := by decide +kernel
theorem d_GL_feed_43 : decode b_GL_feed 43 = .ok (.iadd, 1) := by decide +kernel
theorem d_GL_feed_44 : decode b_GL_feed 44 = .ok (.putfield 13, 3) := by decide +kernel
theorem d_GL_feed_47 : decode b_GL_feed 47 = .ok (.iinc 2 (-8), 3) := by decide +kernel
theorem d_GL_feed_5 : decode b_GL_feed 5 = .ok (.iadd, 1) := by decide +kernel
theorem d_GL_feed_50 : decode b_GL_feed 50 = .ok (.goto (-33), 3) := by decide +kernel
theorem d_GL_feed_53 : decode b_GL_feed 53 = .ok (.aload_n 0, 1) := by decide +kernel
theorem d_GL_feed_54 : decode b_GL_feed 54 = .ok (.getfield 13, 3) := by decide +kernel
theorem d_GL_feed_57 : decode b_GL_feed 57 = .ok (.ireturn, 1) := by decide +kernel
theorem d_GL_feed_6 : decode b_GL_feed 6 = .ok (.sipush 1200, 3) := by decide +kernel
theorem d_GL_feed_9 : decode b_GL_feed 9 = .ok (.if_icmp .le (5), 3) := by decide +kernel
theorem d_GL_isCharacter_0 : decode b_GL_isCharacter 0 = .ok (.iload_n 0, 1) := by decide +kernel
theorem d_GL_isCharacter_1 : decode b_GL_isCharacter 1 = .ok (.ifCond .lt (13), 3) := by decide +kernel
theorem d_GL_isCharacter_10 : decode b_GL_isCharacter 10 = .ok (.iconst 1, 1) := by decide +kernel
theorem d_GL_isCharacter_11 : decode b_GL_isCharacter 11 = .ok (.goto (4), 3) := by decide +kernel
theorem d_GL_isCharacter_14 : decode b_GL_isCharacter 14 = .ok (.iconst 0, 1) := by decide +kernel
theorem d_GL_isCharacter_15 : decode b_GL_isCharacter 15 = .ok (.ireturn, 1) := by decide +kernel
theorem d_GL_isCharacter_4 : decode b_GL_isCharacter 4 = .ok (.iload_n 0, 1) := by decide +kernel
theorem d_GL_isCharacter_5 : decode b_GL_isCharacter 5 = .ok (.ldc 167, 2) := by decide +kernel
theorem d_GL_isCharacter_7 : decode b_GL_isCharacter 7 = .ok (.if_icmp .gt (7), 3) := by decide +kernel
theorem d_GL_load_0 : decode b_GL_load 0 = .ok (.aload_n 0, 1) := by decide +kernel
theorem d_GL_load_1 : decode b_GL_load 1 = .ok (.getfield 24, 3) := by decide +kernel
theorem d_GL_load_12 : decode b_GL_load 12 = .ok (.iload_n 1, 1) := by decide +kernel
theorem d_GL_load_13 : decode b_GL_load 13 = .ok (.aload_n 0, 1) := by decide +kernel
theorem d_GL_load_14 : decode b_GL_load 14 = .ok (.getfield 34, 3) := by decide +kernel
theorem d_GL_load_17 : decode b_GL_load 17 = .ok (.invokevirtual 80, 3) := by decide +kernel
theorem d_GL_load_20 : decode b_GL_load 20 = .ok (.istore_n 2, 1) := by decide +kernel
theorem d_GL_load_21 : decode b_GL_load 21 = .ok (.iload_n 2, 1) := by decide +kernel
theorem d_GL_load_22 : decode b_GL_load 22 = .ok (.ifCond .le (26), 3) := by decide +kernel
theorem d_GL_load_4 : decode b_GL_load 4 = .ok (.aload_n 0, 1) := by decide +kernel
theorem d_GL_load_48 : decode b_GL_load 48 = .ok (.iload_n 2, 1) := by decide +kernel
theorem d_GL_load_49 : decode b_GL_load 49 = .ok (.ireturn, 1) := by decide +kernel
theorem d_GL_load_5 : decode b_GL_load 5 = .ok (.getfield 9, 3) := by decide +kernel
theorem d_GL_load_8 : decode b_GL_load 8 = .ok (.aload_n 0, 1) := by decide +kernel
theorem d_GL_load_9 : decode b_GL_load 9 = .ok (.getfield 13, 3) := by decide +kernel
theorem d_GL_row_20 : decode b_GL_row 20 = .ok (.aload_n 0, 1) := by decide +kernel
theorem d_GL_row_21 : decode b_GL_row 21 = .ok (.getfield 41, 3) := by decide +kernel
theorem d_GL_row_24 : decode b_GL_row 24 = .ok (.getfield 153, 3) := by decide +kernel
theorem d_GL_row_27 : decode b_GL_row 27 = .ok (.iload_n 1, 1) := by decide +kernel
theorem d_GL_row_28 : decode b_GL_row 28 = .ok (.laload, 1) := by decide +kernel
theorem d_GL_row_29 : decode b_GL_row 29 = .ok (.lreturn, 1) := by decide +kernel
theorem d_GL_type_0 : decode b_GL_type 0 = .ok (.iload_n 1, 1) := by decide +kernel
theorem d_GL_type_1 : decode b_GL_type 1 = .ok (.invokestatic 87, 3) := by decide +kernel
theorem d_GL_type_11 : decode b_GL_type 11 = .ok (.bipush 12, 2) := by decide +kernel
theorem d_GL_type_13 : decode b_GL_type 13 = .ok (.if_icmp .lt (5), 3) := by decide +kernel
theorem d_GL_type_16 : decode b_GL_type 16 = .ok (.iconst 0, 1) := by decide +kernel
theorem d_GL_type_17 : decode b_GL_type 17 = .ok (.ireturn, 1) := by decide +kernel
theorem d_GL_type_18 : decode b_GL_type 18 = .ok (.aload_n 0, 1) := by decide +kernel
theorem d_GL_type_19 : decode b_GL_type 19 = .ok (.getfield 54, 3) := by decide +kernel
theorem d_GL_type_22 : decode b_GL_type 22 = .ok (.aload_n 0, 1) := by decide +kernel
theorem d_GL_type_23 : decode b_GL_type 23 = .ok (.getfield 57, 3) := by decide +kernel
theorem d_GL_type_26 : decode b_GL_type 26 = .ok (.iload_n 1, 1) := by decide +kernel
theorem d_GL_type_27 : decode b_GL_type 27 = .ok (.iastore, 1) := by decide +kernel
theorem d_GL_type_28 : decode b_GL_type 28 = .ok (.aload_n 0, 1) := by decide +kernel
theorem d_GL_type_29 : decode b_GL_type 29 = .ok (.dup, 1) := by decide +kernel
theorem d_GL_type_30 : decode b_GL_type 30 = .ok (.getfield 57, 3) := by decide +kernel
theorem d_GL_type_33 : decode b_GL_type 33 = .ok (.iconst 1, 1) := by decide +kernel
theorem d_GL_type_34 : decode b_GL_type 34 = .ok (.iadd, 1) := by decide +kernel
theorem d_GL_type_35 : decode b_GL_type 35 = .ok (.putfield 57, 3) := by decide +kernel
theorem d_GL_type_38 : decode b_GL_type 38 = .ok (.iconst 1, 1) := by decide +kernel
theorem d_GL_type_39 : decode b_GL_type 39 = .ok (.ireturn, 1) := by decide +kernel
theorem d_GL_type_4 : decode b_GL_type 4 = .ok (.ifCond .eq (12), 3) := by decide +kernel
theorem d_GL_type_7 : decode b_GL_type 7 = .ok (.aload_n 0, 1) := by decide +kernel
theorem d_GL_type_8 : decode b_GL_type 8 = .ok (.getfield 57, 3) := by decide +kernel
theorem d_GL_wipe_0 : decode b_GL_wipe 0 = .ok (.aload_n 0, 1) := by decide +kernel
theorem d_GL_wipe_1 : decode b_GL_wipe 1 = .ok (.getfield 57, 3) := by decide +kernel
theorem d_GL_wipe_10 : decode b_GL_wipe 10 = .ok (.iload_n 1, 1) := by decide +kernel
theorem d_GL_wipe_11 : decode b_GL_wipe 11 = .ok (.ireturn, 1) := by decide +kernel
theorem d_GL_wipe_4 : decode b_GL_wipe 4 = .ok (.istore_n 1, 1) := by decide +kernel
theorem d_GL_wipe_5 : decode b_GL_wipe 5 = .ok (.aload_n 0, 1) := by decide +kernel
theorem d_GL_wipe_6 : decode b_GL_wipe 6 = .ok (.iconst 0, 1) := by decide +kernel
theorem d_GL_wipe_7 : decode b_GL_wipe 7 = .ok (.putfield 57, 3) := by decide +kernel
theorem d_SP_lay_0 : decode b_SP_lay 0 = .ok (.aload_n 0, 1) := by decide +kernel
theorem d_SP_lay_1 : decode b_SP_lay 1 = .ok (.iconst 0, 1) := by decide +kernel
theorem d_SP_lay_11 : decode b_SP_lay 11 = .ok (.invokestatic 30, 3) := by decide +kernel
theorem d_SP_lay_14 : decode b_SP_lay 14 = .ok (.putfield 7, 3) := by decide +kernel
theorem d_SP_lay_17 : decode b_SP_lay 17 = .ok (.aload_n 0, 1) := by decide +kernel
theorem d_SP_lay_18 : decode b_SP_lay 18 = .ok (.iconst 0, 1) := by decide +kernel
theorem d_SP_lay_19 : decode b_SP_lay 19 = .ok (.iload_n 2, 1) := by decide +kernel
theorem d_SP_lay_2 : decode b_SP_lay 2 = .ok (.iload_n 1, 1) := by decide +kernel
theorem d_SP_lay_20 : decode b_SP_lay 20 = .ok (.aload_n 0, 1) := by decide +kernel
theorem d_SP_lay_21 : decode b_SP_lay 21 = .ok (.getfield 20, 3) := by decide +kernel
theorem d_SP_lay_24 : decode b_SP_lay 24 = .ok (.arraylength, 1) := by decide +kernel
theorem d_SP_lay_25 : decode b_SP_lay 25 = .ok (.aload_n 0, 1) := by decide +kernel
theorem d_SP_lay_26 : decode b_SP_lay 26 = .ok (.getfield 7, 3) := by decide +kernel
theorem d_SP_lay_29 : decode b_SP_lay 29 = .ok (.isub, 1) := by decide +kernel
theorem d_SP_lay_3 : decode b_SP_lay 3 = .ok (.aload_n 0, 1) := by decide +kernel
theorem d_SP_lay_30 : decode b_SP_lay 30 = .ok (.invokestatic 24, 3) := by decide +kernel
theorem d_SP_lay_33 : decode b_SP_lay 33 = .ok (.invokestatic 30, 3) := by decide +kernel
theorem d_SP_lay_36 : decode b_SP_lay 36 = .ok (.putfield 13, 3) := by decide +kernel
theorem d_SP_lay_39 : decode b_SP_lay 39 = .ok (.aload_n 0, 1) := by decide +kernel
theorem d_SP_lay_4 : decode b_SP_lay 4 = .ok (.getfield 20, 3) := by decide +kernel
theorem d_SP_lay_40 : decode b_SP_lay 40 = .ok (.iconst 0, 1) := by decide +kernel
theorem d_SP_lay_41 : decode b_SP_lay 41 = .ok (.putfield 16, 3) := by decide +kernel
theorem d_SP_lay_44 : decode b_SP_lay 44 = .ok (.return_, 1) := by decide +kernel
theorem d_SP_lay_7 : decode b_SP_lay 7 = .ok (.arraylength, 1) := by decide +kernel
theorem d_SP_lay_8 : decode b_SP_lay 8 = .ok (.invokestatic 24, 3) := by decide +kernel
theorem d_SP_u16_0 : decode b_SP_u16 0 = .ok (.iload_n 1, 1) := by decide +kernel
theorem d_SP_u16_1 : decode b_SP_u16 1 = .ok (.ifCond .lt (13), 3) := by decide +kernel
theorem d_SP_u16_10 : decode b_SP_u16 10 = .ok (.isub, 1) := by decide +kernel
theorem d_SP_u16_11 : decode b_SP_u16 11 = .ok (.if_icmp .lt (10), 3) := by decide +kernel
theorem d_SP_u16_14 : decode b_SP_u16 14 = .ok (.aload_n 0, 1) := by decide +kernel
theorem d_SP_u16_15 : decode b_SP_u16 15 = .ok (.iconst 1, 1) := by decide +kernel
theorem d_SP_u16_16 : decode b_SP_u16 16 = .ok (.putfield 16, 3) := by decide +kernel
theorem d_SP_u16_19 : decode b_SP_u16 19 = .ok (.iconst 0, 1) := by decide +kernel
theorem d_SP_u16_20 : decode b_SP_u16 20 = .ok (.ireturn, 1) := by decide +kernel
theorem d_SP_u16_4 : decode b_SP_u16 4 = .ok (.iload_n 1, 1) := by decide +kernel
theorem d_SP_u16_5 : decode b_SP_u16 5 = .ok (.aload_n 0, 1) := by decide +kernel
theorem d_SP_u16_6 : decode b_SP_u16 6 = .ok (.getfield 13, 3) := by decide +kernel
theorem d_SP_u16_9 : decode b_SP_u16 9 = .ok (.iconst 1, 1) := by decide +kernel
theorem d_SP_u32_0 : decode b_SP_u32 0 = .ok (.lconst 0, 1) := by decide +kernel
theorem d_SP_u32_1 : decode b_SP_u32 1 = .ok (.lstore_n 2, 1) := by decide +kernel
theorem d_SP_u32_10 : decode b_SP_u32 10 = .ok (.if_icmp .ge (77), 3) := by decide +kernel
theorem d_SP_u32_13 : decode b_SP_u32 13 = .ok (.iload 4, 2) := by decide +kernel
theorem d_SP_u32_15 : decode b_SP_u32 15 = .ok (.ifCond .lt (16), 3) := by decide +kernel
theorem d_SP_u32_18 : decode b_SP_u32 18 = .ok (.iload 4, 2) := by decide +kernel
theorem d_SP_u32_2 : decode b_SP_u32 2 = .ok (.iload_n 1, 1) := by decide +kernel
theorem d_SP_u32_20 : decode b_SP_u32 20 = .ok (.aload_n 0, 1) := by decide +kernel
theorem d_SP_u32_21 : decode b_SP_u32 21 = .ok (.getfield 13, 3) := by decide +kernel
theorem d_SP_u32_24 : decode b_SP_u32 24 = .ok (.if_icmp .ge (7), 3) := by decide +kernel
theorem d_SP_u32_3 : decode b_SP_u32 3 = .ok (.istore 4, 2) := by decide +kernel
theorem d_SP_u32_31 : decode b_SP_u32 31 = .ok (.iconst 0, 1) := by decide +kernel
theorem d_SP_u32_32 : decode b_SP_u32 32 = .ok (.istore 5, 2) := by decide +kernel
theorem d_SP_u32_34 : decode b_SP_u32 34 = .ok (.aload_n 0, 1) := by decide +kernel
theorem d_SP_u32_35 : decode b_SP_u32 35 = .ok (.dup, 1) := by decide +kernel
theorem d_SP_u32_36 : decode b_SP_u32 36 = .ok (.getfield 16, 3) := by decide +kernel
theorem d_SP_u32_39 : decode b_SP_u32 39 = .ok (.iload 5, 2) := by decide +kernel
theorem d_SP_u32_41 : decode b_SP_u32 41 = .ok (.ifCond .ne (7), 3) := by decide +kernel
theorem d_SP_u32_44 : decode b_SP_u32 44 = .ok (.iconst 1, 1) := by decide +kernel
theorem d_SP_u32_45 : decode b_SP_u32 45 = .ok (.goto (4), 3) := by decide +kernel
theorem d_SP_u32_49 : decode b_SP_u32 49 = .ok (.ior, 1) := by decide +kernel
theorem d_SP_u32_5 : decode b_SP_u32 5 = .ok (.iload 4, 2) := by decide +kernel
theorem d_SP_u32_50 : decode b_SP_u32 50 = .ok (.putfield 16, 3) := by decide +kernel
theorem d_SP_u32_53 : decode b_SP_u32 53 = .ok (.lload_n 2, 1) := by decide +kernel
theorem d_SP_u32_54 : decode b_SP_u32 54 = .ok (.bipush 8, 2) := by decide +kernel
theorem d_SP_u32_56 : decode b_SP_u32 56 = .ok (.lshl, 1) := by decide +kernel
theorem d_SP_u32_57 : decode b_SP_u32 57 = .ok (.iload 5, 2) := by decide +kernel
theorem d_SP_u32_59 : decode b_SP_u32 59 = .ok (.ifCond .eq (18), 3) := by decide +kernel
theorem d_SP_u32_7 : decode b_SP_u32 7 = .ok (.iload_n 1, 1) := by decide +kernel
theorem d_SP_u32_77 : decode b_SP_u32 77 = .ok (.iconst 0, 1) := by decide +kernel
theorem d_SP_u32_78 : decode b_SP_u32 78 = .ok (.i2l, 1) := by decide +kernel
theorem d_SP_u32_79 : decode b_SP_u32 79 = .ok (.lor, 1) := by decide +kernel
theorem d_SP_u32_8 : decode b_SP_u32 8 = .ok (.iconst 4, 1) := by decide +kernel
theorem d_SP_u32_80 : decode b_SP_u32 80 = .ok (.lstore_n 2, 1) := by decide +kernel
theorem d_SP_u32_81 : decode b_SP_u32 81 = .ok (.iinc 4 (1), 3) := by decide +kernel
theorem d_SP_u32_84 : decode b_SP_u32 84 = .ok (.goto (-79), 3) := by decide +kernel
theorem d_SP_u32_87 : decode b_SP_u32 87 = .ok (.lload_n 2, 1) := by decide +kernel
theorem d_SP_u32_88 : decode b_SP_u32 88 = .ok (.lreturn, 1) := by decide +kernel
theorem d_SP_u32_9 : decode b_SP_u32 9 = .ok (.iadd, 1) := by decide +kernel
theorem gl_min0 {x : Int32} (h : ¬ x < 0) : (if (0 : Int32) < x then 0 else x) = 0 := by
  split
  · rfl
  · rename_i h2
    exact Int32.le_antisymm (Int32.not_lt.mp h2) (Int32.not_lt.mp h)
theorem gl_bit {P : Prop} {_ : Decidable P} {r : Int32} (hw : r = if P then 1 else 0) (h : ¬ r = 0) : 1 = (if P then (1 : Int32) else 0) := by
  by_cases hp : P
  · rw [if_pos hp]
  · rw [if_neg hp] at hw
    exact absurd hw h
theorem gl_le23 {r : Int32} : r ≤ 23 ↔ r < 24 := by
  rw [Int32.le_iff_toInt_le, Int32.lt_iff_toInt_lt, show (23 : Int32).toInt = 23 by decide +kernel, show (24 : Int32).toInt = 24 by decide +kernel]
  omega
theorem gl_in24 {r : Int32} (h1 : ¬ r < 0) (h2 : r < 24) : vp_in r 24 := by
  rw [vp_in_iff]
  have a := Int32.le_iff_toInt_le.mp (Int32.not_lt.mp h1)
  have b := Int32.lt_iff_toInt_lt.mp h2
  have e : (24 : Int32).toInt = 24 := by decide +kernel
  rw [Int32.toInt_zero] at a
  rw [e] at b
  exact ⟨a, by omega⟩
set_option maxHeartbeats 4000000 in
set_option maxRecDepth 100000 in
/-- GlyphLines.feed -/
theorem c_GL_feed (l : Launch) (dC : Nat → ClassId) (dI : Nat → Nat → Nat) (h0 qf a2 a3 a5 a6 a7 qx : Nat) (cF : ClassId) (w : Int32) (sz : Nat) : Met l y_GL_feed s_GL_feed ({ frames := 8, cells := 0, slots := 0, locals := 200 }) (va_Pc [.ref h0, .int w] (fun U => U.heap.size = sz ∧ va_P (dC, dI) cls_ [(h0, .inr (9, [.ref qf, .int 0, .ref a2, .ref a3, .int 0, .ref a5, .ref a6, .ref a7, .ref qx, .int 0])), (qf, .inl (cF, 1200, .inl (fun _ => 0)))] U.heap ∧ va_K (dC, dI) cls_ [(cF, .int)] U ∧ va_D (fun _ => True) [(h0, .inr (9, [.ref qf, .int 0, .ref a2, .ref a3, .int 0, .ref a5, .ref a6, .ref a7, .ref qx, .int 0])), (qf, .inl (cF, 1200, .inl (fun _ => 0)))])) (va_Qi (fun (r : Int32) (_ : Unit) => r = 4) (fun (_ : Unit) (t : State) => True) (va_A [(h0, .inr (9, [.ref qf, .int 0, .ref a2, .ref a3, .int 0, .ref a5, .ref a6, .ref a7, .ref qx, .int 0])), (qf, .inl (cF, 1200, .inl (fun _ => 0)))] sz)) 0 0 (va_A [(h0, .inr (9, [.ref qf, .int 0, .ref a2, .ref a3, .int 0, .ref a5, .ref a6, .ref a7, .ref qx, .int 0])), (qf, .inl (cF, 1200, .inl (fun _ => 0)))] sz) := by
  refine Met.ofW (cc := b_GL_feed) (maxL := 3) (ret := (some .int)) (by decide) rfl ?_
  intro p e s m args below meth c s₁ B hml hv
  obtain ⟨rfl, hsz, hP, hK, hD0⟩ := hv
  have hx := B.exec
  have hb := B.bytes
  have hr := B.returns
  have hts := atoms_spec (ws := s_GL_feed) B.pre
  have hown : s.vm.findClass R_GL = some m.cls := findClass_of_methodNamed B.named
  have hlocks := B.notSynchronized
  subst hsz
  have hD := hD0.self (sz := s.heap.size)
  generalize hAe : va_A [(h0, .inr (9, [.ref qf, .int 0, .ref a2, .ref a3, .int 0, .ref a5, .ref a6, .ref a7, .ref qx, .int 0])), (qf, .inl (cF, 1200, .inl (fun _ => 0)))] s.heap.size = A at hD ⊢
  have hA : ∀ q : Nat, s.heap.size ≤ q → A q := fun q h => by rw [← hAe]; exact Or.inr h
  have hS : va_S A s.heap s.heap [] := va_S.rf
  have hP : va_P (dC, dI) cls_ [(h0, .inr (9, [.ref qf, .int 0, .ref a2, .ref a3, .int 0, .ref a5, .ref a6, .ref a7, .ref qx, .int 0])), (qf, .inl (cF, 1200, .inl (fun _ => 0)))] s.heap := hP
  have hl := lv_entry ([.ref h0, .int w]) (n := 3) (Nat.le_of_ble_eq_true rfl)
  rw [lg_entry_eq]
  generalize (lg_sl ([.ref h0, .int w]) ++ List.replicate (3 - (lg_sl ([.ref h0, .int w])).length) Slot.unset).toArray = ls at hl ⊢
  have hl : lv_has ls 3 [(0, .ref h0), (1, .int w)] := hl
  refine lv_aload_n hx hb d_GL_feed_0 rfl (lv_at hl 0 rfl) ?_
  refine va_get (D := (dC, dI)) (ci := 9) (v := .int 0) (C := R_GL) (T := F_GL) (N := 10) hx hb hts in_GL hown hK hP 0 rfl rfl 1 (by decide) (hts _ (List.mem_cons_of_mem _ w_288)) (fun _ h9 => h9) rfl d_GL_feed_1 ?_
  refine lv_iconst (v := 4) hx hb d_GL_feed_4 (by decide) ?_
  refine lv_iadd hx hb d_GL_feed_5 ?_
  refine lv_ci (y := 4) (by decide +kernel) ?_
  refine lv_sipush (v := 1200) hx hb d_GL_feed_6 (by decide) ?_
  refine lv_icmp_le (tgt := 14) hx hb d_GL_feed_9 (by decide) (fun _ => ?_) (fun hc => absurd hc (by decide +kernel))
  refine lv_bipush (v := 24) hx hb d_GL_feed_14 (by decide) ?_
  refine lv_istore_n (lv' := [(2, .int 24), (0, .ref h0), (1, .int w)]) hx hb d_GL_feed_16 rfl hl (by decide) rfl (fun ls hl => ?_)
  refine lv_iload_n hx hb d_GL_feed_17 rfl (lv_at hl 0 rfl) ?_
  refine lv_if_lt (tgt := 53) hx hb d_GL_feed_18 (by decide) (fun hc => absurd hc (by decide +kernel)) (fun _ => ?_)
  refine lv_aload_n hx hb d_GL_feed_21 rfl (lv_at hl 1 rfl) ?_
  refine va_get (D := (dC, dI)) (ci := 9) (v := .ref qf) (C := R_GL) (T := F_GL) (N := 10) hx hb hts in_GL hown hK hP 0 rfl rfl 0 (by decide) (hts _ (List.mem_cons_of_mem _ w_287)) (fun _ h9 => h9) rfl d_GL_feed_22 ?_
  refine lv_aload_n hx hb d_GL_feed_25 rfl (lv_at hl 1 rfl) ?_
  refine va_get (D := (dC, dI)) (ci := 9) (v := .int 0) (C := R_GL) (T := F_GL) (N := 10) hx hb hts in_GL hown hK hP 0 rfl rfl 1 (by decide) (hts _ (List.mem_cons_of_mem _ w_288)) (fun _ h9 => h9) rfl d_GL_feed_26 ?_
  refine lv_iload_n hx hb d_GL_feed_29 rfl (lv_at hl 2 rfl) ?_
  refine lv_iload_n hx hb d_GL_feed_30 rfl (lv_at hl 0 rfl) ?_
  refine lv_ishr hx hb d_GL_feed_31 ?_
  refine lv_sipush (v := 255) hx hb d_GL_feed_32 (by decide) ?_
  refine lv_iand hx hb d_GL_feed_35 ?_
  refine va_iast hx hb hK hP hD hS 1 0 rfl rfl (pk_in 0 1200 (by decide) (by decide +kernel) (by decide)) d_GL_feed_36 (fun H locs hP hD hS => ?_)
  have hP : va_P (dC, dI) cls_ [(h0, .inr (9, [.ref qf, .int 0, .ref a2, .ref a3, .int 0, .ref a5, .ref a6, .ref a7, .ref qx, .int 0])), (qf, .inl (cF, 1200, .inl (upd (fun _ => 0) (Int32.toNatClampNeg 0) (w >>> (24 &&& 31) &&& 255))))] H := hP
  have hD : va_D A [(h0, .inr (9, [.ref qf, .int 0, .ref a2, .ref a3, .int 0, .ref a5, .ref a6, .ref a7, .ref qx, .int 0])), (qf, .inl (cF, 1200, .inl (upd (fun _ => 0) (Int32.toNatClampNeg 0) (w >>> (24 &&& 31) &&& 255))))] := hD
  refine lv_aload_n hx hb d_GL_feed_37 rfl (lv_at hl 1 rfl) ?_
  refine lv_dup hx hb d_GL_feed_38 rfl ?_
  refine va_get (D := (dC, dI)) (ci := 9) (v := .int 0) (C := R_GL) (T := F_GL) (N := 10) hx hb hts in_GL hown hK hP 0 rfl rfl 1 (by decide) (hts _ (List.mem_cons_of_mem _ w_288)) (fun _ h9 => h9) rfl d_GL_feed_39 ?_
  refine lv_iconst (v := 1) hx hb d_GL_feed_42 (by decide) ?_
  refine lv_iadd hx hb d_GL_feed_43 ?_
  refine lv_ci (y := 1) (by decide +kernel) ?_
  refine va_put (D := (dC, dI)) (ci := 9) (v := .int 1) (ty := .int) (C := R_GL) (T := F_GL) (N := 10) hx hb hts in_GL t_GL t_GL_ok n_GL hown hK hP hD hS 0 rfl rfl 1 (by decide) (hts _ (List.mem_cons_of_mem _ w_288)) (fun _ h9 => h9) rfl  (by decide +kernel) rfl rfl (Nat.le_of_ble_eq_true rfl) d_GL_feed_44 (fun H locs hP hD hS => ?_)
  have hP : va_P (dC, dI) cls_ [(h0, .inr (9, [.ref qf, .int 1, .ref a2, .ref a3, .int 0, .ref a5, .ref a6, .ref a7, .ref qx, .int 0])), (qf, .inl (cF, 1200, .inl (upd (fun _ => 0) (Int32.toNatClampNeg 0) (w >>> (24 &&& 31) &&& 255))))] H := hP
  have hD : va_D A [(h0, .inr (9, [.ref qf, .int 1, .ref a2, .ref a3, .int 0, .ref a5, .ref a6, .ref a7, .ref qx, .int 0])), (qf, .inl (cF, 1200, .inl (upd (fun _ => 0) (Int32.toNatClampNeg 0) (w >>> (24 &&& 31) &&& 255))))] := hD
  refine lv_iinc (k := 0) (v := 16) (lv' := [(2, .int 16), (0, .ref h0), (1, .int w)]) hx hb d_GL_feed_47 hl rfl (by first | rfl | decide +kernel) (by decide) rfl (fun ls hl => ?_)
  refine lv_goto (tgt := 17) hx hb d_GL_feed_50 (by decide) ?_
  refine lv_iload_n hx hb d_GL_feed_17 rfl (lv_at hl 0 rfl) ?_
  refine lv_if_lt (tgt := 53) hx hb d_GL_feed_18 (by decide) (fun hc => absurd hc (by decide +kernel)) (fun _ => ?_)
  refine lv_aload_n hx hb d_GL_feed_21 rfl (lv_at hl 1 rfl) ?_
  refine va_get (D := (dC, dI)) (ci := 9) (v := .ref qf) (C := R_GL) (T := F_GL) (N := 10) hx hb hts in_GL hown hK hP 0 rfl rfl 0 (by decide) (hts _ (List.mem_cons_of_mem _ w_287)) (fun _ h9 => h9) rfl d_GL_feed_22 ?_
  refine lv_aload_n hx hb d_GL_feed_25 rfl (lv_at hl 1 rfl) ?_
  refine va_get (D := (dC, dI)) (ci := 9) (v := .int 1) (C := R_GL) (T := F_GL) (N := 10) hx hb hts in_GL hown hK hP 0 rfl rfl 1 (by decide) (hts _ (List.mem_cons_of_mem _ w_288)) (fun _ h9 => h9) rfl d_GL_feed_26 ?_
  refine lv_iload_n hx hb d_GL_feed_29 rfl (lv_at hl 2 rfl) ?_
  refine lv_iload_n hx hb d_GL_feed_30 rfl (lv_at hl 0 rfl) ?_
  refine lv_ishr hx hb d_GL_feed_31 ?_
  refine lv_sipush (v := 255) hx hb d_GL_feed_32 (by decide) ?_
  refine lv_iand hx hb d_GL_feed_35 ?_
  refine va_iast hx hb hK hP hD hS 1 0 rfl rfl (pk_in 1 1200 (by decide) (by decide +kernel) (by decide)) d_GL_feed_36 (fun H locs hP hD hS => ?_)
  have hP : va_P (dC, dI) cls_ [(h0, .inr (9, [.ref qf, .int 1, .ref a2, .ref a3, .int 0, .ref a5, .ref a6, .ref a7, .ref qx, .int 0])), (qf, .inl (cF, 1200, .inl (upd (upd (fun _ => 0) (Int32.toNatClampNeg 0) (w >>> (24 &&& 31) &&& 255)) (Int32.toNatClampNeg 1) (w >>> (16 &&& 31) &&& 255))))] H := hP
  have hD : va_D A [(h0, .inr (9, [.ref qf, .int 1, .ref a2, .ref a3, .int 0, .ref a5, .ref a6, .ref a7, .ref qx, .int 0])), (qf, .inl (cF, 1200, .inl (upd (upd (fun _ => 0) (Int32.toNatClampNeg 0) (w >>> (24 &&& 31) &&& 255)) (Int32.toNatClampNeg 1) (w >>> (16 &&& 31) &&& 255))))] := hD
  refine lv_aload_n hx hb d_GL_feed_37 rfl (lv_at hl 1 rfl) ?_
  refine lv_dup hx hb d_GL_feed_38 rfl ?_
  refine va_get (D := (dC, dI)) (ci := 9) (v := .int 1) (C := R_GL) (T := F_GL) (N := 10) hx hb hts in_GL hown hK hP 0 rfl rfl 1 (by decide) (hts _ (List.mem_cons_of_mem _ w_288)) (fun _ h9 => h9) rfl d_GL_feed_39 ?_
  refine lv_iconst (v := 1) hx hb d_GL_feed_42 (by decide) ?_
  refine lv_iadd hx hb d_GL_feed_43 ?_
  refine lv_ci (y := 2) (by decide +kernel) ?_
  refine va_put (D := (dC, dI)) (ci := 9) (v := .int 2) (ty := .int) (C := R_GL) (T := F_GL) (N := 10) hx hb hts in_GL t_GL t_GL_ok n_GL hown hK hP hD hS 0 rfl rfl 1 (by decide) (hts _ (List.mem_cons_of_mem _ w_288)) (fun _ h9 => h9) rfl  (by decide +kernel) rfl rfl (Nat.le_of_ble_eq_true rfl) d_GL_feed_44 (fun H locs hP hD hS => ?_)
  have hP : va_P (dC, dI) cls_ [(h0, .inr (9, [.ref qf, .int 2, .ref a2, .ref a3, .int 0, .ref a5, .ref a6, .ref a7, .ref qx, .int 0])), (qf, .inl (cF, 1200, .inl (upd (upd (fun _ => 0) (Int32.toNatClampNeg 0) (w >>> (24 &&& 31) &&& 255)) (Int32.toNatClampNeg 1) (w >>> (16 &&& 31) &&& 255))))] H := hP
  have hD : va_D A [(h0, .inr (9, [.ref qf, .int 2, .ref a2, .ref a3, .int 0, .ref a5, .ref a6, .ref a7, .ref qx, .int 0])), (qf, .inl (cF, 1200, .inl (upd (upd (fun _ => 0) (Int32.toNatClampNeg 0) (w >>> (24 &&& 31) &&& 255)) (Int32.toNatClampNeg 1) (w >>> (16 &&& 31) &&& 255))))] := hD
  refine lv_iinc (k := 0) (v := 8) (lv' := [(2, .int 8), (0, .ref h0), (1, .int w)]) hx hb d_GL_feed_47 hl rfl (by first | rfl | decide +kernel) (by decide) rfl (fun ls hl => ?_)
  refine lv_goto (tgt := 17) hx hb d_GL_feed_50 (by decide) ?_
  refine lv_iload_n hx hb d_GL_feed_17 rfl (lv_at hl 0 rfl) ?_
  refine lv_if_lt (tgt := 53) hx hb d_GL_feed_18 (by decide) (fun hc => absurd hc (by decide +kernel)) (fun _ => ?_)
  refine lv_aload_n hx hb d_GL_feed_21 rfl (lv_at hl 1 rfl) ?_
  refine va_get (D := (dC, dI)) (ci := 9) (v := .ref qf) (C := R_GL) (T := F_GL) (N := 10) hx hb hts in_GL hown hK hP 0 rfl rfl 0 (by decide) (hts _ (List.mem_cons_of_mem _ w_287)) (fun _ h9 => h9) rfl d_GL_feed_22 ?_
  refine lv_aload_n hx hb d_GL_feed_25 rfl (lv_at hl 1 rfl) ?_
  refine va_get (D := (dC, dI)) (ci := 9) (v := .int 2) (C := R_GL) (T := F_GL) (N := 10) hx hb hts in_GL hown hK hP 0 rfl rfl 1 (by decide) (hts _ (List.mem_cons_of_mem _ w_288)) (fun _ h9 => h9) rfl d_GL_feed_26 ?_
  refine lv_iload_n hx hb d_GL_feed_29 rfl (lv_at hl 2 rfl) ?_
  refine lv_iload_n hx hb d_GL_feed_30 rfl (lv_at hl 0 rfl) ?_
  refine lv_ishr hx hb d_GL_feed_31 ?_
  refine lv_sipush (v := 255) hx hb d_GL_feed_32 (by decide) ?_
  refine lv_iand hx hb d_GL_feed_35 ?_
  refine va_iast hx hb hK hP hD hS 1 0 rfl rfl (pk_in 2 1200 (by decide) (by decide +kernel) (by decide)) d_GL_feed_36 (fun H locs hP hD hS => ?_)
  have hP : va_P (dC, dI) cls_ [(h0, .inr (9, [.ref qf, .int 2, .ref a2, .ref a3, .int 0, .ref a5, .ref a6, .ref a7, .ref qx, .int 0])), (qf, .inl (cF, 1200, .inl (upd (upd (upd (fun _ => 0) (Int32.toNatClampNeg 0) (w >>> (24 &&& 31) &&& 255)) (Int32.toNatClampNeg 1) (w >>> (16 &&& 31) &&& 255)) (Int32.toNatClampNeg 2) (w >>> (8 &&& 31) &&& 255))))] H := hP
  have hD : va_D A [(h0, .inr (9, [.ref qf, .int 2, .ref a2, .ref a3, .int 0, .ref a5, .ref a6, .ref a7, .ref qx, .int 0])), (qf, .inl (cF, 1200, .inl (upd (upd (upd (fun _ => 0) (Int32.toNatClampNeg 0) (w >>> (24 &&& 31) &&& 255)) (Int32.toNatClampNeg 1) (w >>> (16 &&& 31) &&& 255)) (Int32.toNatClampNeg 2) (w >>> (8 &&& 31) &&& 255))))] := hD
  refine lv_aload_n hx hb d_GL_feed_37 rfl (lv_at hl 1 rfl) ?_
  refine lv_dup hx hb d_GL_feed_38 rfl ?_
  refine va_get (D := (dC, dI)) (ci := 9) (v := .int 2) (C := R_GL) (T := F_GL) (N := 10) hx hb hts in_GL hown hK hP 0 rfl rfl 1 (by decide) (hts _ (List.mem_cons_of_mem _ w_288)) (fun _ h9 => h9) rfl d_GL_feed_39 ?_
  refine lv_iconst (v := 1) hx hb d_GL_feed_42 (by decide) ?_
  refine lv_iadd hx hb d_GL_feed_43 ?_
  refine lv_ci (y := 3) (by decide +kernel) ?_
  refine va_put (D := (dC, dI)) (ci := 9) (v := .int 3) (ty := .int) (C := R_GL) (T := F_GL) (N := 10) hx hb hts in_GL t_GL t_GL_ok n_GL hown hK hP hD hS 0 rfl rfl 1 (by decide) (hts _ (List.mem_cons_of_mem _ w_288)) (fun _ h9 => h9) rfl  (by decide +kernel) rfl rfl (Nat.le_of_ble_eq_true rfl) d_GL_feed_44 (fun H locs hP hD hS => ?_)
  have hP : va_P (dC, dI) cls_ [(h0, .inr (9, [.ref qf, .int 3, .ref a2, .ref a3, .int 0, .ref a5, .ref a6, .ref a7, .ref qx, .int 0])), (qf, .inl (cF, 1200, .inl (upd (upd (upd (fun _ => 0) (Int32.toNatClampNeg 0) (w >>> (24 &&& 31) &&& 255)) (Int32.toNatClampNeg 1) (w >>> (16 &&& 31) &&& 255)) (Int32.toNatClampNeg 2) (w >>> (8 &&& 31) &&& 255))))] H := hP
  have hD : va_D A [(h0, .inr (9, [.ref qf, .int 3, .ref a2, .ref a3, .int 0, .ref a5, .ref a6, .ref a7, .ref qx, .int 0])), (qf, .inl (cF, 1200, .inl (upd (upd (upd (fun _ => 0) (Int32.toNatClampNeg 0) (w >>> (24 &&& 31) &&& 255)) (Int32.toNatClampNeg 1) (w >>> (16 &&& 31) &&& 255)) (Int32.toNatClampNeg 2) (w >>> (8 &&& 31) &&& 255))))] := hD
  refine lv_iinc (k := 0) (v := 0) (lv' := [(2, .int 0), (0, .ref h0), (1, .int w)]) hx hb d_GL_feed_47 hl rfl (by first | rfl | decide +kernel) (by decide) rfl (fun ls hl => ?_)
  refine lv_goto (tgt := 17) hx hb d_GL_feed_50 (by decide) ?_
  refine lv_iload_n hx hb d_GL_feed_17 rfl (lv_at hl 0 rfl) ?_
  refine lv_if_lt (tgt := 53) hx hb d_GL_feed_18 (by decide) (fun hc => absurd hc (by decide +kernel)) (fun _ => ?_)
  refine lv_aload_n hx hb d_GL_feed_21 rfl (lv_at hl 1 rfl) ?_
  refine va_get (D := (dC, dI)) (ci := 9) (v := .ref qf) (C := R_GL) (T := F_GL) (N := 10) hx hb hts in_GL hown hK hP 0 rfl rfl 0 (by decide) (hts _ (List.mem_cons_of_mem _ w_287)) (fun _ h9 => h9) rfl d_GL_feed_22 ?_
  refine lv_aload_n hx hb d_GL_feed_25 rfl (lv_at hl 1 rfl) ?_
  refine va_get (D := (dC, dI)) (ci := 9) (v := .int 3) (C := R_GL) (T := F_GL) (N := 10) hx hb hts in_GL hown hK hP 0 rfl rfl 1 (by decide) (hts _ (List.mem_cons_of_mem _ w_288)) (fun _ h9 => h9) rfl d_GL_feed_26 ?_
  refine lv_iload_n hx hb d_GL_feed_29 rfl (lv_at hl 2 rfl) ?_
  refine lv_iload_n hx hb d_GL_feed_30 rfl (lv_at hl 0 rfl) ?_
  refine lv_ishr hx hb d_GL_feed_31 ?_
  refine lv_sipush (v := 255) hx hb d_GL_feed_32 (by decide) ?_
  refine lv_iand hx hb d_GL_feed_35 ?_
  refine va_iast hx hb hK hP hD hS 1 0 rfl rfl (pk_in 3 1200 (by decide) (by decide +kernel) (by decide)) d_GL_feed_36 (fun H locs hP hD hS => ?_)
  have hP : va_P (dC, dI) cls_ [(h0, .inr (9, [.ref qf, .int 3, .ref a2, .ref a3, .int 0, .ref a5, .ref a6, .ref a7, .ref qx, .int 0])), (qf, .inl (cF, 1200, .inl (upd (upd (upd (upd (fun _ => 0) (Int32.toNatClampNeg 0) (w >>> (24 &&& 31) &&& 255)) (Int32.toNatClampNeg 1) (w >>> (16 &&& 31) &&& 255)) (Int32.toNatClampNeg 2) (w >>> (8 &&& 31) &&& 255)) (Int32.toNatClampNeg 3) (w >>> (0 &&& 31) &&& 255))))] H := hP
  have hD : va_D A [(h0, .inr (9, [.ref qf, .int 3, .ref a2, .ref a3, .int 0, .ref a5, .ref a6, .ref a7, .ref qx, .int 0])), (qf, .inl (cF, 1200, .inl (upd (upd (upd (upd (fun _ => 0) (Int32.toNatClampNeg 0) (w >>> (24 &&& 31) &&& 255)) (Int32.toNatClampNeg 1) (w >>> (16 &&& 31) &&& 255)) (Int32.toNatClampNeg 2) (w >>> (8 &&& 31) &&& 255)) (Int32.toNatClampNeg 3) (w >>> (0 &&& 31) &&& 255))))] := hD
  refine lv_aload_n hx hb d_GL_feed_37 rfl (lv_at hl 1 rfl) ?_
  refine lv_dup hx hb d_GL_feed_38 rfl ?_
  refine va_get (D := (dC, dI)) (ci := 9) (v := .int 3) (C := R_GL) (T := F_GL) (N := 10) hx hb hts in_GL hown hK hP 0 rfl rfl 1 (by decide) (hts _ (List.mem_cons_of_mem _ w_288)) (fun _ h9 => h9) rfl d_GL_feed_39 ?_
  refine lv_iconst (v := 1) hx hb d_GL_feed_42 (by decide) ?_
  refine lv_iadd hx hb d_GL_feed_43 ?_
  refine lv_ci (y := 4) (by decide +kernel) ?_
  refine va_put (D := (dC, dI)) (ci := 9) (v := .int 4) (ty := .int) (C := R_GL) (T := F_GL) (N := 10) hx hb hts in_GL t_GL t_GL_ok n_GL hown hK hP hD hS 0 rfl rfl 1 (by decide) (hts _ (List.mem_cons_of_mem _ w_288)) (fun _ h9 => h9) rfl  (by decide +kernel) rfl rfl (Nat.le_of_ble_eq_true rfl) d_GL_feed_44 (fun H locs hP hD hS => ?_)
  have hP : va_P (dC, dI) cls_ [(h0, .inr (9, [.ref qf, .int 4, .ref a2, .ref a3, .int 0, .ref a5, .ref a6, .ref a7, .ref qx, .int 0])), (qf, .inl (cF, 1200, .inl (upd (upd (upd (upd (fun _ => 0) (Int32.toNatClampNeg 0) (w >>> (24 &&& 31) &&& 255)) (Int32.toNatClampNeg 1) (w >>> (16 &&& 31) &&& 255)) (Int32.toNatClampNeg 2) (w >>> (8 &&& 31) &&& 255)) (Int32.toNatClampNeg 3) (w >>> (0 &&& 31) &&& 255))))] H := hP
  have hD : va_D A [(h0, .inr (9, [.ref qf, .int 4, .ref a2, .ref a3, .int 0, .ref a5, .ref a6, .ref a7, .ref qx, .int 0])), (qf, .inl (cF, 1200, .inl (upd (upd (upd (upd (fun _ => 0) (Int32.toNatClampNeg 0) (w >>> (24 &&& 31) &&& 255)) (Int32.toNatClampNeg 1) (w >>> (16 &&& 31) &&& 255)) (Int32.toNatClampNeg 2) (w >>> (8 &&& 31) &&& 255)) (Int32.toNatClampNeg 3) (w >>> (0 &&& 31) &&& 255))))] := hD
  refine lv_iinc (k := 0) (v := (-8)) (lv' := [(2, .int ((-8))), (0, .ref h0), (1, .int w)]) hx hb d_GL_feed_47 hl rfl (by first | rfl | decide +kernel) (by decide) rfl (fun ls hl => ?_)
  refine lv_goto (tgt := 17) hx hb d_GL_feed_50 (by decide) ?_
  refine lv_iload_n hx hb d_GL_feed_17 rfl (lv_at hl 0 rfl) ?_
  refine lv_if_lt (tgt := 53) hx hb d_GL_feed_18 (by decide) (fun _ => ?_) (fun hc => absurd hc (by decide +kernel))
  refine lv_aload_n hx hb d_GL_feed_53 rfl (lv_at hl 1 rfl) ?_
  refine va_get (D := (dC, dI)) (ci := 9) (v := .int 4) (C := R_GL) (T := F_GL) (N := 10) hx hb hts in_GL hown hK hP 0 rfl rfl 1 (by decide) (hts _ (List.mem_cons_of_mem _ w_288)) (fun _ h9 => h9) rfl d_GL_feed_54 ?_
  refine W.widen (k := 0) (n := 0) (Nat.le_of_ble_eq_true rfl) (Nat.le_of_ble_eq_true rfl) ?_
  exact W.iret (v := 4) hx hb hr (fun t ht hW => ⟨⟨4, (), rfl, rfl, trivial⟩, hS.F ht⟩) hS.2.2 d_GL_feed_57
set_option maxHeartbeats 4000000 in
set_option maxRecDepth 100000 in
/-- GlyphLines.at -/
theorem c_GL_at (l : Launch) (dC : Nat → ClassId) (dI : Nat → Nat → Nat) (h0 qf a2 a3 a5 a6 a7 qx : Nat) (i : Int32) (sz : Nat) : Met l y_GL_at s_GL_at ({ frames := 8, cells := 0, slots := 0, locals := 200 }) (va_Pc [.ref h0, .int i] (fun U => U.heap.size = sz ∧ va_P (dC, dI) cls_ [(h0, .inr (9, [.ref qf, .int 0, .ref a2, .ref a3, .int 0, .ref a5, .ref a6, .ref a7, .ref qx, .int 0]))] U.heap ∧ va_K (dC, dI) cls_ [] U ∧ va_D (fun _ => True) [(h0, .inr (9, [.ref qf, .int 0, .ref a2, .ref a3, .int 0, .ref a5, .ref a6, .ref a7, .ref qx, .int 0]))])) (va_Qi (fun (r : Int32) (_ : Unit) => r = -1) (fun (_ : Unit) (t : State) => True) (va_A [(h0, .inr (9, [.ref qf, .int 0, .ref a2, .ref a3, .int 0, .ref a5, .ref a6, .ref a7, .ref qx, .int 0]))] sz)) 0 0 (va_A [(h0, .inr (9, [.ref qf, .int 0, .ref a2, .ref a3, .int 0, .ref a5, .ref a6, .ref a7, .ref qx, .int 0]))] sz) := by
  refine Met.ofW (cc := b_GL_at) (maxL := 2) (ret := (some .int)) (by decide) rfl ?_
  intro p e s m args below meth c s₁ B hml hv
  obtain ⟨rfl, hsz, hP, hK, hD0⟩ := hv
  have hx := B.exec
  have hb := B.bytes
  have hr := B.returns
  have hts := atoms_spec (ws := s_GL_at) B.pre
  have hown : s.vm.findClass R_GL = some m.cls := findClass_of_methodNamed B.named
  have hlocks := B.notSynchronized
  subst hsz
  have hD := hD0.self (sz := s.heap.size)
  generalize hAe : va_A [(h0, .inr (9, [.ref qf, .int 0, .ref a2, .ref a3, .int 0, .ref a5, .ref a6, .ref a7, .ref qx, .int 0]))] s.heap.size = A at hD ⊢
  have hA : ∀ q : Nat, s.heap.size ≤ q → A q := fun q h => by rw [← hAe]; exact Or.inr h
  have hS : va_S A s.heap s.heap [] := va_S.rf
  have hP : va_P (dC, dI) cls_ [(h0, .inr (9, [.ref qf, .int 0, .ref a2, .ref a3, .int 0, .ref a5, .ref a6, .ref a7, .ref qx, .int 0]))] s.heap := hP
  have hl := lv_entry ([.ref h0, .int i]) (n := 2) (Nat.le_of_ble_eq_true rfl)
  rw [lg_entry_eq]
  generalize (lg_sl ([.ref h0, .int i]) ++ List.replicate (2 - (lg_sl ([.ref h0, .int i])).length) Slot.unset).toArray = ls at hl ⊢
  have hl : lv_has ls 2 [(0, .ref h0), (1, .int i)] := hl
  refine lv_iload_n hx hb d_GL_at_0 rfl (lv_at hl 1 rfl) ?_
  refine lv_if_lt (tgt := 21) hx hb d_GL_at_1 (by decide) (fun hc141 => ?_) (fun hc141 => ?_)
  · skip
    refine lv_iconst (v := (-1)) hx hb d_GL_at_21 (by decide) ?_
    refine W.widen (k := 0) (n := 0) (Nat.le_of_ble_eq_true rfl) (Nat.le_of_ble_eq_true rfl) ?_
    exact W.iret (v := (-1)) hx hb hr (fun t ht hW => ⟨⟨(-1), (), rfl, rfl, trivial⟩, hS.F ht⟩) hS.2.2 d_GL_at_22
  · skip
    refine lv_iload_n hx hb d_GL_at_4 rfl (lv_at hl 1 rfl) ?_
    refine lv_aload_n hx hb d_GL_at_5 rfl (lv_at hl 0 rfl) ?_
    refine va_get (D := (dC, dI)) (ci := 9) (v := .int 0) (C := R_GL) (T := F_GL) (N := 10) hx hb hts in_GL hown hK hP 0 rfl rfl 1 (by decide) (hts _ (List.mem_cons_of_mem _ w_288)) (fun _ h9 => h9) rfl d_GL_at_6 ?_
    refine lv_icmp_ge (tgt := 21) hx hb d_GL_at_9 (by decide) (fun hc142 => ?_) (fun hc142 => ?_)
    · skip
      refine lv_iconst (v := (-1)) hx hb d_GL_at_21 (by decide) ?_
      refine W.widen (k := 0) (n := 0) (Nat.le_of_ble_eq_true rfl) (Nat.le_of_ble_eq_true rfl) ?_
      exact W.iret (v := (-1)) hx hb hr (fun t ht hW => ⟨⟨(-1), (), rfl, rfl, trivial⟩, hS.F ht⟩) hS.2.2 d_GL_at_22
    · skip
      exact absurd (Int32.not_lt.mp hc141) hc142
set_option maxHeartbeats 4000000 in
set_option maxRecDepth 100000 in
/-- GlyphLines.cut -/
theorem c_GL_cut (l : Launch) (dC : Nat → ClassId) (dI : Nat → Nat → Nat) (h0 qf a2 a3 a5 a6 a7 qx : Nat) (many : Int32) (sz : Nat) (hm : ¬ many < 0) : Met l y_GL_cut s_GL_cut ({ frames := 8, cells := 0, slots := 0, locals := 200 }) (va_Pc [.ref h0, .int many] (fun U => U.heap.size = sz ∧ va_P (dC, dI) cls_ [(h0, .inr (9, [.ref qf, .int 0, .ref a2, .ref a3, .int 0, .ref a5, .ref a6, .ref a7, .ref qx, .int 0]))] U.heap ∧ va_K (dC, dI) cls_ [] U ∧ va_D (fun _ => True) [(h0, .inr (9, [.ref qf, .int 0, .ref a2, .ref a3, .int 0, .ref a5, .ref a6, .ref a7, .ref qx, .int 0]))])) (va_Qi (fun (r : Int32) (_ : Unit) => r = 0) (fun (_ : Unit) (t : State) => True) (va_A [(h0, .inr (9, [.ref qf, .int 0, .ref a2, .ref a3, .int 0, .ref a5, .ref a6, .ref a7, .ref qx, .int 0]))] sz)) 0 0 (va_A [(h0, .inr (9, [.ref qf, .int 0, .ref a2, .ref a3, .int 0, .ref a5, .ref a6, .ref a7, .ref qx, .int 0]))] sz) := by
  refine Met.ofW (cc := b_GL_cut) (maxL := 4) (ret := (some .int)) (by decide) rfl ?_
  intro p e s m args below meth c s₁ B hml hv
  obtain ⟨rfl, hsz, hP, hK, hD0⟩ := hv
  have hx := B.exec
  have hb := B.bytes
  have hr := B.returns
  have hts := atoms_spec (ws := s_GL_cut) B.pre
  have hown : s.vm.findClass R_GL = some m.cls := findClass_of_methodNamed B.named
  have hlocks := B.notSynchronized
  subst hsz
  have hD := hD0.self (sz := s.heap.size)
  generalize hAe : va_A [(h0, .inr (9, [.ref qf, .int 0, .ref a2, .ref a3, .int 0, .ref a5, .ref a6, .ref a7, .ref qx, .int 0]))] s.heap.size = A at hD ⊢
  have hA : ∀ q : Nat, s.heap.size ≤ q → A q := fun q h => by rw [← hAe]; exact Or.inr h
  have hS : va_S A s.heap s.heap [] := va_S.rf
  have hP : va_P (dC, dI) cls_ [(h0, .inr (9, [.ref qf, .int 0, .ref a2, .ref a3, .int 0, .ref a5, .ref a6, .ref a7, .ref qx, .int 0]))] s.heap := hP
  have hl := lv_entry ([.ref h0, .int many]) (n := 4) (Nat.le_of_ble_eq_true rfl)
  rw [lg_entry_eq]
  generalize (lg_sl ([.ref h0, .int many]) ++ List.replicate (4 - (lg_sl ([.ref h0, .int many])).length) Slot.unset).toArray = ls at hl ⊢
  have hl : lv_has ls 4 [(0, .ref h0), (1, .int many)] := hl
  refine lv_iload_n hx hb d_GL_cut_0 rfl (lv_at hl 1 rfl) ?_
  refine lv_if_ge (tgt := 14) hx hb d_GL_cut_1 (by decide) (fun hc143 => ?_) (fun hc143 => ?_)
  · skip
    refine lv_iload_n hx hb d_GL_cut_14 rfl (lv_at hl 1 rfl) ?_
    refine lv_aload_n hx hb d_GL_cut_15 rfl (lv_at hl 0 rfl) ?_
    refine va_get (D := (dC, dI)) (ci := 9) (v := .int 0) (C := R_GL) (T := F_GL) (N := 10) hx hb hts in_GL hown hK hP 0 rfl rfl 1 (by decide) (hts _ (List.mem_cons_of_mem _ w_288)) (fun _ h9 => h9) rfl d_GL_cut_16 ?_
    refine va_mmin hx hb (by rw [hml]; exact hl.1.symm) hown (hts _ (List.mem_cons_of_mem _ w_649)) (hts _ (List.mem_cons_of_mem _ w_335)) (hts _ (List.mem_cons_of_mem _ w_17)) (hts _ (List.mem_cons_of_mem _ w_336)) (Nat.le_of_ble_eq_true rfl) (Nat.le_of_ble_eq_true rfl) (Nat.le_of_ble_eq_true rfl) (Nat.le_of_ble_eq_true rfl) d_GL_cut_19 ?_
    refine lv_ci (y := 0) (gl_min0 hm) ?_
    refine lv_istore_n (lv' := [(2, .int 0), (0, .ref h0), (1, .int many)]) hx hb d_GL_cut_22 rfl hl (by decide) rfl (fun ls hl => ?_)
    refine lv_aload_n hx hb d_GL_cut_23 rfl (lv_at hl 1 rfl) ?_
    refine va_get (D := (dC, dI)) (ci := 9) (v := .int 0) (C := R_GL) (T := F_GL) (N := 10) hx hb hts in_GL hown hK hP 0 rfl rfl 1 (by decide) (hts _ (List.mem_cons_of_mem _ w_288)) (fun _ h9 => h9) rfl d_GL_cut_24 ?_
    refine lv_iload_n hx hb d_GL_cut_27 rfl (lv_at hl 0 rfl) ?_
    refine lv_isub hx hb d_GL_cut_28 ?_
    refine lv_ci (y := 0) (by decide +kernel) ?_
    refine lv_istore_n (lv' := [(3, .int 0), (2, .int 0), (0, .ref h0), (1, .int many)]) hx hb d_GL_cut_29 rfl hl (by decide) rfl (fun ls hl => ?_)
    refine lv_aload_n hx hb d_GL_cut_30 rfl (lv_at hl 2 rfl) ?_
    refine lv_iload_n hx hb d_GL_cut_31 rfl (lv_at hl 1 rfl) ?_
    refine va_put (D := (dC, dI)) (ci := 9) (v := .int 0) (ty := .int) (C := R_GL) (T := F_GL) (N := 10) hx hb hts in_GL t_GL t_GL_ok n_GL hown hK hP hD hS 0 rfl rfl 1 (by decide) (hts _ (List.mem_cons_of_mem _ w_288)) (fun _ h9 => h9) rfl  (by decide +kernel) rfl rfl (Nat.le_of_ble_eq_true rfl) d_GL_cut_32 (fun H locs hP hD hS => ?_)
    have hP : va_P (dC, dI) cls_ [(h0, .inr (9, [.ref qf, .int 0, .ref a2, .ref a3, .int 0, .ref a5, .ref a6, .ref a7, .ref qx, .int 0]))] H := hP
    have hD : va_D A [(h0, .inr (9, [.ref qf, .int 0, .ref a2, .ref a3, .int 0, .ref a5, .ref a6, .ref a7, .ref qx, .int 0]))] := hD
    refine lv_iload_n hx hb d_GL_cut_35 rfl (lv_at hl 0 rfl) ?_
    refine W.widen (k := 0) (n := 0) (Nat.le_of_ble_eq_true rfl) (Nat.le_of_ble_eq_true rfl) ?_
    exact W.iret (v := 0) hx hb hr (fun t ht hW => ⟨⟨0, (), rfl, rfl, trivial⟩, hS.F ht⟩) hS.2.2 d_GL_cut_36
  · skip
    exact absurd (Int32.not_lt.mp hm) hc143
set_option maxHeartbeats 4000000 in
set_option maxRecDepth 100000 in
/-- GlyphLines.wipe -/
theorem c_GL_wipe (l : Launch) (dC : Nat → ClassId) (dI : Nat → Nat → Nat) (h0 qf a2 a3 a5 a6 a7 qx : Nat) (sz : Nat) : Met l y_GL_wipe s_GL_wipe ({ frames := 8, cells := 0, slots := 0, locals := 200 }) (va_Pc [.ref h0] (fun U => U.heap.size = sz ∧ va_P (dC, dI) cls_ [(h0, .inr (9, [.ref qf, .int 0, .ref a2, .ref a3, .int 0, .ref a5, .ref a6, .ref a7, .ref qx, .int 0]))] U.heap ∧ va_K (dC, dI) cls_ [] U ∧ va_D (fun _ => True) [(h0, .inr (9, [.ref qf, .int 0, .ref a2, .ref a3, .int 0, .ref a5, .ref a6, .ref a7, .ref qx, .int 0]))])) (va_Qi (fun (r : Int32) (_ : Unit) => r = 0) (fun (_ : Unit) (t : State) => True) (va_A [(h0, .inr (9, [.ref qf, .int 0, .ref a2, .ref a3, .int 0, .ref a5, .ref a6, .ref a7, .ref qx, .int 0]))] sz)) 0 0 (va_A [(h0, .inr (9, [.ref qf, .int 0, .ref a2, .ref a3, .int 0, .ref a5, .ref a6, .ref a7, .ref qx, .int 0]))] sz) := by
  refine Met.ofW (cc := b_GL_wipe) (maxL := 2) (ret := (some .int)) (by decide) rfl ?_
  intro p e s m args below meth c s₁ B hml hv
  obtain ⟨rfl, hsz, hP, hK, hD0⟩ := hv
  have hx := B.exec
  have hb := B.bytes
  have hr := B.returns
  have hts := atoms_spec (ws := s_GL_wipe) B.pre
  have hown : s.vm.findClass R_GL = some m.cls := findClass_of_methodNamed B.named
  have hlocks := B.notSynchronized
  subst hsz
  have hD := hD0.self (sz := s.heap.size)
  generalize hAe : va_A [(h0, .inr (9, [.ref qf, .int 0, .ref a2, .ref a3, .int 0, .ref a5, .ref a6, .ref a7, .ref qx, .int 0]))] s.heap.size = A at hD ⊢
  have hA : ∀ q : Nat, s.heap.size ≤ q → A q := fun q h => by rw [← hAe]; exact Or.inr h
  have hS : va_S A s.heap s.heap [] := va_S.rf
  have hP : va_P (dC, dI) cls_ [(h0, .inr (9, [.ref qf, .int 0, .ref a2, .ref a3, .int 0, .ref a5, .ref a6, .ref a7, .ref qx, .int 0]))] s.heap := hP
  have hl := lv_entry ([.ref h0]) (n := 2) (Nat.le_of_ble_eq_true rfl)
  rw [lg_entry_eq]
  generalize (lg_sl ([.ref h0]) ++ List.replicate (2 - (lg_sl ([.ref h0])).length) Slot.unset).toArray = ls at hl ⊢
  have hl : lv_has ls 2 [(0, .ref h0)] := hl
  refine lv_aload_n hx hb d_GL_wipe_0 rfl (lv_at hl 0 rfl) ?_
  refine va_get (D := (dC, dI)) (ci := 9) (v := .int 0) (C := R_GL) (T := F_GL) (N := 10) hx hb hts in_GL hown hK hP 0 rfl rfl 9 (by decide) (hts _ (List.mem_cons_of_mem _ w_296)) (fun _ h9 => h9) rfl d_GL_wipe_1 ?_
  refine lv_istore_n (lv' := [(1, .int 0), (0, .ref h0)]) hx hb d_GL_wipe_4 rfl hl (by decide) rfl (fun ls hl => ?_)
  refine lv_aload_n hx hb d_GL_wipe_5 rfl (lv_at hl 1 rfl) ?_
  refine lv_iconst (v := 0) hx hb d_GL_wipe_6 (by decide) ?_
  refine va_put (D := (dC, dI)) (ci := 9) (v := .int 0) (ty := .int) (C := R_GL) (T := F_GL) (N := 10) hx hb hts in_GL t_GL t_GL_ok n_GL hown hK hP hD hS 0 rfl rfl 9 (by decide) (hts _ (List.mem_cons_of_mem _ w_296)) (fun _ h9 => h9) rfl  (by decide +kernel) rfl rfl (Nat.le_of_ble_eq_true rfl) d_GL_wipe_7 (fun H locs hP hD hS => ?_)
  have hP : va_P (dC, dI) cls_ [(h0, .inr (9, [.ref qf, .int 0, .ref a2, .ref a3, .int 0, .ref a5, .ref a6, .ref a7, .ref qx, .int 0]))] H := hP
  have hD : va_D A [(h0, .inr (9, [.ref qf, .int 0, .ref a2, .ref a3, .int 0, .ref a5, .ref a6, .ref a7, .ref qx, .int 0]))] := hD
  refine lv_iload_n hx hb d_GL_wipe_10 rfl (lv_at hl 0 rfl) ?_
  refine W.widen (k := 0) (n := 0) (Nat.le_of_ble_eq_true rfl) (Nat.le_of_ble_eq_true rfl) ?_
  exact W.iret (v := 0) hx hb hr (fun t ht hW => ⟨⟨0, (), rfl, rfl, trivial⟩, hS.F ht⟩) hS.2.2 d_GL_wipe_11
set_option maxHeartbeats 4000000 in
set_option maxRecDepth 100000 in
/-- GlyphLines.isCharacter -/
theorem c_GL_isCharacter (l : Launch) (dC : Nat → ClassId) (dI : Nat → Nat → Nat) (ch : Int32) (sz : Nat) : Met l y_GL_isCharacter s_GL_isCharacter ({ frames := 8, cells := 0, slots := 0, locals := 200 }) (va_Pc [.int ch] (fun U => U.heap.size = sz ∧ va_P (dC, dI) cls_ [] U.heap ∧ va_K (dC, dI) cls_ [] U ∧ va_D (fun _ => True) [])) (va_Qi (fun (r : Int32) (_ : Unit) => r = (if 0 ≤ ch ∧ ch ≤ 65535 then 1 else 0)) (fun (_ : Unit) (t : State) => True) (va_A [] sz)) 0 0 (va_A [] sz) := by
  refine Met.ofW (cc := b_GL_isCharacter) (maxL := 1) (ret := (some .boolean)) (by decide) rfl ?_
  intro p e s m args below meth c s₁ B hml hv
  obtain ⟨rfl, hsz, hP, hK, hD0⟩ := hv
  have hx := B.exec
  have hb := B.bytes
  have hr := B.returns
  have hts := atoms_spec (ws := s_GL_isCharacter) B.pre
  have hown : s.vm.findClass R_GL = some m.cls := findClass_of_methodNamed B.named
  have hlocks := B.notSynchronized
  subst hsz
  have hD := hD0.self (sz := s.heap.size)
  generalize hAe : va_A [] s.heap.size = A at hD ⊢
  have hA : ∀ q : Nat, s.heap.size ≤ q → A q := fun q h => by rw [← hAe]; exact Or.inr h
  have hS : va_S A s.heap s.heap [] := va_S.rf
  have hP : va_P (dC, dI) cls_ [] s.heap := hP
  have hl := lv_entry ([.int ch]) (n := 1) (Nat.le_of_ble_eq_true rfl)
  rw [lg_entry_eq]
  generalize (lg_sl ([.int ch]) ++ List.replicate (1 - (lg_sl ([.int ch])).length) Slot.unset).toArray = ls at hl ⊢
  have hl : lv_has ls 1 [(0, .int ch)] := hl
  refine lv_iload_n hx hb d_GL_isCharacter_0 rfl (lv_at hl 0 rfl) ?_
  refine lv_if_lt (tgt := 14) hx hb d_GL_isCharacter_1 (by decide) (fun hc144 => ?_) (fun hc144 => ?_)
  · skip
    refine lv_iconst (v := 0) hx hb d_GL_isCharacter_14 (by decide) ?_
    refine W.widen (k := 0) (n := 0) (Nat.le_of_ble_eq_true rfl) (Nat.le_of_ble_eq_true rfl) ?_
    exact W.zret (v := 0) (ty := .boolean) hx hb hr (by decide +kernel) (fun t ht hW => ⟨⟨0, (), rfl, (if_neg (fun z => absurd hc144 (Int32.not_lt.mpr z.1))).symm, trivial⟩, hS.F ht⟩) hS.2.2 d_GL_isCharacter_15
  · skip
    refine lv_iload_n hx hb d_GL_isCharacter_4 rfl (lv_at hl 0 rfl) ?_
    refine lv_ldc (v := 65535) hx hb hown (hts _ (List.mem_cons_of_mem _ w_543)) d_GL_isCharacter_5 ?_
    refine lv_icmp_gt (tgt := 14) hx hb d_GL_isCharacter_7 (by decide) (fun hc145 => ?_) (fun hc145 => ?_)
    · skip
      refine lv_iconst (v := 0) hx hb d_GL_isCharacter_14 (by decide) ?_
      refine W.widen (k := 0) (n := 0) (Nat.le_of_ble_eq_true rfl) (Nat.le_of_ble_eq_true rfl) ?_
      exact W.zret (v := 0) (ty := .boolean) hx hb hr (by decide +kernel) (fun t ht hW => ⟨⟨0, (), rfl, (if_neg (fun z => absurd hc145 (Int32.not_lt.mpr z.2))).symm, trivial⟩, hS.F ht⟩) hS.2.2 d_GL_isCharacter_15
    · skip
      refine lv_iconst (v := 1) hx hb d_GL_isCharacter_10 (by decide) ?_
      refine lv_goto (tgt := 15) hx hb d_GL_isCharacter_11 (by decide) ?_
      refine W.widen (k := 0) (n := 0) (Nat.le_of_ble_eq_true rfl) (Nat.le_of_ble_eq_true rfl) ?_
      exact W.zret (v := 1) (ty := .boolean) hx hb hr (by decide +kernel) (fun t ht hW => ⟨⟨1, (), rfl, (if_pos ⟨Int32.not_lt.mp hc144, Int32.not_lt.mp hc145⟩).symm, trivial⟩, hS.F ht⟩) hS.2.2 d_GL_isCharacter_15
set_option maxHeartbeats 4000000 in
set_option maxRecDepth 100000 in
/-- GlyphLines.type -/
theorem c_GL_type (l : Launch) (dC : Nat → ClassId) (dI : Nat → Nat → Nat) (h0 qf a2 a3 a5 a6 a7 qx : Nat) (cX : ClassId) (ch : Int32) (sz : Nat) : Met l y_GL_type s_GL_type ({ frames := 10, cells := 0, slots := 0, locals := 300 }) (va_Pc [.ref h0, .int ch] (fun U => U.heap.size = sz ∧ va_P (dC, dI) cls_ [(h0, .inr (9, [.ref qf, .int 0, .ref a2, .ref a3, .int 0, .ref a5, .ref a6, .ref a7, .ref qx, .int 0])), (qx, .inl (cX, 12, .inl (fun _ => 0)))] U.heap ∧ va_K (dC, dI) cls_ [(cX, .int)] U ∧ va_D (fun _ => True) [(h0, .inr (9, [.ref qf, .int 0, .ref a2, .ref a3, .int 0, .ref a5, .ref a6, .ref a7, .ref qx, .int 0])), (qx, .inl (cX, 12, .inl (fun _ => 0)))])) (va_Qi (fun (r : Int32) (_ : Unit) => r = (if 0 ≤ ch ∧ ch ≤ 65535 then 1 else 0)) (fun (_ : Unit) (t : State) => True) (va_A [(h0, .inr (9, [.ref qf, .int 0, .ref a2, .ref a3, .int 0, .ref a5, .ref a6, .ref a7, .ref qx, .int 0])), (qx, .inl (cX, 12, .inl (fun _ => 0)))] sz)) 0 0 (va_A [(h0, .inr (9, [.ref qf, .int 0, .ref a2, .ref a3, .int 0, .ref a5, .ref a6, .ref a7, .ref qx, .int 0])), (qx, .inl (cX, 12, .inl (fun _ => 0)))] sz) := by
  refine Met.ofW (cc := b_GL_type) (maxL := 2) (ret := (some .boolean)) (by decide) rfl ?_
  intro p e s m args below meth c s₁ B hml hv
  obtain ⟨rfl, hsz, hP, hK, hD0⟩ := hv
  have hx := B.exec
  have hb := B.bytes
  have hr := B.returns
  have hts := atoms_spec (ws := s_GL_type) B.pre
  have hown : s.vm.findClass R_GL = some m.cls := findClass_of_methodNamed B.named
  have hlocks := B.notSynchronized
  subst hsz
  have hD := hD0.self (sz := s.heap.size)
  generalize hAe : va_A [(h0, .inr (9, [.ref qf, .int 0, .ref a2, .ref a3, .int 0, .ref a5, .ref a6, .ref a7, .ref qx, .int 0])), (qx, .inl (cX, 12, .inl (fun _ => 0)))] s.heap.size = A at hD ⊢
  have hA : ∀ q : Nat, s.heap.size ≤ q → A q := fun q h => by rw [← hAe]; exact Or.inr h
  have hS : va_S A s.heap s.heap [] := va_S.rf
  have hP : va_P (dC, dI) cls_ [(h0, .inr (9, [.ref qf, .int 0, .ref a2, .ref a3, .int 0, .ref a5, .ref a6, .ref a7, .ref qx, .int 0])), (qx, .inl (cX, 12, .inl (fun _ => 0)))] s.heap := hP
  have hl := lv_entry ([.ref h0, .int ch]) (n := 2) (Nat.le_of_ble_eq_true rfl)
  rw [lg_entry_eq]
  generalize (lg_sl ([.ref h0, .int ch]) ++ List.replicate (2 - (lg_sl ([.ref h0, .int ch])).length) Slot.unset).toArray = ls at hl ⊢
  have hl : lv_has ls 2 [(0, .ref h0), (1, .int ch)] := hl
  refine lv_iload_n hx hb d_GL_type_0 rfl (lv_at hl 1 rfl) ?_
  have hPc := hP.sub (ws' := []) [] rfl
  have hDc := hD.sub (ws' := []) [] (by decide) rfl
  have hKc := hK.sub (tys' := []) [] rfl
  have hFc := va_free (wc := []) hD hS hA [] rfl
  refine va_calli (va_runS (As := [.int ch]) (rest := []) ⟨hx, hb, hml, hown, hts⟩ (c_GL_isCharacter l dC dI ch s.heap.size) (cwS 1 hts (tw_inS w_540 w_541 w_1 w_542) rfl rfl rfl (by decide +kernel) ⟨Nat.le_of_ble_eq_true rfl, Nat.le_of_ble_eq_true rfl⟩) ⟨fun a U g mk q => by obtain ⟨q0, q1, qP, qK, qD⟩ := q; exact ⟨q0, q1, qP, va_K.moved (u := U) (U := U.calling g mk a) (Vm.Alike.refl U.vm) qK, qD⟩, fun U hU hW => ⟨rfl, by rw [hU], by rw [hU]; exact hPc, va_K.moved hW.alike hKc, hDc.weaken (fun _ _ _ _ => trivial)⟩⟩ rfl rfl hl.1 rfl (lv_room (Nat.le_of_ble_eq_true rfl)) d_GL_type_1 ⟨Nat.le_of_ble_eq_true rfl, Nat.le_of_ble_eq_true rfl⟩) hS (fun q _ h => hFc q h) hFc (fun r146 u t H1 locs ht hvm hw hB hz1 hk1 hS => ?_)
  have hP1 : va_P (dC, dI) cls_ [] H1 := fun k q h => by simp at h
  have hD1 : va_D (va_A [] s.heap.size) [] := ⟨fun i j p q h => by simp at h, fun k q h => by simp at h⟩
  obtain ⟨hP, hD⟩ := va_join (wr := [(h0, .inr (9, [.ref qf, .int 0, .ref a2, .ref a3, .int 0, .ref a5, .ref a6, .ref a7, .ref qx, .int 0])), (qx, .inl (cX, 12, .inl (fun _ => 0)))]) (w1 := []) hP hD [] [0, 1] rfl rfl (by decide) (by decide) hk1 hFc hP1 hD1
  generalize H1 = H at hP hS ⊢
  have hP : va_P (dC, dI) cls_ [(h0, .inr (9, [.ref qf, .int 0, .ref a2, .ref a3, .int 0, .ref a5, .ref a6, .ref a7, .ref qx, .int 0])), (qx, .inl (cX, 12, .inl (fun _ => 0)))] H := hP
  have hD : va_D A [(h0, .inr (9, [.ref qf, .int 0, .ref a2, .ref a3, .int 0, .ref a5, .ref a6, .ref a7, .ref qx, .int 0])), (qx, .inl (cX, 12, .inl (fun _ => 0)))] := hD
  have hw_r146 := hw
  refine lv_if_eq (tgt := 16) hx hb d_GL_type_4 (by decide) (fun hc147 => ?_) (fun hc147 => ?_)
  · skip
    refine lv_iconst (v := 0) hx hb d_GL_type_16 (by decide) ?_
    refine W.widen (k := 0) (n := 0) (Nat.le_of_ble_eq_true rfl) (Nat.le_of_ble_eq_true rfl) ?_
    exact W.zret (v := 0) (ty := .boolean) hx hb hr (by decide +kernel) (fun t ht hW => ⟨⟨0, (), rfl, hc147.symm.trans hw_r146, trivial⟩, hS.F ht⟩) hS.2.2 d_GL_type_17
  · skip
    refine lv_aload_n hx hb d_GL_type_7 rfl (lv_at hl 0 rfl) ?_
    refine va_get (D := (dC, dI)) (ci := 9) (v := .int 0) (C := R_GL) (T := F_GL) (N := 10) hx hb hts in_GL hown hK hP 0 rfl rfl 9 (by decide) (hts _ (List.mem_cons_of_mem _ w_296)) (fun _ h9 => h9) rfl d_GL_type_8 ?_
    refine lv_bipush (v := 12) hx hb d_GL_type_11 (by decide) ?_
    refine lv_icmp_lt (tgt := 18) hx hb d_GL_type_13 (by decide) (fun _ => ?_) (fun hc => absurd hc (by decide +kernel))
    refine lv_aload_n hx hb d_GL_type_18 rfl (lv_at hl 0 rfl) ?_
    refine va_get (D := (dC, dI)) (ci := 9) (v := .ref qx) (C := R_GL) (T := F_GL) (N := 10) hx hb hts in_GL hown hK hP 0 rfl rfl 8 (by decide) (hts _ (List.mem_cons_of_mem _ w_295)) (fun _ h9 => h9) rfl d_GL_type_19 ?_
    refine lv_aload_n hx hb d_GL_type_22 rfl (lv_at hl 0 rfl) ?_
    refine va_get (D := (dC, dI)) (ci := 9) (v := .int 0) (C := R_GL) (T := F_GL) (N := 10) hx hb hts in_GL hown hK hP 0 rfl rfl 9 (by decide) (hts _ (List.mem_cons_of_mem _ w_296)) (fun _ h9 => h9) rfl d_GL_type_23 ?_
    refine lv_iload_n hx hb d_GL_type_26 rfl (lv_at hl 1 rfl) ?_
    refine va_iast hx hb hK hP hD hS 1 0 rfl rfl (pk_in 0 12 (by decide) (by decide +kernel) (by decide)) d_GL_type_27 (fun H locs hP hD hS => ?_)
    have hP : va_P (dC, dI) cls_ [(h0, .inr (9, [.ref qf, .int 0, .ref a2, .ref a3, .int 0, .ref a5, .ref a6, .ref a7, .ref qx, .int 0])), (qx, .inl (cX, 12, .inl (upd (fun _ => 0) (Int32.toNatClampNeg 0) (ch))))] H := hP
    have hD : va_D A [(h0, .inr (9, [.ref qf, .int 0, .ref a2, .ref a3, .int 0, .ref a5, .ref a6, .ref a7, .ref qx, .int 0])), (qx, .inl (cX, 12, .inl (upd (fun _ => 0) (Int32.toNatClampNeg 0) (ch))))] := hD
    refine lv_aload_n hx hb d_GL_type_28 rfl (lv_at hl 0 rfl) ?_
    refine lv_dup hx hb d_GL_type_29 rfl ?_
    refine va_get (D := (dC, dI)) (ci := 9) (v := .int 0) (C := R_GL) (T := F_GL) (N := 10) hx hb hts in_GL hown hK hP 0 rfl rfl 9 (by decide) (hts _ (List.mem_cons_of_mem _ w_296)) (fun _ h9 => h9) rfl d_GL_type_30 ?_
    refine lv_iconst (v := 1) hx hb d_GL_type_33 (by decide) ?_
    refine lv_iadd hx hb d_GL_type_34 ?_
    refine lv_ci (y := 1) (by decide +kernel) ?_
    refine va_put (D := (dC, dI)) (ci := 9) (v := .int 1) (ty := .int) (C := R_GL) (T := F_GL) (N := 10) hx hb hts in_GL t_GL t_GL_ok n_GL hown hK hP hD hS 0 rfl rfl 9 (by decide) (hts _ (List.mem_cons_of_mem _ w_296)) (fun _ h9 => h9) rfl  (by decide +kernel) rfl rfl (Nat.le_of_ble_eq_true rfl) d_GL_type_35 (fun H locs hP hD hS => ?_)
    have hP : va_P (dC, dI) cls_ [(h0, .inr (9, [.ref qf, .int 0, .ref a2, .ref a3, .int 0, .ref a5, .ref a6, .ref a7, .ref qx, .int 1])), (qx, .inl (cX, 12, .inl (upd (fun _ => 0) (Int32.toNatClampNeg 0) (ch))))] H := hP
    have hD : va_D A [(h0, .inr (9, [.ref qf, .int 0, .ref a2, .ref a3, .int 0, .ref a5, .ref a6, .ref a7, .ref qx, .int 1])), (qx, .inl (cX, 12, .inl (upd (fun _ => 0) (Int32.toNatClampNeg 0) (ch))))] := hD
    refine lv_iconst (v := 1) hx hb d_GL_type_38 (by decide) ?_
    refine W.widen (k := 0) (n := 0) (Nat.le_of_ble_eq_true rfl) (Nat.le_of_ble_eq_true rfl) ?_
    exact W.zret (v := 1) (ty := .boolean) hx hb hr (by decide +kernel) (fun t ht hW => ⟨⟨1, (), rfl, gl_bit hw_r146 hc147, trivial⟩, hS.F ht⟩) hS.2.2 d_GL_type_39
set_option maxHeartbeats 4000000 in
set_option maxRecDepth 100000 in
/-- GlyphLines.row -/
theorem c_GL_row (l : Launch) (dC : Nat → ClassId) (dI : Nat → Nat → Nat) (h0 qf a2 a3 a5 a6 a7 qx : Nat) (qr qs : Nat) (cB : ClassId) (r : Int32) (sz : Nat) (h1 : ¬ r < 0) (h2 : r < 24) : Met l y_GL_row s_GL_row ({ frames := 8, cells := 0, slots := 0, locals := 200 }) (va_Pc [.ref h0, .int r] (fun U => U.heap.size = sz ∧ va_P (dC, dI) cls_ [(h0, .inr (9, [.ref qf, .int 0, .ref a2, .ref a3, .int 0, .ref a5, .ref a6, .ref a7, .ref qx, .int 0])), (a6, .inr (7, [.ref qr, .ref qs])), (qr, .inl (cB, 24, .inr (.inl (fun _ => 0))))] U.heap ∧ va_K (dC, dI) cls_ [(cB, .long)] U ∧ va_D (fun _ => True) [(h0, .inr (9, [.ref qf, .int 0, .ref a2, .ref a3, .int 0, .ref a5, .ref a6, .ref a7, .ref qx, .int 0])), (a6, .inr (7, [.ref qr, .ref qs])), (qr, .inl (cB, 24, .inr (.inl (fun _ => 0))))] ∧ va_Nw (.fieldLinkNest "GlyphLines" 153 "GlyphLines$Picture" "rows" "[J" "GlyphLines") U)) (va_Ql (fun (r : Int64) (_ : Unit) => r = 0) (fun (_ : Unit) (t : State) => True) (va_A [(h0, .inr (9, [.ref qf, .int 0, .ref a2, .ref a3, .int 0, .ref a5, .ref a6, .ref a7, .ref qx, .int 0])), (a6, .inr (7, [.ref qr, .ref qs])), (qr, .inl (cB, 24, .inr (.inl (fun _ => 0))))] sz)) 0 0 (va_A [(h0, .inr (9, [.ref qf, .int 0, .ref a2, .ref a3, .int 0, .ref a5, .ref a6, .ref a7, .ref qx, .int 0])), (a6, .inr (7, [.ref qr, .ref qs])), (qr, .inl (cB, 24, .inr (.inl (fun _ => 0))))] sz) := by
  refine Met.ofW (cc := b_GL_row) (maxL := 2) (ret := (some .long)) (by decide) rfl ?_
  intro p e s m args below meth c s₁ B hml hv
  obtain ⟨rfl, hsz, hP, hK, hD0, hN⟩ := hv
  have hx := B.exec
  have hb := B.bytes
  have hr := B.returns
  have hts := atoms_spec (ws := s_GL_row) B.pre
  have hown : s.vm.findClass R_GL = some m.cls := findClass_of_methodNamed B.named
  have hlocks := B.notSynchronized
  subst hsz
  have hD := hD0.self (sz := s.heap.size)
  generalize hAe : va_A [(h0, .inr (9, [.ref qf, .int 0, .ref a2, .ref a3, .int 0, .ref a5, .ref a6, .ref a7, .ref qx, .int 0])), (a6, .inr (7, [.ref qr, .ref qs])), (qr, .inl (cB, 24, .inr (.inl (fun _ => 0))))] s.heap.size = A at hD ⊢
  have hA : ∀ q : Nat, s.heap.size ≤ q → A q := fun q h => by rw [← hAe]; exact Or.inr h
  have hS : va_S A s.heap s.heap [] := va_S.rf
  have hP : va_P (dC, dI) cls_ [(h0, .inr (9, [.ref qf, .int 0, .ref a2, .ref a3, .int 0, .ref a5, .ref a6, .ref a7, .ref qx, .int 0])), (a6, .inr (7, [.ref qr, .ref qs])), (qr, .inl (cB, 24, .inr (.inl (fun _ => 0))))] s.heap := hP
  have hl := lv_entry ([.ref h0, .int r]) (n := 2) (Nat.le_of_ble_eq_true rfl)
  rw [lg_entry_eq]
  generalize (lg_sl ([.ref h0, .int r]) ++ List.replicate (2 - (lg_sl ([.ref h0, .int r])).length) Slot.unset).toArray = ls at hl ⊢
  have hl : lv_has ls 2 [(0, .ref h0), (1, .int r)] := hl
  refine lv_iload_n hx hb d_GL_row_0 rfl (lv_at hl 1 rfl) ?_
  refine lv_if_lt (tgt := 10) hx hb d_GL_row_1 (by decide) (fun hc148 => ?_) (fun hc148 => ?_)
  · skip
    exact absurd hc148 h1
  · skip
    refine lv_iload_n hx hb d_GL_row_4 rfl (lv_at hl 1 rfl) ?_
    refine lv_bipush (v := 24) hx hb d_GL_row_5 (by decide) ?_
    refine lv_icmp_lt (tgt := 20) hx hb d_GL_row_7 (by decide) (fun hc149 => ?_) (fun hc149 => ?_)
    · skip
      refine lv_aload_n hx hb d_GL_row_20 rfl (lv_at hl 0 rfl) ?_
      refine va_get (D := (dC, dI)) (ci := 9) (v := .ref a6) (C := R_GL) (T := F_GL) (N := 10) hx hb hts in_GL hown hK hP 0 rfl rfl 6 (by decide) (hts _ (List.mem_cons_of_mem _ w_293)) (fun _ h9 => h9) rfl d_GL_row_21 ?_
      refine va_getN (D := (dC, dI)) (ci := 7) (v := .ref qr) (C := R_PI) (T := F_PI) (N := 2) (host := "GlyphLines") hx hb hts in_PI hown hK hP 1 rfl rfl 0 (by decide) (va_Nw.use rfl hN) (fun _ h9 => h9) rfl d_GL_row_24 ?_
      refine lv_iload_n hx hb d_GL_row_27 rfl (lv_at hl 1 rfl) ?_
      refine va_lald hx hb hK hP 2 0 rfl rfl (gl_in24 h1 h2) d_GL_row_28 ?_
      refine W.widen (k := 0) (n := 0) (Nat.le_of_ble_eq_true rfl) (Nat.le_of_ble_eq_true rfl) ?_
      exact W.lret (v := 0) hx hb hr (fun t ht hW => ⟨⟨0, (), rfl, rfl, trivial⟩, hS.F ht⟩) hS.2.2 d_GL_row_29
    · skip
      exact absurd h2 hc149
set_option maxHeartbeats 4000000 in
set_option maxRecDepth 100000 in
/-- GlyphLines$Span.lay -/
theorem c_SP_lay (l : Launch) (dC : Nat → ClassId) (dI : Nat → Nat → Nat) (h0 qa : Nat) (cA : ClassId) (f : Nat → Int32) (sz : Nat) : Met l y_SP_lay s_SP_lay ({ frames := 8, cells := 0, slots := 0, locals := 200 }) (va_Pc [.ref h0, .int 0, .int 0] (fun U => U.heap.size = sz ∧ va_P (dC, dI) cls_ [(h0, .inr (0, [.ref qa, .int 0, .int 0, .int 0])), (qa, .inl (cA, 1200, .inl (f)))] U.heap ∧ va_K (dC, dI) cls_ [(cA, .int)] U ∧ va_D (fun _ => True) [(h0, .inr (0, [.ref qa, .int 0, .int 0, .int 0])), (qa, .inl (cA, 1200, .inl (f)))])) (va_Qv (fun _ : Unit => True) (fun (_ : Unit) (t : State) => va_P (dC, dI) cls_ [(h0, .inr (0, [.ref qa, .int 0, .int 0, .int 0])), (qa, .inl (cA, 1200, .inl (f)))] t.heap ∧ va_K (dC, dI) cls_ [(cA, .int)] t ∧ va_D (va_A [(h0, .inr (0, [.ref qa, .int 0, .int 0, .int 0])), (qa, .inl (cA, 1200, .inl (f)))] sz) [(h0, .inr (0, [.ref qa, .int 0, .int 0, .int 0])), (qa, .inl (cA, 1200, .inl (f)))]) (va_A [(h0, .inr (0, [.ref qa, .int 0, .int 0, .int 0])), (qa, .inl (cA, 1200, .inl (f)))] sz)) 0 0 (va_A [(h0, .inr (0, [.ref qa, .int 0, .int 0, .int 0])), (qa, .inl (cA, 1200, .inl (f)))] sz) := by
  refine Met.ofW (cc := b_SP_lay) (maxL := 3) (ret := none) (by decide) rfl ?_
  intro p e s m args below meth c s₁ B hml hv
  obtain ⟨rfl, hsz, hP, hK, hD0⟩ := hv
  have hx := B.exec
  have hb := B.bytes
  have hr := B.returns
  have hts := atoms_spec (ws := s_SP_lay) B.pre
  have hown : s.vm.findClass R_SP = some m.cls := findClass_of_methodNamed B.named
  have hlocks := B.notSynchronized
  subst hsz
  have hD := hD0.self (sz := s.heap.size)
  generalize hAe : va_A [(h0, .inr (0, [.ref qa, .int 0, .int 0, .int 0])), (qa, .inl (cA, 1200, .inl (f)))] s.heap.size = A at hD ⊢
  have hA : ∀ q : Nat, s.heap.size ≤ q → A q := fun q h => by rw [← hAe]; exact Or.inr h
  have hS : va_S A s.heap s.heap [] := va_S.rf
  have hP : va_P (dC, dI) cls_ [(h0, .inr (0, [.ref qa, .int 0, .int 0, .int 0])), (qa, .inl (cA, 1200, .inl (f)))] s.heap := hP
  have hl := lv_entry ([.ref h0, .int 0, .int 0]) (n := 3) (Nat.le_of_ble_eq_true rfl)
  rw [lg_entry_eq]
  generalize (lg_sl ([.ref h0, .int 0, .int 0]) ++ List.replicate (3 - (lg_sl ([.ref h0, .int 0, .int 0])).length) Slot.unset).toArray = ls at hl ⊢
  have hl : lv_has ls 3 [(0, .ref h0), (1, .int 0), (2, .int 0)] := hl
  refine lv_aload_n hx hb d_SP_lay_0 rfl (lv_at hl 0 rfl) ?_
  refine lv_iconst (v := 0) hx hb d_SP_lay_1 (by decide) ?_
  refine lv_iload_n hx hb d_SP_lay_2 rfl (lv_at hl 1 rfl) ?_
  refine lv_aload_n hx hb d_SP_lay_3 rfl (lv_at hl 0 rfl) ?_
  refine va_get (D := (dC, dI)) (ci := 0) (v := .ref qa) (C := R_SP) (T := F_SP) (N := 4) hx hb hts in_SP hown hK hP 0 rfl rfl 0 (by decide) (hts _ (List.mem_cons_of_mem _ w_48)) (fun _ h9 => h9) rfl d_SP_lay_4 ?_
  refine va_alen (v := 1200) hx hb hK hP 1 0 rfl rfl (by show Int32.ofNat 1200 = 1200; decide +kernel) d_SP_lay_7 ?_
  refine va_mmin hx hb (by rw [hml]; exact hl.1.symm) hown (hts _ (List.mem_cons_of_mem _ w_348)) (hts _ (List.mem_cons_of_mem _ w_335)) (hts _ (List.mem_cons_of_mem _ w_17)) (hts _ (List.mem_cons_of_mem _ w_336)) (Nat.le_of_ble_eq_true rfl) (Nat.le_of_ble_eq_true rfl) (Nat.le_of_ble_eq_true rfl) (Nat.le_of_ble_eq_true rfl) d_SP_lay_8 ?_
  refine lv_ci (y := 0) (by decide +kernel) ?_
  refine va_mmax hx hb (by rw [hml]; exact hl.1.symm) hown (hts _ (List.mem_cons_of_mem _ w_349)) (hts _ (List.mem_cons_of_mem _ w_350)) (hts _ (List.mem_cons_of_mem _ w_17)) (hts _ (List.mem_cons_of_mem _ w_351)) (Nat.le_of_ble_eq_true rfl) (Nat.le_of_ble_eq_true rfl) (Nat.le_of_ble_eq_true rfl) (Nat.le_of_ble_eq_true rfl) d_SP_lay_11 ?_
  refine lv_ci (y := 0) (by decide +kernel) ?_
  refine va_put (D := (dC, dI)) (ci := 0) (v := .int 0) (ty := .int) (C := R_SP) (T := F_SP) (N := 4) hx hb hts in_SP t_SP t_SP_ok n_SP hown hK hP hD hS 0 rfl rfl 1 (by decide) (hts _ (List.mem_cons_of_mem _ w_49)) (fun _ h9 => h9) rfl  (by decide +kernel) rfl rfl (Nat.le_of_ble_eq_true rfl) d_SP_lay_14 (fun H locs hP hD hS => ?_)
  have hP : va_P (dC, dI) cls_ [(h0, .inr (0, [.ref qa, .int 0, .int 0, .int 0])), (qa, .inl (cA, 1200, .inl (f)))] H := hP
  have hD : va_D A [(h0, .inr (0, [.ref qa, .int 0, .int 0, .int 0])), (qa, .inl (cA, 1200, .inl (f)))] := hD
  refine lv_aload_n hx hb d_SP_lay_17 rfl (lv_at hl 0 rfl) ?_
  refine lv_iconst (v := 0) hx hb d_SP_lay_18 (by decide) ?_
  refine lv_iload_n hx hb d_SP_lay_19 rfl (lv_at hl 2 rfl) ?_
  refine lv_aload_n hx hb d_SP_lay_20 rfl (lv_at hl 0 rfl) ?_
  refine va_get (D := (dC, dI)) (ci := 0) (v := .ref qa) (C := R_SP) (T := F_SP) (N := 4) hx hb hts in_SP hown hK hP 0 rfl rfl 0 (by decide) (hts _ (List.mem_cons_of_mem _ w_48)) (fun _ h9 => h9) rfl d_SP_lay_21 ?_
  refine va_alen (v := 1200) hx hb hK hP 1 0 rfl rfl (by show Int32.ofNat 1200 = 1200; decide +kernel) d_SP_lay_24 ?_
  refine lv_aload_n hx hb d_SP_lay_25 rfl (lv_at hl 0 rfl) ?_
  refine va_get (D := (dC, dI)) (ci := 0) (v := .int 0) (C := R_SP) (T := F_SP) (N := 4) hx hb hts in_SP hown hK hP 0 rfl rfl 1 (by decide) (hts _ (List.mem_cons_of_mem _ w_49)) (fun _ h9 => h9) rfl d_SP_lay_26 ?_
  refine lv_isub hx hb d_SP_lay_29 ?_
  refine lv_ci (y := 1200) (by decide +kernel) ?_
  refine va_mmin hx hb (by rw [hml]; exact hl.1.symm) hown (hts _ (List.mem_cons_of_mem _ w_348)) (hts _ (List.mem_cons_of_mem _ w_335)) (hts _ (List.mem_cons_of_mem _ w_17)) (hts _ (List.mem_cons_of_mem _ w_336)) (Nat.le_of_ble_eq_true rfl) (Nat.le_of_ble_eq_true rfl) (Nat.le_of_ble_eq_true rfl) (Nat.le_of_ble_eq_true rfl) d_SP_lay_30 ?_
  refine lv_ci (y := 0) (by decide +kernel) ?_
  refine va_mmax hx hb (by rw [hml]; exact hl.1.symm) hown (hts _ (List.mem_cons_of_mem _ w_349)) (hts _ (List.mem_cons_of_mem _ w_350)) (hts _ (List.mem_cons_of_mem _ w_17)) (hts _ (List.mem_cons_of_mem _ w_351)) (Nat.le_of_ble_eq_true rfl) (Nat.le_of_ble_eq_true rfl) (Nat.le_of_ble_eq_true rfl) (Nat.le_of_ble_eq_true rfl) d_SP_lay_33 ?_
  refine lv_ci (y := 0) (by decide +kernel) ?_
  refine va_put (D := (dC, dI)) (ci := 0) (v := .int 0) (ty := .int) (C := R_SP) (T := F_SP) (N := 4) hx hb hts in_SP t_SP t_SP_ok n_SP hown hK hP hD hS 0 rfl rfl 2 (by decide) (hts _ (List.mem_cons_of_mem _ w_51)) (fun _ h9 => h9) rfl  (by decide +kernel) rfl rfl (Nat.le_of_ble_eq_true rfl) d_SP_lay_36 (fun H locs hP hD hS => ?_)
  have hP : va_P (dC, dI) cls_ [(h0, .inr (0, [.ref qa, .int 0, .int 0, .int 0])), (qa, .inl (cA, 1200, .inl (f)))] H := hP
  have hD : va_D A [(h0, .inr (0, [.ref qa, .int 0, .int 0, .int 0])), (qa, .inl (cA, 1200, .inl (f)))] := hD
  refine lv_aload_n hx hb d_SP_lay_39 rfl (lv_at hl 0 rfl) ?_
  refine lv_iconst (v := 0) hx hb d_SP_lay_40 (by decide) ?_
  refine va_put (D := (dC, dI)) (ci := 0) (v := .int 0) (ty := .boolean) (C := R_SP) (T := F_SP) (N := 4) hx hb hts in_SP t_SP t_SP_ok n_SP hown hK hP hD hS 0 rfl rfl 3 (by decide) (hts _ (List.mem_cons_of_mem _ w_55)) (fun _ h9 => h9) rfl  (by decide +kernel) rfl rfl (Nat.le_of_ble_eq_true rfl) d_SP_lay_41 (fun H locs hP hD hS => ?_)
  have hP : va_P (dC, dI) cls_ [(h0, .inr (0, [.ref qa, .int 0, .int 0, .int 0])), (qa, .inl (cA, 1200, .inl (f)))] H := hP
  have hD : va_D A [(h0, .inr (0, [.ref qa, .int 0, .int 0, .int 0])), (qa, .inl (cA, 1200, .inl (f)))] := hD
  refine W.widen (k := 0) (n := 0) (Nat.le_of_ble_eq_true rfl) (Nat.le_of_ble_eq_true rfl) ?_
  have hP9 := hP.sub (ws' := [(h0, .inr (0, [.ref qa, .int 0, .int 0, .int 0])), (qa, .inl (cA, 1200, .inl (f)))]) [0, 1] rfl
  have hD9 := hD.sub (ws' := [(h0, .inr (0, [.ref qa, .int 0, .int 0, .int 0])), (qa, .inl (cA, 1200, .inl (f)))]) [0, 1] (by decide) rfl
  have hK9 := hK.sub (tys' := [(cA, .int)]) [0] rfl
  exact W.vret hx hb hr (fun t ht hW => ⟨⟨(), rfl, trivial, by rw [ht]; exact hP9, va_K.moved hW.alike hK9, hD9⟩, hS.F ht⟩) hS.2.2 d_SP_lay_44
set_option maxHeartbeats 4000000 in
set_option maxRecDepth 100000 in
/-- GlyphLines$Span.u16 -/
theorem c_SP_u16 (l : Launch) (dC : Nat → ClassId) (dI : Nat → Nat → Nat) (h0 qa : Nat) (cA : ClassId) (f : Nat → Int32) (sz : Nat) : Met l y_SP_u16 s_SP_u16 ({ frames := 8, cells := 0, slots := 0, locals := 200 }) (va_Pc [.ref h0, .int 4] (fun U => U.heap.size = sz ∧ va_P (dC, dI) cls_ [(h0, .inr (0, [.ref qa, .int 0, .int 0, .int 0])), (qa, .inl (cA, 1200, .inl (f)))] U.heap ∧ va_K (dC, dI) cls_ [(cA, .int)] U ∧ va_D (fun _ => True) [(h0, .inr (0, [.ref qa, .int 0, .int 0, .int 0])), (qa, .inl (cA, 1200, .inl (f)))])) (va_Qi (fun (r : Int32) (_ : Unit) => r = 0) (fun (_ : Unit) (t : State) => va_P (dC, dI) cls_ [(h0, .inr (0, [.ref qa, .int 0, .int 0, .int 1])), (qa, .inl (cA, 1200, .inl (f)))] t.heap ∧ va_K (dC, dI) cls_ [(cA, .int)] t ∧ va_D (va_A [(h0, .inr (0, [.ref qa, .int 0, .int 0, .int 0])), (qa, .inl (cA, 1200, .inl (f)))] sz) [(h0, .inr (0, [.ref qa, .int 0, .int 0, .int 1])), (qa, .inl (cA, 1200, .inl (f)))]) (va_A [(h0, .inr (0, [.ref qa, .int 0, .int 0, .int 0])), (qa, .inl (cA, 1200, .inl (f)))] sz)) 0 0 (va_A [(h0, .inr (0, [.ref qa, .int 0, .int 0, .int 0])), (qa, .inl (cA, 1200, .inl (f)))] sz) := by
  refine Met.ofW (cc := b_SP_u16) (maxL := 2) (ret := (some .int)) (by decide) rfl ?_
  intro p e s m args below meth c s₁ B hml hv
  obtain ⟨rfl, hsz, hP, hK, hD0⟩ := hv
  have hx := B.exec
  have hb := B.bytes
  have hr := B.returns
  have hts := atoms_spec (ws := s_SP_u16) B.pre
  have hown : s.vm.findClass R_SP = some m.cls := findClass_of_methodNamed B.named
  have hlocks := B.notSynchronized
  subst hsz
  have hD := hD0.self (sz := s.heap.size)
  generalize hAe : va_A [(h0, .inr (0, [.ref qa, .int 0, .int 0, .int 0])), (qa, .inl (cA, 1200, .inl (f)))] s.heap.size = A at hD ⊢
  have hA : ∀ q : Nat, s.heap.size ≤ q → A q := fun q h => by rw [← hAe]; exact Or.inr h
  have hS : va_S A s.heap s.heap [] := va_S.rf
  have hP : va_P (dC, dI) cls_ [(h0, .inr (0, [.ref qa, .int 0, .int 0, .int 0])), (qa, .inl (cA, 1200, .inl (f)))] s.heap := hP
  have hl := lv_entry ([.ref h0, .int 4]) (n := 2) (Nat.le_of_ble_eq_true rfl)
  rw [lg_entry_eq]
  generalize (lg_sl ([.ref h0, .int 4]) ++ List.replicate (2 - (lg_sl ([.ref h0, .int 4])).length) Slot.unset).toArray = ls at hl ⊢
  have hl : lv_has ls 2 [(0, .ref h0), (1, .int 4)] := hl
  refine lv_iload_n hx hb d_SP_u16_0 rfl (lv_at hl 1 rfl) ?_
  refine lv_if_lt (tgt := 14) hx hb d_SP_u16_1 (by decide) (fun hc => absurd hc (by decide +kernel)) (fun _ => ?_)
  refine lv_iload_n hx hb d_SP_u16_4 rfl (lv_at hl 1 rfl) ?_
  refine lv_aload_n hx hb d_SP_u16_5 rfl (lv_at hl 0 rfl) ?_
  refine va_get (D := (dC, dI)) (ci := 0) (v := .int 0) (C := R_SP) (T := F_SP) (N := 4) hx hb hts in_SP hown hK hP 0 rfl rfl 2 (by decide) (hts _ (List.mem_cons_of_mem _ w_51)) (fun _ h9 => h9) rfl d_SP_u16_6 ?_
  refine lv_iconst (v := 1) hx hb d_SP_u16_9 (by decide) ?_
  refine lv_isub hx hb d_SP_u16_10 ?_
  refine lv_ci (y := (-1)) (by decide +kernel) ?_
  refine lv_icmp_lt (tgt := 21) hx hb d_SP_u16_11 (by decide) (fun hc => absurd hc (by decide +kernel)) (fun _ => ?_)
  refine lv_aload_n hx hb d_SP_u16_14 rfl (lv_at hl 0 rfl) ?_
  refine lv_iconst (v := 1) hx hb d_SP_u16_15 (by decide) ?_
  refine va_put (D := (dC, dI)) (ci := 0) (v := .int 1) (ty := .boolean) (C := R_SP) (T := F_SP) (N := 4) hx hb hts in_SP t_SP t_SP_ok n_SP hown hK hP hD hS 0 rfl rfl 3 (by decide) (hts _ (List.mem_cons_of_mem _ w_55)) (fun _ h9 => h9) rfl  (by decide +kernel) rfl rfl (Nat.le_of_ble_eq_true rfl) d_SP_u16_16 (fun H locs hP hD hS => ?_)
  have hP : va_P (dC, dI) cls_ [(h0, .inr (0, [.ref qa, .int 0, .int 0, .int 1])), (qa, .inl (cA, 1200, .inl (f)))] H := hP
  have hD : va_D A [(h0, .inr (0, [.ref qa, .int 0, .int 0, .int 1])), (qa, .inl (cA, 1200, .inl (f)))] := hD
  refine lv_iconst (v := 0) hx hb d_SP_u16_19 (by decide) ?_
  refine W.widen (k := 0) (n := 0) (Nat.le_of_ble_eq_true rfl) (Nat.le_of_ble_eq_true rfl) ?_
  have hP9 := hP.sub (ws' := [(h0, .inr (0, [.ref qa, .int 0, .int 0, .int 1])), (qa, .inl (cA, 1200, .inl (f)))]) [0, 1] rfl
  have hD9 := hD.sub (ws' := [(h0, .inr (0, [.ref qa, .int 0, .int 0, .int 1])), (qa, .inl (cA, 1200, .inl (f)))]) [0, 1] (by decide) rfl
  have hK9 := hK.sub (tys' := [(cA, .int)]) [0] rfl
  exact W.iret (v := 0) hx hb hr (fun t ht hW => ⟨⟨0, (), rfl, rfl, by rw [ht]; exact hP9, va_K.moved hW.alike hK9, hD9⟩, hS.F ht⟩) hS.2.2 d_SP_u16_20
set_option maxHeartbeats 4000000 in
set_option maxRecDepth 100000 in
/-- GlyphLines$Span.u32 -/
theorem c_SP_u32 (l : Launch) (dC : Nat → ClassId) (dI : Nat → Nat → Nat) (h0 qa : Nat) (cA : ClassId) (f : Nat → Int32) (sz : Nat) : Met l y_SP_u32 s_SP_u32 ({ frames := 8, cells := 0, slots := 0, locals := 200 }) (va_Pc [.ref h0, .int 0] (fun U => U.heap.size = sz ∧ va_P (dC, dI) cls_ [(h0, .inr (0, [.ref qa, .int 0, .int 0, .int 1])), (qa, .inl (cA, 1200, .inl (f)))] U.heap ∧ va_K (dC, dI) cls_ [(cA, .int)] U ∧ va_D (fun _ => True) [(h0, .inr (0, [.ref qa, .int 0, .int 0, .int 1])), (qa, .inl (cA, 1200, .inl (f)))])) (va_Ql (fun (r : Int64) (_ : Unit) => r = 0) (fun (_ : Unit) (t : State) => va_P (dC, dI) cls_ [(h0, .inr (0, [.ref qa, .int 0, .int 0, .int 1])), (qa, .inl (cA, 1200, .inl (f)))] t.heap ∧ va_K (dC, dI) cls_ [(cA, .int)] t ∧ va_D (va_A [(h0, .inr (0, [.ref qa, .int 0, .int 0, .int 1])), (qa, .inl (cA, 1200, .inl (f)))] sz) [(h0, .inr (0, [.ref qa, .int 0, .int 0, .int 1])), (qa, .inl (cA, 1200, .inl (f)))]) (va_A [(h0, .inr (0, [.ref qa, .int 0, .int 0, .int 1])), (qa, .inl (cA, 1200, .inl (f)))] sz)) 0 0 (va_A [(h0, .inr (0, [.ref qa, .int 0, .int 0, .int 1])), (qa, .inl (cA, 1200, .inl (f)))] sz) := by
  refine Met.ofW (cc := b_SP_u32) (maxL := 6) (ret := (some .long)) (by decide) rfl ?_
  intro p e s m args below meth c s₁ B hml hv
  obtain ⟨rfl, hsz, hP, hK, hD0⟩ := hv
  have hx := B.exec
  have hb := B.bytes
  have hr := B.returns
  have hts := atoms_spec (ws := s_SP_u32) B.pre
  have hown : s.vm.findClass R_SP = some m.cls := findClass_of_methodNamed B.named
  have hlocks := B.notSynchronized
  subst hsz
  have hD := hD0.self (sz := s.heap.size)
  generalize hAe : va_A [(h0, .inr (0, [.ref qa, .int 0, .int 0, .int 1])), (qa, .inl (cA, 1200, .inl (f)))] s.heap.size = A at hD ⊢
  have hA : ∀ q : Nat, s.heap.size ≤ q → A q := fun q h => by rw [← hAe]; exact Or.inr h
  have hS : va_S A s.heap s.heap [] := va_S.rf
  have hP : va_P (dC, dI) cls_ [(h0, .inr (0, [.ref qa, .int 0, .int 0, .int 1])), (qa, .inl (cA, 1200, .inl (f)))] s.heap := hP
  have hl := lv_entry ([.ref h0, .int 0]) (n := 6) (Nat.le_of_ble_eq_true rfl)
  rw [lg_entry_eq]
  generalize (lg_sl ([.ref h0, .int 0]) ++ List.replicate (6 - (lg_sl ([.ref h0, .int 0])).length) Slot.unset).toArray = ls at hl ⊢
  have hl : lv_has ls 6 [(0, .ref h0), (1, .int 0)] := hl
  refine lv_lconst (v := 0) hx hb d_SP_u32_0 (by decide) ?_
  refine lv_lstore_n (lv' := [(2, .long 0), (0, .ref h0), (1, .int 0)]) hx hb d_SP_u32_1 rfl hl (by decide) rfl (fun ls hl => ?_)
  refine lv_iload_n hx hb d_SP_u32_2 rfl (lv_at hl 2 rfl) ?_
  refine lv_istore (lv' := [(4, .int 0), (2, .long 0), (0, .ref h0), (1, .int 0)]) hx hb d_SP_u32_3 hl (by decide) rfl (fun ls hl => ?_)
  refine lv_iload hx hb d_SP_u32_5 (lv_at hl 0 rfl) ?_
  refine lv_iload_n hx hb d_SP_u32_7 rfl (lv_at hl 3 rfl) ?_
  refine lv_iconst (v := 4) hx hb d_SP_u32_8 (by decide) ?_
  refine lv_iadd hx hb d_SP_u32_9 ?_
  refine lv_ci (y := 4) (by decide +kernel) ?_
  refine lv_icmp_ge (tgt := 87) hx hb d_SP_u32_10 (by decide) (fun hc => absurd hc (by decide +kernel)) (fun _ => ?_)
  refine lv_iload hx hb d_SP_u32_13 (lv_at hl 0 rfl) ?_
  refine lv_if_lt (tgt := 31) hx hb d_SP_u32_15 (by decide) (fun hc => absurd hc (by decide +kernel)) (fun _ => ?_)
  refine lv_iload hx hb d_SP_u32_18 (lv_at hl 0 rfl) ?_
  refine lv_aload_n hx hb d_SP_u32_20 rfl (lv_at hl 2 rfl) ?_
  refine va_get (D := (dC, dI)) (ci := 0) (v := .int 0) (C := R_SP) (T := F_SP) (N := 4) hx hb hts in_SP hown hK hP 0 rfl rfl 2 (by decide) (hts _ (List.mem_cons_of_mem _ w_51)) (fun _ h9 => h9) rfl d_SP_u32_21 ?_
  refine lv_icmp_ge (tgt := 31) hx hb d_SP_u32_24 (by decide) (fun _ => ?_) (fun hc => absurd hc (by decide +kernel))
  refine lv_iconst (v := 0) hx hb d_SP_u32_31 (by decide) ?_
  refine lv_istore (lv' := [(5, .int 0), (4, .int 0), (2, .long 0), (0, .ref h0), (1, .int 0)]) hx hb d_SP_u32_32 hl (by decide) rfl (fun ls hl => ?_)
  refine lv_aload_n hx hb d_SP_u32_34 rfl (lv_at hl 3 rfl) ?_
  refine lv_dup hx hb d_SP_u32_35 rfl ?_
  refine va_get (D := (dC, dI)) (ci := 0) (v := .int 1) (C := R_SP) (T := F_SP) (N := 4) hx hb hts in_SP hown hK hP 0 rfl rfl 3 (by decide) (hts _ (List.mem_cons_of_mem _ w_55)) (fun _ h9 => h9) rfl d_SP_u32_36 ?_
  refine lv_iload hx hb d_SP_u32_39 (lv_at hl 0 rfl) ?_
  refine lv_if_ne (tgt := 48) hx hb d_SP_u32_41 (by decide) (fun hc => absurd hc (by decide +kernel)) (fun _ => ?_)
  refine lv_iconst (v := 1) hx hb d_SP_u32_44 (by decide) ?_
  refine lv_goto (tgt := 49) hx hb d_SP_u32_45 (by decide) ?_
  refine lv_ior hx hb d_SP_u32_49 ?_
  refine lv_ci (y := 1) (by decide +kernel) ?_
  refine va_put (D := (dC, dI)) (ci := 0) (v := .int 1) (ty := .boolean) (C := R_SP) (T := F_SP) (N := 4) hx hb hts in_SP t_SP t_SP_ok n_SP hown hK hP hD hS 0 rfl rfl 3 (by decide) (hts _ (List.mem_cons_of_mem _ w_55)) (fun _ h9 => h9) rfl  (by decide +kernel) rfl rfl (Nat.le_of_ble_eq_true rfl) d_SP_u32_50 (fun H locs hP hD hS => ?_)
  have hP : va_P (dC, dI) cls_ [(h0, .inr (0, [.ref qa, .int 0, .int 0, .int 1])), (qa, .inl (cA, 1200, .inl (f)))] H := hP
  have hD : va_D A [(h0, .inr (0, [.ref qa, .int 0, .int 0, .int 1])), (qa, .inl (cA, 1200, .inl (f)))] := hD
  refine lv_lload_n hx hb d_SP_u32_53 rfl (lv_at hl 2 rfl) ?_
  refine lv_bipush (v := 8) hx hb d_SP_u32_54 (by decide) ?_
  refine lv_lshl (v := 0) hx hb d_SP_u32_56 (by decide +kernel) ?_
  refine lv_iload hx hb d_SP_u32_57 (lv_at hl 0 rfl) ?_
  refine lv_if_eq (tgt := 77) hx hb d_SP_u32_59 (by decide) (fun _ => ?_) (fun hc => absurd hc (by decide +kernel))
  refine lv_iconst (v := 0) hx hb d_SP_u32_77 (by decide) ?_
  refine lv_i2l (v := 0) hx hb d_SP_u32_78 (by first | rfl | decide +kernel) ?_
  refine lv_lor hx hb d_SP_u32_79 ?_
  refine lv_cl (y := 0) (by decide +kernel) ?_
  refine lv_lstore_n (lv' := [(2, .long 0), (5, .int 0), (4, .int 0), (0, .ref h0), (1, .int 0)]) hx hb d_SP_u32_80 rfl hl (by decide) rfl (fun ls hl => ?_)
  refine lv_iinc (k := 2) (v := 1) (lv' := [(4, .int 1), (2, .long 0), (5, .int 0), (0, .ref h0), (1, .int 0)]) hx hb d_SP_u32_81 hl rfl (by first | rfl | decide +kernel) (by decide) rfl (fun ls hl => ?_)
  refine lv_goto (tgt := 5) hx hb d_SP_u32_84 (by decide) ?_
  refine lv_iload hx hb d_SP_u32_5 (lv_at hl 0 rfl) ?_
  refine lv_iload_n hx hb d_SP_u32_7 rfl (lv_at hl 4 rfl) ?_
  refine lv_iconst (v := 4) hx hb d_SP_u32_8 (by decide) ?_
  refine lv_iadd hx hb d_SP_u32_9 ?_
  refine lv_ci (y := 4) (by decide +kernel) ?_
  refine lv_icmp_ge (tgt := 87) hx hb d_SP_u32_10 (by decide) (fun hc => absurd hc (by decide +kernel)) (fun _ => ?_)
  refine lv_iload hx hb d_SP_u32_13 (lv_at hl 0 rfl) ?_
  refine lv_if_lt (tgt := 31) hx hb d_SP_u32_15 (by decide) (fun hc => absurd hc (by decide +kernel)) (fun _ => ?_)
  refine lv_iload hx hb d_SP_u32_18 (lv_at hl 0 rfl) ?_
  refine lv_aload_n hx hb d_SP_u32_20 rfl (lv_at hl 3 rfl) ?_
  refine va_get (D := (dC, dI)) (ci := 0) (v := .int 0) (C := R_SP) (T := F_SP) (N := 4) hx hb hts in_SP hown hK hP 0 rfl rfl 2 (by decide) (hts _ (List.mem_cons_of_mem _ w_51)) (fun _ h9 => h9) rfl d_SP_u32_21 ?_
  refine lv_icmp_ge (tgt := 31) hx hb d_SP_u32_24 (by decide) (fun _ => ?_) (fun hc => absurd hc (by decide +kernel))
  refine lv_iconst (v := 0) hx hb d_SP_u32_31 (by decide) ?_
  refine lv_istore (lv' := [(5, .int 0), (4, .int 1), (2, .long 0), (0, .ref h0), (1, .int 0)]) hx hb d_SP_u32_32 hl (by decide) rfl (fun ls hl => ?_)
  refine lv_aload_n hx hb d_SP_u32_34 rfl (lv_at hl 3 rfl) ?_
  refine lv_dup hx hb d_SP_u32_35 rfl ?_
  refine va_get (D := (dC, dI)) (ci := 0) (v := .int 1) (C := R_SP) (T := F_SP) (N := 4) hx hb hts in_SP hown hK hP 0 rfl rfl 3 (by decide) (hts _ (List.mem_cons_of_mem _ w_55)) (fun _ h9 => h9) rfl d_SP_u32_36 ?_
  refine lv_iload hx hb d_SP_u32_39 (lv_at hl 0 rfl) ?_
  refine lv_if_ne (tgt := 48) hx hb d_SP_u32_41 (by decide) (fun hc => absurd hc (by decide +kernel)) (fun _ => ?_)
  refine lv_iconst (v := 1) hx hb d_SP_u32_44 (by decide) ?_
  refine lv_goto (tgt := 49) hx hb d_SP_u32_45 (by decide) ?_
  refine lv_ior hx hb d_SP_u32_49 ?_
  refine lv_ci (y := 1) (by decide +kernel) ?_
  refine va_put (D := (dC, dI)) (ci := 0) (v := .int 1) (ty := .boolean) (C := R_SP) (T := F_SP) (N := 4) hx hb hts in_SP t_SP t_SP_ok n_SP hown hK hP hD hS 0 rfl rfl 3 (by decide) (hts _ (List.mem_cons_of_mem _ w_55)) (fun _ h9 => h9) rfl  (by decide +kernel) rfl rfl (Nat.le_of_ble_eq_true rfl) d_SP_u32_50 (fun H locs hP hD hS => ?_)
  have hP : va_P (dC, dI) cls_ [(h0, .inr (0, [.ref qa, .int 0, .int 0, .int 1])), (qa, .inl (cA, 1200, .inl (f)))] H := hP
  have hD : va_D A [(h0, .inr (0, [.ref qa, .int 0, .int 0, .int 1])), (qa, .inl (cA, 1200, .inl (f)))] := hD
  refine lv_lload_n hx hb d_SP_u32_53 rfl (lv_at hl 2 rfl) ?_
  refine lv_bipush (v := 8) hx hb d_SP_u32_54 (by decide) ?_
  refine lv_lshl (v := 0) hx hb d_SP_u32_56 (by decide +kernel) ?_
  refine lv_iload hx hb d_SP_u32_57 (lv_at hl 0 rfl) ?_
  refine lv_if_eq (tgt := 77) hx hb d_SP_u32_59 (by decide) (fun _ => ?_) (fun hc => absurd hc (by decide +kernel))
  refine lv_iconst (v := 0) hx hb d_SP_u32_77 (by decide) ?_
  refine lv_i2l (v := 0) hx hb d_SP_u32_78 (by first | rfl | decide +kernel) ?_
  refine lv_lor hx hb d_SP_u32_79 ?_
  refine lv_cl (y := 0) (by decide +kernel) ?_
  refine lv_lstore_n (lv' := [(2, .long 0), (5, .int 0), (4, .int 1), (0, .ref h0), (1, .int 0)]) hx hb d_SP_u32_80 rfl hl (by decide) rfl (fun ls hl => ?_)
  refine lv_iinc (k := 2) (v := 2) (lv' := [(4, .int 2), (2, .long 0), (5, .int 0), (0, .ref h0), (1, .int 0)]) hx hb d_SP_u32_81 hl rfl (by first | rfl | decide +kernel) (by decide) rfl (fun ls hl => ?_)
  refine lv_goto (tgt := 5) hx hb d_SP_u32_84 (by decide) ?_
  refine lv_iload hx hb d_SP_u32_5 (lv_at hl 0 rfl) ?_
  refine lv_iload_n hx hb d_SP_u32_7 rfl (lv_at hl 4 rfl) ?_
  refine lv_iconst (v := 4) hx hb d_SP_u32_8 (by decide) ?_
  refine lv_iadd hx hb d_SP_u32_9 ?_
  refine lv_ci (y := 4) (by decide +kernel) ?_
  refine lv_icmp_ge (tgt := 87) hx hb d_SP_u32_10 (by decide) (fun hc => absurd hc (by decide +kernel)) (fun _ => ?_)
  refine lv_iload hx hb d_SP_u32_13 (lv_at hl 0 rfl) ?_
  refine lv_if_lt (tgt := 31) hx hb d_SP_u32_15 (by decide) (fun hc => absurd hc (by decide +kernel)) (fun _ => ?_)
  refine lv_iload hx hb d_SP_u32_18 (lv_at hl 0 rfl) ?_
  refine lv_aload_n hx hb d_SP_u32_20 rfl (lv_at hl 3 rfl) ?_
  refine va_get (D := (dC, dI)) (ci := 0) (v := .int 0) (C := R_SP) (T := F_SP) (N := 4) hx hb hts in_SP hown hK hP 0 rfl rfl 2 (by decide) (hts _ (List.mem_cons_of_mem _ w_51)) (fun _ h9 => h9) rfl d_SP_u32_21 ?_
  refine lv_icmp_ge (tgt := 31) hx hb d_SP_u32_24 (by decide) (fun _ => ?_) (fun hc => absurd hc (by decide +kernel))
  refine lv_iconst (v := 0) hx hb d_SP_u32_31 (by decide) ?_
  refine lv_istore (lv' := [(5, .int 0), (4, .int 2), (2, .long 0), (0, .ref h0), (1, .int 0)]) hx hb d_SP_u32_32 hl (by decide) rfl (fun ls hl => ?_)
  refine lv_aload_n hx hb d_SP_u32_34 rfl (lv_at hl 3 rfl) ?_
  refine lv_dup hx hb d_SP_u32_35 rfl ?_
  refine va_get (D := (dC, dI)) (ci := 0) (v := .int 1) (C := R_SP) (T := F_SP) (N := 4) hx hb hts in_SP hown hK hP 0 rfl rfl 3 (by decide) (hts _ (List.mem_cons_of_mem _ w_55)) (fun _ h9 => h9) rfl d_SP_u32_36 ?_
  refine lv_iload hx hb d_SP_u32_39 (lv_at hl 0 rfl) ?_
  refine lv_if_ne (tgt := 48) hx hb d_SP_u32_41 (by decide) (fun hc => absurd hc (by decide +kernel)) (fun _ => ?_)
  refine lv_iconst (v := 1) hx hb d_SP_u32_44 (by decide) ?_
  refine lv_goto (tgt := 49) hx hb d_SP_u32_45 (by decide) ?_
  refine lv_ior hx hb d_SP_u32_49 ?_
  refine lv_ci (y := 1) (by decide +kernel) ?_
  refine va_put (D := (dC, dI)) (ci := 0) (v := .int 1) (ty := .boolean) (C := R_SP) (T := F_SP) (N := 4) hx hb hts in_SP t_SP t_SP_ok n_SP hown hK hP hD hS 0 rfl rfl 3 (by decide) (hts _ (List.mem_cons_of_mem _ w_55)) (fun _ h9 => h9) rfl  (by decide +kernel) rfl rfl (Nat.le_of_ble_eq_true rfl) d_SP_u32_50 (fun H locs hP hD hS => ?_)
  have hP : va_P (dC, dI) cls_ [(h0, .inr (0, [.ref qa, .int 0, .int 0, .int 1])), (qa, .inl (cA, 1200, .inl (f)))] H := hP
  have hD : va_D A [(h0, .inr (0, [.ref qa, .int 0, .int 0, .int 1])), (qa, .inl (cA, 1200, .inl (f)))] := hD
  refine lv_lload_n hx hb d_SP_u32_53 rfl (lv_at hl 2 rfl) ?_
  refine lv_bipush (v := 8) hx hb d_SP_u32_54 (by decide) ?_
  refine lv_lshl (v := 0) hx hb d_SP_u32_56 (by decide +kernel) ?_
  refine lv_iload hx hb d_SP_u32_57 (lv_at hl 0 rfl) ?_
  refine lv_if_eq (tgt := 77) hx hb d_SP_u32_59 (by decide) (fun _ => ?_) (fun hc => absurd hc (by decide +kernel))
  refine lv_iconst (v := 0) hx hb d_SP_u32_77 (by decide) ?_
  refine lv_i2l (v := 0) hx hb d_SP_u32_78 (by first | rfl | decide +kernel) ?_
  refine lv_lor hx hb d_SP_u32_79 ?_
  refine lv_cl (y := 0) (by decide +kernel) ?_
  refine lv_lstore_n (lv' := [(2, .long 0), (5, .int 0), (4, .int 2), (0, .ref h0), (1, .int 0)]) hx hb d_SP_u32_80 rfl hl (by decide) rfl (fun ls hl => ?_)
  refine lv_iinc (k := 2) (v := 3) (lv' := [(4, .int 3), (2, .long 0), (5, .int 0), (0, .ref h0), (1, .int 0)]) hx hb d_SP_u32_81 hl rfl (by first | rfl | decide +kernel) (by decide) rfl (fun ls hl => ?_)
  refine lv_goto (tgt := 5) hx hb d_SP_u32_84 (by decide) ?_
  refine lv_iload hx hb d_SP_u32_5 (lv_at hl 0 rfl) ?_
  refine lv_iload_n hx hb d_SP_u32_7 rfl (lv_at hl 4 rfl) ?_
  refine lv_iconst (v := 4) hx hb d_SP_u32_8 (by decide) ?_
  refine lv_iadd hx hb d_SP_u32_9 ?_
  refine lv_ci (y := 4) (by decide +kernel) ?_
  refine lv_icmp_ge (tgt := 87) hx hb d_SP_u32_10 (by decide) (fun hc => absurd hc (by decide +kernel)) (fun _ => ?_)
  refine lv_iload hx hb d_SP_u32_13 (lv_at hl 0 rfl) ?_
  refine lv_if_lt (tgt := 31) hx hb d_SP_u32_15 (by decide) (fun hc => absurd hc (by decide +kernel)) (fun _ => ?_)
  refine lv_iload hx hb d_SP_u32_18 (lv_at hl 0 rfl) ?_
  refine lv_aload_n hx hb d_SP_u32_20 rfl (lv_at hl 3 rfl) ?_
  refine va_get (D := (dC, dI)) (ci := 0) (v := .int 0) (C := R_SP) (T := F_SP) (N := 4) hx hb hts in_SP hown hK hP 0 rfl rfl 2 (by decide) (hts _ (List.mem_cons_of_mem _ w_51)) (fun _ h9 => h9) rfl d_SP_u32_21 ?_
  refine lv_icmp_ge (tgt := 31) hx hb d_SP_u32_24 (by decide) (fun _ => ?_) (fun hc => absurd hc (by decide +kernel))
  refine lv_iconst (v := 0) hx hb d_SP_u32_31 (by decide) ?_
  refine lv_istore (lv' := [(5, .int 0), (4, .int 3), (2, .long 0), (0, .ref h0), (1, .int 0)]) hx hb d_SP_u32_32 hl (by decide) rfl (fun ls hl => ?_)
  refine lv_aload_n hx hb d_SP_u32_34 rfl (lv_at hl 3 rfl) ?_
  refine lv_dup hx hb d_SP_u32_35 rfl ?_
  refine va_get (D := (dC, dI)) (ci := 0) (v := .int 1) (C := R_SP) (T := F_SP) (N := 4) hx hb hts in_SP hown hK hP 0 rfl rfl 3 (by decide) (hts _ (List.mem_cons_of_mem _ w_55)) (fun _ h9 => h9) rfl d_SP_u32_36 ?_
  refine lv_iload hx hb d_SP_u32_39 (lv_at hl 0 rfl) ?_
  refine lv_if_ne (tgt := 48) hx hb d_SP_u32_41 (by decide) (fun hc => absurd hc (by decide +kernel)) (fun _ => ?_)
  refine lv_iconst (v := 1) hx hb d_SP_u32_44 (by decide) ?_
  refine lv_goto (tgt := 49) hx hb d_SP_u32_45 (by decide) ?_
  refine lv_ior hx hb d_SP_u32_49 ?_
  refine lv_ci (y := 1) (by decide +kernel) ?_
  refine va_put (D := (dC, dI)) (ci := 0) (v := .int 1) (ty := .boolean) (C := R_SP) (T := F_SP) (N := 4) hx hb hts in_SP t_SP t_SP_ok n_SP hown hK hP hD hS 0 rfl rfl 3 (by decide) (hts _ (List.mem_cons_of_mem _ w_55)) (fun _ h9 => h9) rfl  (by decide +kernel) rfl rfl (Nat.le_of_ble_eq_true rfl) d_SP_u32_50 (fun H locs hP hD hS => ?_)
  have hP : va_P (dC, dI) cls_ [(h0, .inr (0, [.ref qa, .int 0, .int 0, .int 1])), (qa, .inl (cA, 1200, .inl (f)))] H := hP
  have hD : va_D A [(h0, .inr (0, [.ref qa, .int 0, .int 0, .int 1])), (qa, .inl (cA, 1200, .inl (f)))] := hD
  refine lv_lload_n hx hb d_SP_u32_53 rfl (lv_at hl 2 rfl) ?_
  refine lv_bipush (v := 8) hx hb d_SP_u32_54 (by decide) ?_
  refine lv_lshl (v := 0) hx hb d_SP_u32_56 (by decide +kernel) ?_
  refine lv_iload hx hb d_SP_u32_57 (lv_at hl 0 rfl) ?_
  refine lv_if_eq (tgt := 77) hx hb d_SP_u32_59 (by decide) (fun _ => ?_) (fun hc => absurd hc (by decide +kernel))
  refine lv_iconst (v := 0) hx hb d_SP_u32_77 (by decide) ?_
  refine lv_i2l (v := 0) hx hb d_SP_u32_78 (by first | rfl | decide +kernel) ?_
  refine lv_lor hx hb d_SP_u32_79 ?_
  refine lv_cl (y := 0) (by decide +kernel) ?_
  refine lv_lstore_n (lv' := [(2, .long 0), (5, .int 0), (4, .int 3), (0, .ref h0), (1, .int 0)]) hx hb d_SP_u32_80 rfl hl (by decide) rfl (fun ls hl => ?_)
  refine lv_iinc (k := 2) (v := 4) (lv' := [(4, .int 4), (2, .long 0), (5, .int 0), (0, .ref h0), (1, .int 0)]) hx hb d_SP_u32_81 hl rfl (by first | rfl | decide +kernel) (by decide) rfl (fun ls hl => ?_)
  refine lv_goto (tgt := 5) hx hb d_SP_u32_84 (by decide) ?_
  refine lv_iload hx hb d_SP_u32_5 (lv_at hl 0 rfl) ?_
  refine lv_iload_n hx hb d_SP_u32_7 rfl (lv_at hl 4 rfl) ?_
  refine lv_iconst (v := 4) hx hb d_SP_u32_8 (by decide) ?_
  refine lv_iadd hx hb d_SP_u32_9 ?_
  refine lv_ci (y := 4) (by decide +kernel) ?_
  refine lv_icmp_ge (tgt := 87) hx hb d_SP_u32_10 (by decide) (fun _ => ?_) (fun hc => absurd hc (by decide +kernel))
  refine lv_lload_n hx hb d_SP_u32_87 rfl (lv_at hl 1 rfl) ?_
  refine W.widen (k := 0) (n := 0) (Nat.le_of_ble_eq_true rfl) (Nat.le_of_ble_eq_true rfl) ?_
  have hP9 := hP.sub (ws' := [(h0, .inr (0, [.ref qa, .int 0, .int 0, .int 1])), (qa, .inl (cA, 1200, .inl (f)))]) [0, 1] rfl
  have hD9 := hD.sub (ws' := [(h0, .inr (0, [.ref qa, .int 0, .int 0, .int 1])), (qa, .inl (cA, 1200, .inl (f)))]) [0, 1] (by decide) rfl
  have hK9 := hK.sub (tys' := [(cA, .int)]) [0] rfl
  exact W.lret (v := 0) hx hb hr (fun t ht hW => ⟨⟨0, (), rfl, rfl, by rw [ht]; exact hP9, va_K.moved hW.alike hK9, hD9⟩, hS.F ht⟩) hS.2.2 d_SP_u32_88
set_option maxHeartbeats 4000000 in
set_option maxRecDepth 100000 in
/-- GlyphLines$Directory.isRight -/
theorem c_DI_isRight (l : Launch) (dC : Nat → ClassId) (dI : Nat → Nat → Nat) (h0 qw qt qa : Nat) (cA : ClassId) (f : Nat → Int32) (sz : Nat) : Met l y_DI_isRight s_DI_isRight ({ frames := 10, cells := 0, slots := 0, locals := 300 }) (va_Pc [.ref h0, .int 0] (fun U => U.heap.size = sz ∧ va_P (dC, dI) cls_ [(h0, .inr (2, [.ref qw, .ref qt, .int 0])), (qw, .inr (0, [.ref qa, .int 0, .int 0, .int 0])), (qa, .inl (cA, 1200, .inl (f)))] U.heap ∧ va_K (dC, dI) cls_ [(cA, .int)] U ∧ va_D (fun _ => True) [(h0, .inr (2, [.ref qw, .ref qt, .int 0])), (qw, .inr (0, [.ref qa, .int 0, .int 0, .int 0])), (qa, .inl (cA, 1200, .inl (f)))])) (va_Qi (fun (r : Int32) (_ : Unit) => r = 0) (fun (_ : Unit) (t : State) => True) (va_A [(h0, .inr (2, [.ref qw, .ref qt, .int 0])), (qw, .inr (0, [.ref qa, .int 0, .int 0, .int 0])), (qa, .inl (cA, 1200, .inl (f)))] sz)) 0 0 (va_A [(h0, .inr (2, [.ref qw, .ref qt, .int 0])), (qw, .inr (0, [.ref qa, .int 0, .int 0, .int 0])), (qa, .inl (cA, 1200, .inl (f)))] sz) := by
  refine Met.ofW (cc := b_DI_isRight) (maxL := 7) (ret := (some .boolean)) (by decide) rfl ?_
  intro p e s m args below meth c s₁ B hml hv
  obtain ⟨rfl, hsz, hP, hK, hD0⟩ := hv
  have hx := B.exec
  have hb := B.bytes
  have hr := B.returns
  have hts := atoms_spec (ws := s_DI_isRight) B.pre
  have hown : s.vm.findClass R_DI = some m.cls := findClass_of_methodNamed B.named
  have hlocks := B.notSynchronized
  subst hsz
  have hD := hD0.self (sz := s.heap.size)
  generalize hAe : va_A [(h0, .inr (2, [.ref qw, .ref qt, .int 0])), (qw, .inr (0, [.ref qa, .int 0, .int 0, .int 0])), (qa, .inl (cA, 1200, .inl (f)))] s.heap.size = A at hD ⊢
  have hA : ∀ q : Nat, s.heap.size ≤ q → A q := fun q h => by rw [← hAe]; exact Or.inr h
  have hS : va_S A s.heap s.heap [] := va_S.rf
  have hP : va_P (dC, dI) cls_ [(h0, .inr (2, [.ref qw, .ref qt, .int 0])), (qw, .inr (0, [.ref qa, .int 0, .int 0, .int 0])), (qa, .inl (cA, 1200, .inl (f)))] s.heap := hP
  have hl := lv_entry ([.ref h0, .int 0]) (n := 7) (Nat.le_of_ble_eq_true rfl)
  rw [lg_entry_eq]
  generalize (lg_sl ([.ref h0, .int 0]) ++ List.replicate (7 - (lg_sl ([.ref h0, .int 0])).length) Slot.unset).toArray = ls at hl ⊢
  have hl : lv_has ls 7 [(0, .ref h0), (1, .int 0)] := hl
  refine lv_aload_n hx hb d_DI_isRight_0 rfl (lv_at hl 0 rfl) ?_
  refine va_get (D := (dC, dI)) (ci := 2) (v := .ref qw) (C := R_DI) (T := F_DI) (N := 3) hx hb hts in_DI hown hK hP 0 rfl rfl 0 (by decide) (hts _ (List.mem_cons_of_mem _ w_69)) (fun _ h9 => h9) rfl d_DI_isRight_1 ?_
  refine lv_iconst (v := 0) hx hb d_DI_isRight_4 (by decide) ?_
  refine lv_iload_n hx hb d_DI_isRight_5 rfl (lv_at hl 1 rfl) ?_
  have hPc := hP.sub (ws' := [(qw, .inr (0, [.ref qa, .int 0, .int 0, .int 0])), (qa, .inl (cA, 1200, .inl (f)))]) [1, 2] rfl
  have hDc := hD.sub (ws' := [(qw, .inr (0, [.ref qa, .int 0, .int 0, .int 0])), (qa, .inl (cA, 1200, .inl (f)))]) [1, 2] (by decide) rfl
  have hKc := hK.sub (tys' := [(cA, .int)]) [0] rfl
  have hFc := va_free (wc := [(qw, .inr (0, [.ref qa, .int 0, .int 0, .int 0])), (qa, .inl (cA, 1200, .inl (f)))]) hD hS hA [1, 2] rfl
  refine va_callv (va_runV (As := [.int 0, .int 0]) (rest := []) ⟨hx, hb, hml, hown, hts⟩ (c_SP_lay l dC dI qw qa cA (f) s.heap.size) (cwV 2 hts (tw_inV w_344 w_345 w_346 w_4 w_347) rfl rfl rfl (by decide +kernel) ⟨Nat.le_of_ble_eq_true rfl, Nat.le_of_ble_eq_true rfl⟩) ⟨fun a U g mk q => by obtain ⟨q0, q1, qP, qK, qD⟩ := q; exact ⟨q0, q1, qP, va_K.moved (u := U) (U := U.calling g mk a) (Vm.Alike.refl U.vm) qK, qD⟩, va_recv (hK := hK) (hP := hP) (q0 := 1) (ci := 0) rfl rfl, fun U hU hW => ⟨rfl, by rw [hU], by rw [hU]; exact hPc, va_K.moved hW.alike hKc, hDc.weaken (fun _ _ _ _ => trivial)⟩⟩ rfl rfl hl.1 rfl (lv_room (Nat.le_of_ble_eq_true rfl)) d_DI_isRight_6 ⟨Nat.le_of_ble_eq_true rfl, Nat.le_of_ble_eq_true rfl⟩) hS (fun q _ h => hFc q h) hFc (fun u t H1 locs ht hvm hw hB hz1 hk1 hS => ?_)
  obtain ⟨hP1, hK1, hD1⟩ := hB
  rw [ht] at hP1
  have hK1 := va_K.moved hvm.symm hK1
  obtain ⟨hP, hD⟩ := va_join (wr := [(h0, .inr (2, [.ref qw, .ref qt, .int 0]))]) (w1 := [(qw, .inr (0, [.ref qa, .int 0, .int 0, .int 0])), (qa, .inl (cA, 1200, .inl ((f))))]) hP hD [1, 2] [0] rfl rfl (by decide) (by decide) hk1 hFc hP1 hD1
  have hK := (hK.sub (tys' := []) [] rfl).app hK1
  generalize H1 = H at hP hS ⊢
  have hP : va_P (dC, dI) cls_ [(h0, .inr (2, [.ref qw, .ref qt, .int 0])), (qw, .inr (0, [.ref qa, .int 0, .int 0, .int 0])), (qa, .inl (cA, 1200, .inl ((f))))] H := hP
  have hD : va_D A [(h0, .inr (2, [.ref qw, .ref qt, .int 0])), (qw, .inr (0, [.ref qa, .int 0, .int 0, .int 0])), (qa, .inl (cA, 1200, .inl ((f))))] := hD
  have hK : va_K (dC, dI) cls_ [(cA, .int)] s := hK
  refine lv_aload_n hx hb d_DI_isRight_9 rfl (lv_at hl 0 rfl) ?_
  refine lv_aload_n hx hb d_DI_isRight_10 rfl (lv_at hl 0 rfl) ?_
  refine va_get (D := (dC, dI)) (ci := 2) (v := .ref qw) (C := R_DI) (T := F_DI) (N := 3) hx hb hts in_DI hown hK hP 0 rfl rfl 0 (by decide) (hts _ (List.mem_cons_of_mem _ w_69)) (fun _ h9 => h9) rfl d_DI_isRight_11 ?_
  refine lv_iconst (v := 4) hx hb d_DI_isRight_14 (by decide) ?_
  have hPc := hP.sub (ws' := [(qw, .inr (0, [.ref qa, .int 0, .int 0, .int 0])), (qa, .inl (cA, 1200, .inl ((f))))]) [1, 2] rfl
  have hDc := hD.sub (ws' := [(qw, .inr (0, [.ref qa, .int 0, .int 0, .int 0])), (qa, .inl (cA, 1200, .inl ((f))))]) [1, 2] (by decide) rfl
  have hKc := hK.sub (tys' := [(cA, .int)]) [0] rfl
  have hFc := va_free (wc := [(qw, .inr (0, [.ref qa, .int 0, .int 0, .int 0])), (qa, .inl (cA, 1200, .inl ((f))))]) hD hS hA [1, 2] rfl
  refine va_calli (va_runV (As := [.int 4]) (rest := [.ref h0]) ⟨hx, hb, hml, hown, hts⟩ (c_SP_u16 l dC dI qw qa cA ((f)) H.size) (cwV 1 hts (tw_inV w_352 w_353 w_354 w_4 w_355) rfl rfl rfl (by decide +kernel) ⟨Nat.le_of_ble_eq_true rfl, Nat.le_of_ble_eq_true rfl⟩) ⟨fun a U g mk q => by obtain ⟨q0, q1, qP, qK, qD⟩ := q; exact ⟨q0, q1, qP, va_K.moved (u := U) (U := U.calling g mk a) (Vm.Alike.refl U.vm) qK, qD⟩, va_recv (hK := hK) (hP := hP) (q0 := 1) (ci := 0) rfl rfl, fun U hU hW => ⟨rfl, by rw [hU], by rw [hU]; exact hPc, va_K.moved hW.alike hKc, hDc.weaken (fun _ _ _ _ => trivial)⟩⟩ rfl rfl hl.1 rfl (lv_room (Nat.le_of_ble_eq_true rfl)) d_DI_isRight_15 ⟨Nat.le_of_ble_eq_true rfl, Nat.le_of_ble_eq_true rfl⟩) hS (fun q _ h => hFc q h) hFc (fun r150 u t H1 locs ht hvm hw hB hz1 hk1 hS => ?_)
  obtain ⟨hP1, hK1, hD1⟩ := hB
  rw [ht] at hP1
  have hK1 := va_K.moved hvm.symm hK1
  obtain ⟨hP, hD⟩ := va_join (wr := [(h0, .inr (2, [.ref qw, .ref qt, .int 0]))]) (w1 := [(qw, .inr (0, [.ref qa, .int 0, .int 0, .int 1])), (qa, .inl (cA, 1200, .inl (((f)))))]) hP hD [1, 2] [0] rfl rfl (by decide) (by decide) hk1 hFc hP1 hD1
  have hK := (hK.sub (tys' := []) [] rfl).app hK1
  generalize H1 = H at hP hS ⊢
  have hP : va_P (dC, dI) cls_ [(h0, .inr (2, [.ref qw, .ref qt, .int 0])), (qw, .inr (0, [.ref qa, .int 0, .int 0, .int 1])), (qa, .inl (cA, 1200, .inl (((f)))))] H := hP
  have hD : va_D A [(h0, .inr (2, [.ref qw, .ref qt, .int 0])), (qw, .inr (0, [.ref qa, .int 0, .int 0, .int 1])), (qa, .inl (cA, 1200, .inl (((f)))))] := hD
  have hK : va_K (dC, dI) cls_ [(cA, .int)] s := hK
  have hw : r150 = 0 := hw
  subst hw
  refine va_put (D := (dC, dI)) (ci := 2) (v := .int 0) (ty := .int) (C := R_DI) (T := F_DI) (N := 3) hx hb hts in_DI t_DI t_DI_ok n_DI hown hK hP hD hS 0 rfl rfl 2 (by decide) (hts _ (List.mem_cons_of_mem _ w_71)) (fun _ h9 => h9) rfl  (by decide +kernel) rfl rfl (Nat.le_of_ble_eq_true rfl) d_DI_isRight_18 (fun H locs hP hD hS => ?_)
  have hP : va_P (dC, dI) cls_ [(h0, .inr (2, [.ref qw, .ref qt, .int 0])), (qw, .inr (0, [.ref qa, .int 0, .int 0, .int 1])), (qa, .inl (cA, 1200, .inl (((f)))))] H := hP
  have hD : va_D A [(h0, .inr (2, [.ref qw, .ref qt, .int 0])), (qw, .inr (0, [.ref qa, .int 0, .int 0, .int 1])), (qa, .inl (cA, 1200, .inl (((f)))))] := hD
  refine lv_aload_n hx hb d_DI_isRight_21 rfl (lv_at hl 0 rfl) ?_
  refine va_get (D := (dC, dI)) (ci := 2) (v := .ref qw) (C := R_DI) (T := F_DI) (N := 3) hx hb hts in_DI hown hK hP 0 rfl rfl 0 (by decide) (hts _ (List.mem_cons_of_mem _ w_69)) (fun _ h9 => h9) rfl d_DI_isRight_22 ?_
  refine lv_iconst (v := 0) hx hb d_DI_isRight_25 (by decide) ?_
  have hPc := hP.sub (ws' := [(qw, .inr (0, [.ref qa, .int 0, .int 0, .int 1])), (qa, .inl (cA, 1200, .inl (((f)))))]) [1, 2] rfl
  have hDc := hD.sub (ws' := [(qw, .inr (0, [.ref qa, .int 0, .int 0, .int 1])), (qa, .inl (cA, 1200, .inl (((f)))))]) [1, 2] (by decide) rfl
  have hKc := hK.sub (tys' := [(cA, .int)]) [0] rfl
  have hFc := va_free (wc := [(qw, .inr (0, [.ref qa, .int 0, .int 0, .int 1])), (qa, .inl (cA, 1200, .inl (((f)))))]) hD hS hA [1, 2] rfl
  refine va_calll (va_runV (As := [.int 0]) (rest := []) ⟨hx, hb, hml, hown, hts⟩ (c_SP_u32 l dC dI qw qa cA (((f))) H.size) (cwV 1 hts (tw_inV w_356 w_357 w_358 w_4 w_359) rfl rfl rfl (by decide +kernel) ⟨Nat.le_of_ble_eq_true rfl, Nat.le_of_ble_eq_true rfl⟩) ⟨fun a U g mk q => by obtain ⟨q0, q1, qP, qK, qD⟩ := q; exact ⟨q0, q1, qP, va_K.moved (u := U) (U := U.calling g mk a) (Vm.Alike.refl U.vm) qK, qD⟩, va_recv (hK := hK) (hP := hP) (q0 := 1) (ci := 0) rfl rfl, fun U hU hW => ⟨rfl, by rw [hU], by rw [hU]; exact hPc, va_K.moved hW.alike hKc, hDc.weaken (fun _ _ _ _ => trivial)⟩⟩ rfl rfl hl.1 rfl (lv_room (Nat.le_of_ble_eq_true rfl)) d_DI_isRight_26 ⟨Nat.le_of_ble_eq_true rfl, Nat.le_of_ble_eq_true rfl⟩) hS (fun q _ h => hFc q h) hFc (fun r151 u t H1 locs ht hvm hw hB hz1 hk1 hS => ?_)
  obtain ⟨hP1, hK1, hD1⟩ := hB
  rw [ht] at hP1
  have hK1 := va_K.moved hvm.symm hK1
  obtain ⟨hP, hD⟩ := va_join (wr := [(h0, .inr (2, [.ref qw, .ref qt, .int 0]))]) (w1 := [(qw, .inr (0, [.ref qa, .int 0, .int 0, .int 1])), (qa, .inl (cA, 1200, .inl ((((f))))))]) hP hD [1, 2] [0] rfl rfl (by decide) (by decide) hk1 hFc hP1 hD1
  have hK := (hK.sub (tys' := []) [] rfl).app hK1
  generalize H1 = H at hP hS ⊢
  have hP : va_P (dC, dI) cls_ [(h0, .inr (2, [.ref qw, .ref qt, .int 0])), (qw, .inr (0, [.ref qa, .int 0, .int 0, .int 1])), (qa, .inl (cA, 1200, .inl ((((f))))))] H := hP
  have hD : va_D A [(h0, .inr (2, [.ref qw, .ref qt, .int 0])), (qw, .inr (0, [.ref qa, .int 0, .int 0, .int 1])), (qa, .inl (cA, 1200, .inl ((((f))))))] := hD
  have hK : va_K (dC, dI) cls_ [(cA, .int)] s := hK
  have hw : r151 = 0 := hw
  subst hw
  refine lv_ldc2 (v := 65536) hx hb hown (hts _ (List.mem_cons_of_mem _ w_360)) d_DI_isRight_29 ?_
  refine W.lcmp hx hb d_DI_isRight_32 ?_
  refine lv_ci (y := (-1)) (by decide +kernel) ?_
  refine lv_if_ne (tgt := 75) hx hb d_DI_isRight_33 (by decide) (fun _ => ?_) (fun hc => absurd hc (by decide +kernel))
  refine lv_iconst (v := 0) hx hb d_DI_isRight_75 (by decide) ?_
  refine W.widen (k := 0) (n := 0) (Nat.le_of_ble_eq_true rfl) (Nat.le_of_ble_eq_true rfl) ?_
  exact W.zret (v := 0) (ty := .boolean) hx hb hr (by decide +kernel) (fun t ht hW => ⟨⟨0, (), rfl, rfl, trivial⟩, hS.F ht⟩) hS.2.2 d_DI_isRight_76
set_option maxHeartbeats 4000000 in
set_option maxRecDepth 100000 in
/-- GlyphLines$Font.loadFrom -/
theorem c_FO_loadFrom (l : Launch) (dC : Nat → ClassId) (dI : Nat → Nat → Nat) (h0 qf a5 : Nat) (cF : ClassId) (f0 f1 f2 f3 f4 f5 f6 f7 f8 f9 f10 qw qt : Nat) (cA : ClassId) (ck : Int32) (sz : Nat) : Met l y_FO_loadFrom s_FO_loadFrom ({ frames := 12, cells := 0, slots := 0, locals := 400 }) (va_Pc [.ref h0, .ref qf, .int 0, .int ck, .ref a5] (fun U => U.heap.size = sz ∧ va_P (dC, dI) cls_ [(h0, .inr (4, [.ref f0, .ref f1, .ref f2, .ref f3, .ref f4, .ref f5, .ref f6, .ref f7, .ref f8, .ref f9, .ref f10, .int 64, .int 0, .int 0, .int 0])), (f0, .inl (cA, 1200, .inl (fun _ => 0))), (f1, .inr (2, [.ref qw, .ref qt, .int 0])), (qw, .inr (0, [.ref f0, .int 0, .int 0, .int 0])), (qf, .inl (cF, 1200, .inl (fun _ => 0)))] U.heap ∧ va_K (dC, dI) cls_ [(cA, .int), (cF, .int)] U ∧ va_D (fun _ => True) [(h0, .inr (4, [.ref f0, .ref f1, .ref f2, .ref f3, .ref f4, .ref f5, .ref f6, .ref f7, .ref f8, .ref f9, .ref f10, .int 64, .int 0, .int 0, .int 0])), (f0, .inl (cA, 1200, .inl (fun _ => 0))), (f1, .inr (2, [.ref qw, .ref qt, .int 0])), (qw, .inr (0, [.ref f0, .int 0, .int 0, .int 0])), (qf, .inl (cF, 1200, .inl (fun _ => 0)))])) (va_Qi (fun (r : Int32) (_ : Unit) => r = -1) (fun (_ : Unit) (t : State) => True) (va_A [(h0, .inr (4, [.ref f0, .ref f1, .ref f2, .ref f3, .ref f4, .ref f5, .ref f6, .ref f7, .ref f8, .ref f9, .ref f10, .int 64, .int 0, .int 0, .int 0])), (f0, .inl (cA, 1200, .inl (fun _ => 0))), (f1, .inr (2, [.ref qw, .ref qt, .int 0])), (qw, .inr (0, [.ref f0, .int 0, .int 0, .int 0])), (qf, .inl (cF, 1200, .inl (fun _ => 0)))] sz)) 0 0 (va_A [(h0, .inr (4, [.ref f0, .ref f1, .ref f2, .ref f3, .ref f4, .ref f5, .ref f6, .ref f7, .ref f8, .ref f9, .ref f10, .int 64, .int 0, .int 0, .int 0])), (f0, .inl (cA, 1200, .inl (fun _ => 0))), (f1, .inr (2, [.ref qw, .ref qt, .int 0])), (qw, .inr (0, [.ref f0, .int 0, .int 0, .int 0])), (qf, .inl (cF, 1200, .inl (fun _ => 0)))] sz) := by
  refine Met.ofW (cc := b_FO_loadFrom) (maxL := 6) (ret := (some .int)) (by decide) rfl ?_
  intro p e s m args below meth c s₁ B hml hv
  obtain ⟨rfl, hsz, hP, hK, hD0⟩ := hv
  have hx := B.exec
  have hb := B.bytes
  have hr := B.returns
  have hts := atoms_spec (ws := s_FO_loadFrom) B.pre
  have hown : s.vm.findClass R_FO = some m.cls := findClass_of_methodNamed B.named
  have hlocks := B.notSynchronized
  subst hsz
  have hD := hD0.self (sz := s.heap.size)
  generalize hAe : va_A [(h0, .inr (4, [.ref f0, .ref f1, .ref f2, .ref f3, .ref f4, .ref f5, .ref f6, .ref f7, .ref f8, .ref f9, .ref f10, .int 64, .int 0, .int 0, .int 0])), (f0, .inl (cA, 1200, .inl (fun _ => 0))), (f1, .inr (2, [.ref qw, .ref qt, .int 0])), (qw, .inr (0, [.ref f0, .int 0, .int 0, .int 0])), (qf, .inl (cF, 1200, .inl (fun _ => 0)))] s.heap.size = A at hD ⊢
  have hA : ∀ q : Nat, s.heap.size ≤ q → A q := fun q h => by rw [← hAe]; exact Or.inr h
  have hS : va_S A s.heap s.heap [] := va_S.rf
  have hP : va_P (dC, dI) cls_ [(h0, .inr (4, [.ref f0, .ref f1, .ref f2, .ref f3, .ref f4, .ref f5, .ref f6, .ref f7, .ref f8, .ref f9, .ref f10, .int 64, .int 0, .int 0, .int 0])), (f0, .inl (cA, 1200, .inl (fun _ => 0))), (f1, .inr (2, [.ref qw, .ref qt, .int 0])), (qw, .inr (0, [.ref f0, .int 0, .int 0, .int 0])), (qf, .inl (cF, 1200, .inl (fun _ => 0)))] s.heap := hP
  have hl := lv_entry ([.ref h0, .ref qf, .int 0, .int ck, .ref a5]) (n := 6) (Nat.le_of_ble_eq_true rfl)
  rw [lg_entry_eq]
  generalize (lg_sl ([.ref h0, .ref qf, .int 0, .int ck, .ref a5]) ++ List.replicate (6 - (lg_sl ([.ref h0, .ref qf, .int 0, .int ck, .ref a5])).length) Slot.unset).toArray = ls at hl ⊢
  have hl : lv_has ls 6 [(0, .ref h0), (1, .ref qf), (2, .int 0), (3, .int ck), (4, .ref a5)] := hl
  refine lv_aload_n hx hb d_FO_loadFrom_0 rfl (lv_at hl 1 rfl) ?_
  refine lv_iconst (v := 0) hx hb d_FO_loadFrom_1 (by decide) ?_
  refine lv_aload_n hx hb d_FO_loadFrom_2 rfl (lv_at hl 0 rfl) ?_
  refine va_get (D := (dC, dI)) (ci := 4) (v := .ref f0) (C := R_FO) (T := F_FO) (N := 15) hx hb hts in_FO hown hK hP 0 rfl rfl 0 (by decide) (hts _ (List.mem_cons_of_mem _ w_117)) (fun _ h9 => h9) rfl d_FO_loadFrom_3 ?_
  refine lv_iconst (v := 0) hx hb d_FO_loadFrom_6 (by decide) ?_
  refine lv_aload_n hx hb d_FO_loadFrom_7 rfl (lv_at hl 1 rfl) ?_
  refine va_alen (v := 1200) hx hb hK hP 4 1 rfl rfl (by show Int32.ofNat 1200 = 1200; decide +kernel) d_FO_loadFrom_8 ?_
  refine lv_aload_n hx hb d_FO_loadFrom_9 rfl (lv_at hl 0 rfl) ?_
  refine va_get (D := (dC, dI)) (ci := 4) (v := .ref f0) (C := R_FO) (T := F_FO) (N := 15) hx hb hts in_FO hown hK hP 0 rfl rfl 0 (by decide) (hts _ (List.mem_cons_of_mem _ w_117)) (fun _ h9 => h9) rfl d_FO_loadFrom_10 ?_
  refine va_alen (v := 1200) hx hb hK hP 1 0 rfl rfl (by show Int32.ofNat 1200 = 1200; decide +kernel) d_FO_loadFrom_13 ?_
  refine va_mmin hx hb (by rw [hml]; exact hl.1.symm) hown (hts _ (List.mem_cons_of_mem _ w_334)) (hts _ (List.mem_cons_of_mem _ w_335)) (hts _ (List.mem_cons_of_mem _ w_17)) (hts _ (List.mem_cons_of_mem _ w_336)) (Nat.le_of_ble_eq_true rfl) (Nat.le_of_ble_eq_true rfl) (Nat.le_of_ble_eq_true rfl) (Nat.le_of_ble_eq_true rfl) d_FO_loadFrom_14 ?_
  refine lv_ci (y := 1200) (by decide +kernel) ?_
  refine va_copyi (ty := .int) hx hb (by rw [hml]; exact hl.1.symm) hown (hts _ (List.mem_cons_of_mem _ w_337)) (hts _ (List.mem_cons_of_mem _ w_339)) (hts _ (List.mem_cons_of_mem _ w_338)) (hts _ (List.mem_cons_of_mem _ w_18)) hK hP hD hS 4 1 1 0 rfl rfl rfl rfl rfl (by decide +kernel) (by decide +kernel) (by decide +kernel) (by decide +kernel) (by decide +kernel) (fun _ _ => rfl) (Nat.le_of_ble_eq_true rfl) (by decide +kernel) d_FO_loadFrom_17 (fun H locs hP hD hS => ?_)
  have hP : va_P (dC, dI) cls_ [(h0, .inr (4, [.ref f0, .ref f1, .ref f2, .ref f3, .ref f4, .ref f5, .ref f6, .ref f7, .ref f8, .ref f9, .ref f10, .int 64, .int 0, .int 0, .int 0])), (f0, .inl (cA, 1200, .inl (va_cpy (fun _ => 0) (fun _ => 0) (Int32.toNatClampNeg 0) (Int32.toNatClampNeg 0) (Int32.toNatClampNeg 1200)))), (f1, .inr (2, [.ref qw, .ref qt, .int 0])), (qw, .inr (0, [.ref f0, .int 0, .int 0, .int 0])), (qf, .inl (cF, 1200, .inl (fun _ => 0)))] H := hP
  have hD : va_D A [(h0, .inr (4, [.ref f0, .ref f1, .ref f2, .ref f3, .ref f4, .ref f5, .ref f6, .ref f7, .ref f8, .ref f9, .ref f10, .int 64, .int 0, .int 0, .int 0])), (f0, .inl (cA, 1200, .inl (va_cpy (fun _ => 0) (fun _ => 0) (Int32.toNatClampNeg 0) (Int32.toNatClampNeg 0) (Int32.toNatClampNeg 1200)))), (f1, .inr (2, [.ref qw, .ref qt, .int 0])), (qw, .inr (0, [.ref f0, .int 0, .int 0, .int 0])), (qf, .inl (cF, 1200, .inl (fun _ => 0)))] := hD
  refine lv_aload_n hx hb d_FO_loadFrom_20 rfl (lv_at hl 0 rfl) ?_
  refine va_get (D := (dC, dI)) (ci := 4) (v := .ref f1) (C := R_FO) (T := F_FO) (N := 15) hx hb hts in_FO hown hK hP 0 rfl rfl 1 (by decide) (hts _ (List.mem_cons_of_mem _ w_118)) (fun _ h9 => h9) rfl d_FO_loadFrom_21 ?_
  refine lv_iload_n hx hb d_FO_loadFrom_24 rfl (lv_at hl 2 rfl) ?_
  have hPc := hP.sub (ws' := [(f1, .inr (2, [.ref qw, .ref qt, .int 0])), (qw, .inr (0, [.ref f0, .int 0, .int 0, .int 0])), (f0, .inl (cA, 1200, .inl (va_cpy (fun _ => 0) (fun _ => 0) (Int32.toNatClampNeg 0) (Int32.toNatClampNeg 0) (Int32.toNatClampNeg 1200))))]) [2, 3, 1] rfl
  have hDc := hD.sub (ws' := [(f1, .inr (2, [.ref qw, .ref qt, .int 0])), (qw, .inr (0, [.ref f0, .int 0, .int 0, .int 0])), (f0, .inl (cA, 1200, .inl (va_cpy (fun _ => 0) (fun _ => 0) (Int32.toNatClampNeg 0) (Int32.toNatClampNeg 0) (Int32.toNatClampNeg 1200))))]) [2, 3, 1] (by decide) rfl
  have hKc := hK.sub (tys' := [(cA, .int)]) [0] rfl
  have hFc := va_free (wc := [(f1, .inr (2, [.ref qw, .ref qt, .int 0])), (qw, .inr (0, [.ref f0, .int 0, .int 0, .int 0])), (f0, .inl (cA, 1200, .inl (va_cpy (fun _ => 0) (fun _ => 0) (Int32.toNatClampNeg 0) (Int32.toNatClampNeg 0) (Int32.toNatClampNeg 1200))))]) hD hS hA [2, 3, 1] rfl
  refine va_calli (va_runV (As := [.int 0]) (rest := []) ⟨hx, hb, hml, hown, hts⟩ (c_DI_isRight l dC dI f1 qw qt f0 cA (va_cpy (fun _ => 0) (fun _ => 0) (Int32.toNatClampNeg 0) (Int32.toNatClampNeg 0) (Int32.toNatClampNeg 1200)) H.size) (cwV 1 hts (tw_inV w_340 w_341 w_342 w_3 w_343) rfl rfl rfl (by decide +kernel) ⟨Nat.le_of_ble_eq_true rfl, Nat.le_of_ble_eq_true rfl⟩) ⟨fun a U g mk q => by obtain ⟨q0, q1, qP, qK, qD⟩ := q; exact ⟨q0, q1, qP, va_K.moved (u := U) (U := U.calling g mk a) (Vm.Alike.refl U.vm) qK, qD⟩, va_recv (hK := hK) (hP := hP) (q0 := 2) (ci := 2) rfl rfl, fun U hU hW => ⟨rfl, by rw [hU], by rw [hU]; exact hPc, va_K.moved hW.alike hKc, hDc.weaken (fun _ _ _ _ => trivial)⟩⟩ rfl rfl hl.1 rfl (lv_room (Nat.le_of_ble_eq_true rfl)) d_FO_loadFrom_25 ⟨Nat.le_of_ble_eq_true rfl, Nat.le_of_ble_eq_true rfl⟩) hS (fun q _ h => hFc q h) hFc (fun r152 u t H1 locs ht hvm hw hB hz1 hk1 hS => ?_)
  have hP1 : va_P (dC, dI) cls_ [] H1 := fun k q h => by simp at h
  have hD1 : va_D (va_A [(f1, .inr (2, [.ref qw, .ref qt, .int 0])), (qw, .inr (0, [.ref f0, .int 0, .int 0, .int 0])), (f0, .inl (cA, 1200, .inl (va_cpy (fun _ => 0) (fun _ => 0) (Int32.toNatClampNeg 0) (Int32.toNatClampNeg 0) (Int32.toNatClampNeg 1200))))] H.size) [] := ⟨fun i j p q h => by simp at h, fun k q h => by simp at h⟩
  obtain ⟨hP, hD⟩ := va_join (wr := [(h0, .inr (4, [.ref f0, .ref f1, .ref f2, .ref f3, .ref f4, .ref f5, .ref f6, .ref f7, .ref f8, .ref f9, .ref f10, .int 64, .int 0, .int 0, .int 0])), (qf, .inl (cF, 1200, .inl (fun _ => 0)))]) (w1 := []) hP hD [2, 3, 1] [0, 4] rfl rfl (by decide) (by decide) hk1 hFc hP1 hD1
  generalize H1 = H at hP hS ⊢
  have hP : va_P (dC, dI) cls_ [(h0, .inr (4, [.ref f0, .ref f1, .ref f2, .ref f3, .ref f4, .ref f5, .ref f6, .ref f7, .ref f8, .ref f9, .ref f10, .int 64, .int 0, .int 0, .int 0])), (qf, .inl (cF, 1200, .inl (fun _ => 0)))] H := hP
  have hD : va_D A [(h0, .inr (4, [.ref f0, .ref f1, .ref f2, .ref f3, .ref f4, .ref f5, .ref f6, .ref f7, .ref f8, .ref f9, .ref f10, .int 64, .int 0, .int 0, .int 0])), (qf, .inl (cF, 1200, .inl (fun _ => 0)))] := hD
  have hw : r152 = 0 := hw
  subst hw
  refine lv_if_ne (tgt := 33) hx hb d_FO_loadFrom_28 (by decide) (fun hc => absurd hc (by decide +kernel)) (fun _ => ?_)
  refine lv_iconst (v := (-1)) hx hb d_FO_loadFrom_31 (by decide) ?_
  refine W.widen (k := 0) (n := 0) (Nat.le_of_ble_eq_true rfl) (Nat.le_of_ble_eq_true rfl) ?_
  exact W.iret (v := (-1)) hx hb hr (fun t ht hW => ⟨⟨(-1), (), rfl, rfl, trivial⟩, hS.F ht⟩) hS.2.2 d_FO_loadFrom_32
set_option maxHeartbeats 4000000 in
set_option maxRecDepth 100000 in
/-- GlyphLines.load -/
theorem c_GL_load (l : Launch) (dC : Nat → ClassId) (dI : Nat → Nat → Nat) (h0 qf a2 a3 a5 a6 a7 qx : Nat) (cF : ClassId) (f0 f1 f2 f3 f4 f5 f6 f7 f8 f9 f10 qw qt : Nat) (cA : ClassId) (ck : Int32) (sz : Nat) : Met l y_GL_load s_GL_load ({ frames := 14, cells := 0, slots := 0, locals := 500 }) (va_Pc [.ref h0, .int ck] (fun U => U.heap.size = sz ∧ va_P (dC, dI) cls_ [(h0, .inr (9, [.ref qf, .int 0, .ref a2, .ref a3, .int 0, .ref a5, .ref a6, .ref a7, .ref qx, .int 0])), (qf, .inl (cF, 1200, .inl (fun _ => 0))), (a3, .inr (4, [.ref f0, .ref f1, .ref f2, .ref f3, .ref f4, .ref f5, .ref f6, .ref f7, .ref f8, .ref f9, .ref f10, .int 64, .int 0, .int 0, .int 0])), (f0, .inl (cA, 1200, .inl (fun _ => 0))), (f1, .inr (2, [.ref qw, .ref qt, .int 0])), (qw, .inr (0, [.ref f0, .int 0, .int 0, .int 0]))] U.heap ∧ va_K (dC, dI) cls_ [(cF, .int), (cA, .int)] U ∧ va_D (fun _ => True) [(h0, .inr (9, [.ref qf, .int 0, .ref a2, .ref a3, .int 0, .ref a5, .ref a6, .ref a7, .ref qx, .int 0])), (qf, .inl (cF, 1200, .inl (fun _ => 0))), (a3, .inr (4, [.ref f0, .ref f1, .ref f2, .ref f3, .ref f4, .ref f5, .ref f6, .ref f7, .ref f8, .ref f9, .ref f10, .int 64, .int 0, .int 0, .int 0])), (f0, .inl (cA, 1200, .inl (fun _ => 0))), (f1, .inr (2, [.ref qw, .ref qt, .int 0])), (qw, .inr (0, [.ref f0, .int 0, .int 0, .int 0]))])) (va_Qi (fun (r : Int32) (_ : Unit) => r = -1) (fun (_ : Unit) (t : State) => True) (va_A [(h0, .inr (9, [.ref qf, .int 0, .ref a2, .ref a3, .int 0, .ref a5, .ref a6, .ref a7, .ref qx, .int 0])), (qf, .inl (cF, 1200, .inl (fun _ => 0))), (a3, .inr (4, [.ref f0, .ref f1, .ref f2, .ref f3, .ref f4, .ref f5, .ref f6, .ref f7, .ref f8, .ref f9, .ref f10, .int 64, .int 0, .int 0, .int 0])), (f0, .inl (cA, 1200, .inl (fun _ => 0))), (f1, .inr (2, [.ref qw, .ref qt, .int 0])), (qw, .inr (0, [.ref f0, .int 0, .int 0, .int 0]))] sz)) 0 0 (va_A [(h0, .inr (9, [.ref qf, .int 0, .ref a2, .ref a3, .int 0, .ref a5, .ref a6, .ref a7, .ref qx, .int 0])), (qf, .inl (cF, 1200, .inl (fun _ => 0))), (a3, .inr (4, [.ref f0, .ref f1, .ref f2, .ref f3, .ref f4, .ref f5, .ref f6, .ref f7, .ref f8, .ref f9, .ref f10, .int 64, .int 0, .int 0, .int 0])), (f0, .inl (cA, 1200, .inl (fun _ => 0))), (f1, .inr (2, [.ref qw, .ref qt, .int 0])), (qw, .inr (0, [.ref f0, .int 0, .int 0, .int 0]))] sz) := by
  refine Met.ofW (cc := b_GL_load) (maxL := 4) (ret := (some .int)) (by decide) rfl ?_
  intro p e s m args below meth c s₁ B hml hv
  obtain ⟨rfl, hsz, hP, hK, hD0⟩ := hv
  have hx := B.exec
  have hb := B.bytes
  have hr := B.returns
  have hts := atoms_spec (ws := s_GL_load) B.pre
  have hown : s.vm.findClass R_GL = some m.cls := findClass_of_methodNamed B.named
  have hlocks := B.notSynchronized
  subst hsz
  have hD := hD0.self (sz := s.heap.size)
  generalize hAe : va_A [(h0, .inr (9, [.ref qf, .int 0, .ref a2, .ref a3, .int 0, .ref a5, .ref a6, .ref a7, .ref qx, .int 0])), (qf, .inl (cF, 1200, .inl (fun _ => 0))), (a3, .inr (4, [.ref f0, .ref f1, .ref f2, .ref f3, .ref f4, .ref f5, .ref f6, .ref f7, .ref f8, .ref f9, .ref f10, .int 64, .int 0, .int 0, .int 0])), (f0, .inl (cA, 1200, .inl (fun _ => 0))), (f1, .inr (2, [.ref qw, .ref qt, .int 0])), (qw, .inr (0, [.ref f0, .int 0, .int 0, .int 0]))] s.heap.size = A at hD ⊢
  have hA : ∀ q : Nat, s.heap.size ≤ q → A q := fun q h => by rw [← hAe]; exact Or.inr h
  have hS : va_S A s.heap s.heap [] := va_S.rf
  have hP : va_P (dC, dI) cls_ [(h0, .inr (9, [.ref qf, .int 0, .ref a2, .ref a3, .int 0, .ref a5, .ref a6, .ref a7, .ref qx, .int 0])), (qf, .inl (cF, 1200, .inl (fun _ => 0))), (a3, .inr (4, [.ref f0, .ref f1, .ref f2, .ref f3, .ref f4, .ref f5, .ref f6, .ref f7, .ref f8, .ref f9, .ref f10, .int 64, .int 0, .int 0, .int 0])), (f0, .inl (cA, 1200, .inl (fun _ => 0))), (f1, .inr (2, [.ref qw, .ref qt, .int 0])), (qw, .inr (0, [.ref f0, .int 0, .int 0, .int 0]))] s.heap := hP
  have hl := lv_entry ([.ref h0, .int ck]) (n := 4) (Nat.le_of_ble_eq_true rfl)
  rw [lg_entry_eq]
  generalize (lg_sl ([.ref h0, .int ck]) ++ List.replicate (4 - (lg_sl ([.ref h0, .int ck])).length) Slot.unset).toArray = ls at hl ⊢
  have hl : lv_has ls 4 [(0, .ref h0), (1, .int ck)] := hl
  refine lv_aload_n hx hb d_GL_load_0 rfl (lv_at hl 0 rfl) ?_
  refine va_get (D := (dC, dI)) (ci := 9) (v := .ref a3) (C := R_GL) (T := F_GL) (N := 10) hx hb hts in_GL hown hK hP 0 rfl rfl 3 (by decide) (hts _ (List.mem_cons_of_mem _ w_290)) (fun _ h9 => h9) rfl d_GL_load_1 ?_
  refine lv_aload_n hx hb d_GL_load_4 rfl (lv_at hl 0 rfl) ?_
  refine va_get (D := (dC, dI)) (ci := 9) (v := .ref qf) (C := R_GL) (T := F_GL) (N := 10) hx hb hts in_GL hown hK hP 0 rfl rfl 0 (by decide) (hts _ (List.mem_cons_of_mem _ w_287)) (fun _ h9 => h9) rfl d_GL_load_5 ?_
  refine lv_aload_n hx hb d_GL_load_8 rfl (lv_at hl 0 rfl) ?_
  refine va_get (D := (dC, dI)) (ci := 9) (v := .int 0) (C := R_GL) (T := F_GL) (N := 10) hx hb hts in_GL hown hK hP 0 rfl rfl 1 (by decide) (hts _ (List.mem_cons_of_mem _ w_288)) (fun _ h9 => h9) rfl d_GL_load_9 ?_
  refine lv_iload_n hx hb d_GL_load_12 rfl (lv_at hl 1 rfl) ?_
  refine lv_aload_n hx hb d_GL_load_13 rfl (lv_at hl 0 rfl) ?_
  refine va_get (D := (dC, dI)) (ci := 9) (v := .ref a5) (C := R_GL) (T := F_GL) (N := 10) hx hb hts in_GL hown hK hP 0 rfl rfl 5 (by decide) (hts _ (List.mem_cons_of_mem _ w_292)) (fun _ h9 => h9) rfl d_GL_load_14 ?_
  have hPc := hP.sub (ws' := [(a3, .inr (4, [.ref f0, .ref f1, .ref f2, .ref f3, .ref f4, .ref f5, .ref f6, .ref f7, .ref f8, .ref f9, .ref f10, .int 64, .int 0, .int 0, .int 0])), (f0, .inl (cA, 1200, .inl (fun _ => 0))), (f1, .inr (2, [.ref qw, .ref qt, .int 0])), (qw, .inr (0, [.ref f0, .int 0, .int 0, .int 0])), (qf, .inl (cF, 1200, .inl (fun _ => 0)))]) [2, 3, 4, 5, 1] rfl
  have hDc := hD.sub (ws' := [(a3, .inr (4, [.ref f0, .ref f1, .ref f2, .ref f3, .ref f4, .ref f5, .ref f6, .ref f7, .ref f8, .ref f9, .ref f10, .int 64, .int 0, .int 0, .int 0])), (f0, .inl (cA, 1200, .inl (fun _ => 0))), (f1, .inr (2, [.ref qw, .ref qt, .int 0])), (qw, .inr (0, [.ref f0, .int 0, .int 0, .int 0])), (qf, .inl (cF, 1200, .inl (fun _ => 0)))]) [2, 3, 4, 5, 1] (by decide) rfl
  have hKc := hK.sub (tys' := [(cA, .int), (cF, .int)]) [1, 0] rfl
  have hFc := va_free (wc := [(a3, .inr (4, [.ref f0, .ref f1, .ref f2, .ref f3, .ref f4, .ref f5, .ref f6, .ref f7, .ref f8, .ref f9, .ref f10, .int 64, .int 0, .int 0, .int 0])), (f0, .inl (cA, 1200, .inl (fun _ => 0))), (f1, .inr (2, [.ref qw, .ref qt, .int 0])), (qw, .inr (0, [.ref f0, .int 0, .int 0, .int 0])), (qf, .inl (cF, 1200, .inl (fun _ => 0)))]) hD hS hA [2, 3, 4, 5, 1] rfl
  refine va_calli (va_runV (As := [.ref qf, .int 0, .int ck, .ref a5]) (rest := []) ⟨hx, hb, hml, hown, hts⟩ (c_FO_loadFrom l dC dI a3 qf a5 cF f0 f1 f2 f3 f4 f5 f6 f7 f8 f9 f10 qw qt cA ck s.heap.size) (cwV 4 hts (tw_inV w_330 w_331 w_332 w_2 w_333) rfl rfl rfl (by decide +kernel) ⟨Nat.le_of_ble_eq_true rfl, Nat.le_of_ble_eq_true rfl⟩) ⟨fun a U g mk q => by obtain ⟨q0, q1, qP, qK, qD⟩ := q; exact ⟨q0, q1, qP, va_K.moved (u := U) (U := U.calling g mk a) (Vm.Alike.refl U.vm) qK, qD⟩, va_recv (hK := hK) (hP := hP) (q0 := 2) (ci := 4) rfl rfl, fun U hU hW => ⟨rfl, by rw [hU], by rw [hU]; exact hPc, va_K.moved hW.alike hKc, hDc.weaken (fun _ _ _ _ => trivial)⟩⟩ rfl rfl hl.1 rfl (lv_room (Nat.le_of_ble_eq_true rfl)) d_GL_load_17 ⟨Nat.le_of_ble_eq_true rfl, Nat.le_of_ble_eq_true rfl⟩) hS (fun q _ h => hFc q h) hFc (fun r153 u t H1 locs ht hvm hw hB hz1 hk1 hS => ?_)
  have hP1 : va_P (dC, dI) cls_ [] H1 := fun k q h => by simp at h
  have hD1 : va_D (va_A [(a3, .inr (4, [.ref f0, .ref f1, .ref f2, .ref f3, .ref f4, .ref f5, .ref f6, .ref f7, .ref f8, .ref f9, .ref f10, .int 64, .int 0, .int 0, .int 0])), (f0, .inl (cA, 1200, .inl (fun _ => 0))), (f1, .inr (2, [.ref qw, .ref qt, .int 0])), (qw, .inr (0, [.ref f0, .int 0, .int 0, .int 0])), (qf, .inl (cF, 1200, .inl (fun _ => 0)))] s.heap.size) [] := ⟨fun i j p q h => by simp at h, fun k q h => by simp at h⟩
  obtain ⟨hP, hD⟩ := va_join (wr := [(h0, .inr (9, [.ref qf, .int 0, .ref a2, .ref a3, .int 0, .ref a5, .ref a6, .ref a7, .ref qx, .int 0]))]) (w1 := []) hP hD [2, 3, 4, 5, 1] [0] rfl rfl (by decide) (by decide) hk1 hFc hP1 hD1
  generalize H1 = H at hP hS ⊢
  have hP : va_P (dC, dI) cls_ [(h0, .inr (9, [.ref qf, .int 0, .ref a2, .ref a3, .int 0, .ref a5, .ref a6, .ref a7, .ref qx, .int 0]))] H := hP
  have hD : va_D A [(h0, .inr (9, [.ref qf, .int 0, .ref a2, .ref a3, .int 0, .ref a5, .ref a6, .ref a7, .ref qx, .int 0]))] := hD
  have hw : r153 = (-1) := hw
  subst hw
  refine lv_istore_n (lv' := [(2, .int ((-1))), (0, .ref h0), (1, .int ck)]) hx hb d_GL_load_20 rfl hl (by decide) rfl (fun ls hl => ?_)
  refine lv_iload_n hx hb d_GL_load_21 rfl (lv_at hl 0 rfl) ?_
  refine lv_if_le (tgt := 48) hx hb d_GL_load_22 (by decide) (fun _ => ?_) (fun hc => absurd hc (by decide +kernel))
  refine lv_iload_n hx hb d_GL_load_48 rfl (lv_at hl 0 rfl) ?_
  refine W.widen (k := 0) (n := 0) (Nat.le_of_ble_eq_true rfl) (Nat.le_of_ble_eq_true rfl) ?_
  exact W.iret (v := (-1)) hx hb hr (fun t ht hW => ⟨⟨(-1), (), rfl, rfl, trivial⟩, hS.F ht⟩) hS.2.2 d_GL_load_49
