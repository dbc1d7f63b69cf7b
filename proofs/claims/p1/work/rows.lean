section
-- ===== PART A: goes FIRST, ahead of the names: the tables' words, and 'selects' of the private methods out of them =====
/-- a private method of a class that the tables say can be made, by its rows of tables_1 -/
def lw_okq (q : MethodName × Nat) : Prop := (q.1.cls ≠ "java/lang/invoke/MethodHandle" ∧ q.1.cls ≠ "java/lang/invoke/VarHandle") ∧ Cond.instantiable q.1.cls q.2 ∈ tables_1 ∧ Cond.privateMethod q.1 ∈ tables_1 ∧ Cond.instanceMethod q.1 ∈ tables_1
theorem lw_p0 : lw_okq (⟨"GlyphLines$Directory", "nameOf", "(I)J"⟩, 3) := ⟨⟨by decide +kernel, by decide +kernel⟩, List.mem_of_getElem? (i := 37) (by decide +kernel), List.mem_of_getElem? (i := 369) (by decide +kernel), List.mem_of_getElem? (i := 370) (by decide +kernel)⟩
theorem lw_p1 : lw_okq (⟨"GlyphLines$Directory", "layTable", "(ILGlyphLines$Span;)V"⟩, 3) := ⟨⟨by decide +kernel, by decide +kernel⟩, List.mem_of_getElem? (i := 37) (by decide +kernel), List.mem_of_getElem? (i := 380) (by decide +kernel), List.mem_of_getElem? (i := 381) (by decide +kernel)⟩
theorem lw_p2 : lw_okq (⟨"GlyphLines$Font", "findTables", "()Z"⟩, 15) := ⟨⟨by decide +kernel, by decide +kernel⟩, List.mem_of_getElem? (i := 31) (by decide +kernel), List.mem_of_getElem? (i := 385) (by decide +kernel), List.mem_of_getElem? (i := 386) (by decide +kernel)⟩
theorem lw_p3 : lw_okq (⟨"GlyphLines$Font", "formsAreRight", "()Z"⟩, 15) := ⟨⟨by decide +kernel, by decide +kernel⟩, List.mem_of_getElem? (i := 31) (by decide +kernel), List.mem_of_getElem? (i := 400) (by decide +kernel), List.mem_of_getElem? (i := 401) (by decide +kernel)⟩
theorem lw_p4 : lw_okq (⟨"GlyphLines$Font", "headIsRight", "()Z"⟩, 15) := ⟨⟨by decide +kernel, by decide +kernel⟩, List.mem_of_getElem? (i := 31) (by decide +kernel), List.mem_of_getElem? (i := 404) (by decide +kernel), List.mem_of_getElem? (i := 405) (by decide +kernel)⟩
theorem lw_p5 : lw_okq (⟨"GlyphLines$Font", "countsAreRight", "()Z"⟩, 15) := ⟨⟨by decide +kernel, by decide +kernel⟩, List.mem_of_getElem? (i := 31) (by decide +kernel), List.mem_of_getElem? (i := 409) (by decide +kernel), List.mem_of_getElem? (i := 410) (by decide +kernel)⟩
theorem lw_p6 : lw_okq (⟨"GlyphLines$Font", "placesAreRight", "()Z"⟩, 15) := ⟨⟨by decide +kernel, by decide +kernel⟩, List.mem_of_getElem? (i := 31) (by decide +kernel), List.mem_of_getElem? (i := 413) (by decide +kernel), List.mem_of_getElem? (i := 414) (by decide +kernel)⟩
theorem lw_p7 : lw_okq (⟨"GlyphLines$Font", "placeOf", "(I)J"⟩, 15) := ⟨⟨by decide +kernel, by decide +kernel⟩, List.mem_of_getElem? (i := 31) (by decide +kernel), List.mem_of_getElem? (i := 417) (by decide +kernel), List.mem_of_getElem? (i := 418) (by decide +kernel)⟩
theorem lw_p8 : lw_okq (⟨"GlyphLines$CharacterMap", "findPlace", "()J"⟩, 3) := ⟨⟨by decide +kernel, by decide +kernel⟩, List.mem_of_getElem? (i := 82) (by decide +kernel), List.mem_of_getElem? (i := 427) (by decide +kernel), List.mem_of_getElem? (i := 428) (by decide +kernel)⟩
theorem lw_p9 : lw_okq (⟨"GlyphLines$CharacterMap", "rangesAreRight", "()Z"⟩, 3) := ⟨⟨by decide +kernel, by decide +kernel⟩, List.mem_of_getElem? (i := 82) (by decide +kernel), List.mem_of_getElem? (i := 437) (by decide +kernel), List.mem_of_getElem? (i := 438) (by decide +kernel)⟩
theorem lw_p10 : lw_okq (⟨"GlyphLines$CharacterMap", "last", "(I)I"⟩, 3) := ⟨⟨by decide +kernel, by decide +kernel⟩, List.mem_of_getElem? (i := 82) (by decide +kernel), List.mem_of_getElem? (i := 441) (by decide +kernel), List.mem_of_getElem? (i := 442) (by decide +kernel)⟩
theorem lw_p11 : lw_okq (⟨"GlyphLines$CharacterMap", "first", "(I)I"⟩, 3) := ⟨⟨by decide +kernel, by decide +kernel⟩, List.mem_of_getElem? (i := 82) (by decide +kernel), List.mem_of_getElem? (i := 445) (by decide +kernel), List.mem_of_getElem? (i := 446) (by decide +kernel)⟩
theorem lw_p12 : lw_okq (⟨"GlyphLines$Font", "kernIsRight", "()Z"⟩, 15) := ⟨⟨by decide +kernel, by decide +kernel⟩, List.mem_of_getElem? (i := 31) (by decide +kernel), List.mem_of_getElem? (i := 450) (by decide +kernel), List.mem_of_getElem? (i := 451) (by decide +kernel)⟩
theorem lw_p13 : lw_okq (⟨"GlyphLines$Outline", "add", "(LGlyphLines$Font;II)Z"⟩, 8) := ⟨⟨by decide +kernel, by decide +kernel⟩, List.mem_of_getElem? (i := 167) (by decide +kernel), List.mem_of_getElem? (i := 471) (by decide +kernel), List.mem_of_getElem? (i := 472) (by decide +kernel)⟩
theorem lw_p14 : lw_okq (⟨"GlyphLines$Outline", "addParts", "(LGlyphLines$Font;LGlyphLines$Span;I)Z"⟩, 8) := ⟨⟨by decide +kernel, by decide +kernel⟩, List.mem_of_getElem? (i := 167) (by decide +kernel), List.mem_of_getElem? (i := 482) (by decide +kernel), List.mem_of_getElem? (i := 483) (by decide +kernel)⟩
theorem lw_p15 : lw_okq (⟨"GlyphLines$Move", "readFactors", "(LGlyphLines$Span;II)I"⟩, 6) := ⟨⟨by decide +kernel, by decide +kernel⟩, List.mem_of_getElem? (i := 173) (by decide +kernel), List.mem_of_getElem? (i := 504) (by decide +kernel), List.mem_of_getElem? (i := 505) (by decide +kernel)⟩
def lw_privs_1 : List (MethodName × Nat) := [(⟨"GlyphLines$Directory", "nameOf", "(I)J"⟩, 3), (⟨"GlyphLines$Directory", "layTable", "(ILGlyphLines$Span;)V"⟩, 3), (⟨"GlyphLines$Font", "findTables", "()Z"⟩, 15), (⟨"GlyphLines$Font", "formsAreRight", "()Z"⟩, 15), (⟨"GlyphLines$Font", "headIsRight", "()Z"⟩, 15), (⟨"GlyphLines$Font", "countsAreRight", "()Z"⟩, 15), (⟨"GlyphLines$Font", "placesAreRight", "()Z"⟩, 15), (⟨"GlyphLines$Font", "placeOf", "(I)J"⟩, 15), (⟨"GlyphLines$CharacterMap", "findPlace", "()J"⟩, 3), (⟨"GlyphLines$CharacterMap", "rangesAreRight", "()Z"⟩, 3), (⟨"GlyphLines$CharacterMap", "last", "(I)I"⟩, 3), (⟨"GlyphLines$CharacterMap", "first", "(I)I"⟩, 3), (⟨"GlyphLines$Font", "kernIsRight", "()Z"⟩, 15), (⟨"GlyphLines$Outline", "add", "(LGlyphLines$Font;II)Z"⟩, 8), (⟨"GlyphLines$Outline", "addParts", "(LGlyphLines$Font;LGlyphLines$Span;I)Z"⟩, 8), (⟨"GlyphLines$Move", "readFactors", "(LGlyphLines$Span;II)I"⟩, 6)]
theorem lw_r1 : ∀ q ∈ lw_privs_1, lw_okq q := List.forall_mem_cons.mpr ⟨lw_p0, List.forall_mem_cons.mpr ⟨lw_p1, List.forall_mem_cons.mpr ⟨lw_p2, List.forall_mem_cons.mpr ⟨lw_p3, List.forall_mem_cons.mpr ⟨lw_p4, List.forall_mem_cons.mpr ⟨lw_p5, List.forall_mem_cons.mpr ⟨lw_p6, List.forall_mem_cons.mpr ⟨lw_p7, List.forall_mem_cons.mpr ⟨lw_p8, List.forall_mem_cons.mpr ⟨lw_p9, List.forall_mem_cons.mpr ⟨lw_p10, List.forall_mem_cons.mpr ⟨lw_p11, List.forall_mem_cons.mpr ⟨lw_p12, List.forall_mem_cons.mpr ⟨lw_p13, List.forall_mem_cons.mpr ⟨lw_p14, List.forall_mem_cons.mpr ⟨lw_p15, fun _ h => absurd h List.not_mem_nil⟩⟩⟩⟩⟩⟩⟩⟩⟩⟩⟩⟩⟩⟩⟩⟩
theorem lw_p16 : lw_okq (⟨"GlyphLines$Outline", "movePoints", "(I)V"⟩, 8) := ⟨⟨by decide +kernel, by decide +kernel⟩, List.mem_of_getElem? (i := 167) (by decide +kernel), List.mem_of_getElem? (i := 508) (by decide +kernel), List.mem_of_getElem? (i := 509) (by decide +kernel)⟩
theorem lw_p17 : lw_okq (⟨"GlyphLines$Outline", "isInRange", "(I)Z"⟩, 8) := ⟨⟨by decide +kernel, by decide +kernel⟩, List.mem_of_getElem? (i := 167) (by decide +kernel), List.mem_of_getElem? (i := 520) (by decide +kernel), List.mem_of_getElem? (i := 521) (by decide +kernel)⟩
theorem lw_p18 : lw_okq (⟨"GlyphLines$Outline", "addContours", "(LGlyphLines$Span;I)Z"⟩, 8) := ⟨⟨by decide +kernel, by decide +kernel⟩, List.mem_of_getElem? (i := 167) (by decide +kernel), List.mem_of_getElem? (i := 524) (by decide +kernel), List.mem_of_getElem? (i := 525) (by decide +kernel)⟩
theorem lw_p19 : lw_okq (⟨"GlyphLines$Outline", "readFlags", "(LGlyphLines$Span;II)I"⟩, 8) := ⟨⟨by decide +kernel, by decide +kernel⟩, List.mem_of_getElem? (i := 167) (by decide +kernel), List.mem_of_getElem? (i := 528) (by decide +kernel), List.mem_of_getElem? (i := 529) (by decide +kernel)⟩
theorem lw_p20 : lw_okq (⟨"GlyphLines$Outline", "readAxis", "(LGlyphLines$Span;II[II)I"⟩, 8) := ⟨⟨by decide +kernel, by decide +kernel⟩, List.mem_of_getElem? (i := 167) (by decide +kernel), List.mem_of_getElem? (i := 533) (by decide +kernel), List.mem_of_getElem? (i := 534) (by decide +kernel)⟩
theorem lw_p21 : lw_okq (⟨"java/lang/Throwable", "fillInStackTrace", "(I)Ljava/lang/Throwable;"⟩, 6) := ⟨⟨by decide +kernel, by decide +kernel⟩, List.mem_of_getElem? (i := 596) (by decide +kernel), List.mem_of_getElem? (i := 594) (by decide +kernel), List.mem_of_getElem? (i := 595) (by decide +kernel)⟩
theorem lw_p22 : lw_okq (⟨"GlyphLines", "requireFont", "()V"⟩, 10) := ⟨⟨by decide +kernel, by decide +kernel⟩, List.mem_of_getElem? (i := 23) (by decide +kernel), List.mem_of_getElem? (i := 659) (by decide +kernel), List.mem_of_getElem? (i := 660) (by decide +kernel)⟩
theorem lw_p23 : lw_okq (⟨"GlyphLines$CharacterMap", "numberIn", "(II)I"⟩, 3) := ⟨⟨by decide +kernel, by decide +kernel⟩, List.mem_of_getElem? (i := 82) (by decide +kernel), List.mem_of_getElem? (i := 688) (by decide +kernel), List.mem_of_getElem? (i := 689) (by decide +kernel)⟩
theorem lw_p24 : lw_okq (⟨"GlyphLines", "requireGlyph", "(I)V"⟩, 10) := ⟨⟨by decide +kernel, by decide +kernel⟩, List.mem_of_getElem? (i := 23) (by decide +kernel), List.mem_of_getElem? (i := 700) (by decide +kernel), List.mem_of_getElem? (i := 701) (by decide +kernel)⟩
theorem lw_p25 : lw_okq (⟨"GlyphLines$Brush", "scaled", "(I)I"⟩, 10) := ⟨⟨by decide +kernel, by decide +kernel⟩, List.mem_of_getElem? (i := 250) (by decide +kernel), List.mem_of_getElem? (i := 760) (by decide +kernel), List.mem_of_getElem? (i := 761) (by decide +kernel)⟩
theorem lw_p26 : lw_okq (⟨"GlyphLines$Brush", "paintOutline", "()V"⟩, 10) := ⟨⟨by decide +kernel, by decide +kernel⟩, List.mem_of_getElem? (i := 250) (by decide +kernel), List.mem_of_getElem? (i := 768) (by decide +kernel), List.mem_of_getElem? (i := 769) (by decide +kernel)⟩
theorem lw_p27 : lw_okq (⟨"GlyphLines$Brush", "layRing", "(II)V"⟩, 10) := ⟨⟨by decide +kernel, by decide +kernel⟩, List.mem_of_getElem? (i := 250) (by decide +kernel), List.mem_of_getElem? (i := 779) (by decide +kernel), List.mem_of_getElem? (i := 780) (by decide +kernel)⟩
theorem lw_p28 : lw_okq (⟨"GlyphLines$Brush", "xOf", "(I)I"⟩, 10) := ⟨⟨by decide +kernel, by decide +kernel⟩, List.mem_of_getElem? (i := 250) (by decide +kernel), List.mem_of_getElem? (i := 783) (by decide +kernel), List.mem_of_getElem? (i := 784) (by decide +kernel)⟩
theorem lw_p29 : lw_okq (⟨"GlyphLines$Brush", "yOf", "(I)I"⟩, 10) := ⟨⟨by decide +kernel, by decide +kernel⟩, List.mem_of_getElem? (i := 250) (by decide +kernel), List.mem_of_getElem? (i := 787) (by decide +kernel), List.mem_of_getElem? (i := 788) (by decide +kernel)⟩
theorem lw_p30 : lw_okq (⟨"GlyphLines$Brush", "addToRing", "(IIZ)V"⟩, 10) := ⟨⟨by decide +kernel, by decide +kernel⟩, List.mem_of_getElem? (i := 250) (by decide +kernel), List.mem_of_getElem? (i := 791) (by decide +kernel), List.mem_of_getElem? (i := 792) (by decide +kernel)⟩
theorem lw_p31 : lw_okq (⟨"GlyphLines$Brush", "paintRing", "()V"⟩, 10) := ⟨⟨by decide +kernel, by decide +kernel⟩, List.mem_of_getElem? (i := 250) (by decide +kernel), List.mem_of_getElem? (i := 798) (by decide +kernel), List.mem_of_getElem? (i := 799) (by decide +kernel)⟩
def lw_privs_2 : List (MethodName × Nat) := [(⟨"GlyphLines$Outline", "movePoints", "(I)V"⟩, 8), (⟨"GlyphLines$Outline", "isInRange", "(I)Z"⟩, 8), (⟨"GlyphLines$Outline", "addContours", "(LGlyphLines$Span;I)Z"⟩, 8), (⟨"GlyphLines$Outline", "readFlags", "(LGlyphLines$Span;II)I"⟩, 8), (⟨"GlyphLines$Outline", "readAxis", "(LGlyphLines$Span;II[II)I"⟩, 8), (⟨"java/lang/Throwable", "fillInStackTrace", "(I)Ljava/lang/Throwable;"⟩, 6), (⟨"GlyphLines", "requireFont", "()V"⟩, 10), (⟨"GlyphLines$CharacterMap", "numberIn", "(II)I"⟩, 3), (⟨"GlyphLines", "requireGlyph", "(I)V"⟩, 10), (⟨"GlyphLines$Brush", "scaled", "(I)I"⟩, 10), (⟨"GlyphLines$Brush", "paintOutline", "()V"⟩, 10), (⟨"GlyphLines$Brush", "layRing", "(II)V"⟩, 10), (⟨"GlyphLines$Brush", "xOf", "(I)I"⟩, 10), (⟨"GlyphLines$Brush", "yOf", "(I)I"⟩, 10), (⟨"GlyphLines$Brush", "addToRing", "(IIZ)V"⟩, 10), (⟨"GlyphLines$Brush", "paintRing", "()V"⟩, 10)]
theorem lw_r2 : ∀ q ∈ lw_privs_2, lw_okq q := List.forall_mem_cons.mpr ⟨lw_p16, List.forall_mem_cons.mpr ⟨lw_p17, List.forall_mem_cons.mpr ⟨lw_p18, List.forall_mem_cons.mpr ⟨lw_p19, List.forall_mem_cons.mpr ⟨lw_p20, List.forall_mem_cons.mpr ⟨lw_p21, List.forall_mem_cons.mpr ⟨lw_p22, List.forall_mem_cons.mpr ⟨lw_p23, List.forall_mem_cons.mpr ⟨lw_p24, List.forall_mem_cons.mpr ⟨lw_p25, List.forall_mem_cons.mpr ⟨lw_p26, List.forall_mem_cons.mpr ⟨lw_p27, List.forall_mem_cons.mpr ⟨lw_p28, List.forall_mem_cons.mpr ⟨lw_p29, List.forall_mem_cons.mpr ⟨lw_p30, List.forall_mem_cons.mpr ⟨lw_p31, fun _ h => absurd h List.not_mem_nil⟩⟩⟩⟩⟩⟩⟩⟩⟩⟩⟩⟩⟩⟩⟩⟩
theorem lw_p32 : lw_okq (⟨"GlyphLines$Brush", "paintCurve", "(IIIIIII)V"⟩, 10) := ⟨⟨by decide +kernel, by decide +kernel⟩, List.mem_of_getElem? (i := 250) (by decide +kernel), List.mem_of_getElem? (i := 815) (by decide +kernel), List.mem_of_getElem? (i := 816) (by decide +kernel)⟩
theorem lw_p33 : lw_okq (⟨"GlyphLines$Brush", "partCurve", "(IIIIIII)V"⟩, 10) := ⟨⟨by decide +kernel, by decide +kernel⟩, List.mem_of_getElem? (i := 250) (by decide +kernel), List.mem_of_getElem? (i := 830) (by decide +kernel), List.mem_of_getElem? (i := 831) (by decide +kernel)⟩
theorem lw_p34 : lw_okq (⟨"GlyphLinesModel", "refused", "(I)Z"⟩, 36) := ⟨⟨by decide +kernel, by decide +kernel⟩, List.mem_of_getElem? (i := 847) (by decide +kernel), List.mem_of_getElem? (i := 974) (by decide +kernel), List.mem_of_getElem? (i := 975) (by decide +kernel)⟩
theorem lw_p35 : lw_okq (⟨"GlyphLinesModel", "isFile", "(I)Z"⟩, 36) := ⟨⟨by decide +kernel, by decide +kernel⟩, List.mem_of_getElem? (i := 847) (by decide +kernel), List.mem_of_getElem? (i := 990) (by decide +kernel), List.mem_of_getElem? (i := 991) (by decide +kernel)⟩
theorem lw_p36 : lw_okq (⟨"GlyphLinesModel", "number", "(III)J"⟩, 36) := ⟨⟨by decide +kernel, by decide +kernel⟩, List.mem_of_getElem? (i := 847) (by decide +kernel), List.mem_of_getElem? (i := 994) (by decide +kernel), List.mem_of_getElem? (i := 995) (by decide +kernel)⟩
theorem lw_p37 : lw_okq (⟨"GlyphLinesModel", "isSummed", "(I)Z"⟩, 36) := ⟨⟨by decide +kernel, by decide +kernel⟩, List.mem_of_getElem? (i := 847) (by decide +kernel), List.mem_of_getElem? (i := 1004) (by decide +kernel), List.mem_of_getElem? (i := 1005) (by decide +kernel)⟩
theorem lw_p38 : lw_okq (⟨"GlyphLinesModel", "hasAll", "(I)Z"⟩, 36) := ⟨⟨by decide +kernel, by decide +kernel⟩, List.mem_of_getElem? (i := 847) (by decide +kernel), List.mem_of_getElem? (i := 1008) (by decide +kernel), List.mem_of_getElem? (i := 1009) (by decide +kernel)⟩
theorem lw_p39 : lw_okq (⟨"GlyphLinesModel", "isHeadForm", "(I)Z"⟩, 36) := ⟨⟨by decide +kernel, by decide +kernel⟩, List.mem_of_getElem? (i := 847) (by decide +kernel), List.mem_of_getElem? (i := 1012) (by decide +kernel), List.mem_of_getElem? (i := 1013) (by decide +kernel)⟩
theorem lw_p40 : lw_okq (⟨"GlyphLinesModel", "isLong", "(IIJ)Z"⟩, 36) := ⟨⟨by decide +kernel, by decide +kernel⟩, List.mem_of_getElem? (i := 847) (by decide +kernel), List.mem_of_getElem? (i := 1017) (by decide +kernel), List.mem_of_getElem? (i := 1018) (by decide +kernel)⟩
theorem lw_p41 : lw_okq (⟨"GlyphLinesModel", "u16", "(III)I"⟩, 36) := ⟨⟨by decide +kernel, by decide +kernel⟩, List.mem_of_getElem? (i := 847) (by decide +kernel), List.mem_of_getElem? (i := 1023) (by decide +kernel), List.mem_of_getElem? (i := 1024) (by decide +kernel)⟩
theorem lw_p42 : lw_okq (⟨"GlyphLinesModel", "isLocaForm", "(I)Z"⟩, 36) := ⟨⟨by decide +kernel, by decide +kernel⟩, List.mem_of_getElem? (i := 847) (by decide +kernel), List.mem_of_getElem? (i := 1028) (by decide +kernel), List.mem_of_getElem? (i := 1029) (by decide +kernel)⟩
theorem lw_p43 : lw_okq (⟨"GlyphLinesModel", "locaAt", "(II)J"⟩, 36) := ⟨⟨by decide +kernel, by decide +kernel⟩, List.mem_of_getElem? (i := 847) (by decide +kernel), List.mem_of_getElem? (i := 1033) (by decide +kernel), List.mem_of_getElem? (i := 1034) (by decide +kernel)⟩
theorem lw_p44 : lw_okq (⟨"GlyphLinesModel", "isChart", "(I)Z"⟩, 36) := ⟨⟨by decide +kernel, by decide +kernel⟩, List.mem_of_getElem? (i := 847) (by decide +kernel), List.mem_of_getElem? (i := 1037) (by decide +kernel), List.mem_of_getElem? (i := 1038) (by decide +kernel)⟩
theorem lw_p45 : lw_okq (⟨"GlyphLinesModel", "isKern", "(I)Z"⟩, 36) := ⟨⟨by decide +kernel, by decide +kernel⟩, List.mem_of_getElem? (i := 847) (by decide +kernel), List.mem_of_getElem? (i := 1045) (by decide +kernel), List.mem_of_getElem? (i := 1046) (by decide +kernel)⟩
theorem lw_p46 : lw_okq (⟨"GlyphLinesModel", "isDrawn", "(I)Z"⟩, 36) := ⟨⟨by decide +kernel, by decide +kernel⟩, List.mem_of_getElem? (i := 847) (by decide +kernel), List.mem_of_getElem? (i := 1050) (by decide +kernel), List.mem_of_getElem? (i := 1051) (by decide +kernel)⟩
theorem lw_p47 : lw_okq (⟨"GlyphLinesModel", "takeGlyphs", "(II)V"⟩, 36) := ⟨⟨by decide +kernel, by decide +kernel⟩, List.mem_of_getElem? (i := 847) (by decide +kernel), List.mem_of_getElem? (i := 1054) (by decide +kernel), List.mem_of_getElem? (i := 1055) (by decide +kernel)⟩
def lw_privs_3 : List (MethodName × Nat) := [(⟨"GlyphLines$Brush", "paintCurve", "(IIIIIII)V"⟩, 10), (⟨"GlyphLines$Brush", "partCurve", "(IIIIIII)V"⟩, 10), (⟨"GlyphLinesModel", "refused", "(I)Z"⟩, 36), (⟨"GlyphLinesModel", "isFile", "(I)Z"⟩, 36), (⟨"GlyphLinesModel", "number", "(III)J"⟩, 36), (⟨"GlyphLinesModel", "isSummed", "(I)Z"⟩, 36), (⟨"GlyphLinesModel", "hasAll", "(I)Z"⟩, 36), (⟨"GlyphLinesModel", "isHeadForm", "(I)Z"⟩, 36), (⟨"GlyphLinesModel", "isLong", "(IIJ)Z"⟩, 36), (⟨"GlyphLinesModel", "u16", "(III)I"⟩, 36), (⟨"GlyphLinesModel", "isLocaForm", "(I)Z"⟩, 36), (⟨"GlyphLinesModel", "locaAt", "(II)J"⟩, 36), (⟨"GlyphLinesModel", "isChart", "(I)Z"⟩, 36), (⟨"GlyphLinesModel", "isKern", "(I)Z"⟩, 36), (⟨"GlyphLinesModel", "isDrawn", "(I)Z"⟩, 36), (⟨"GlyphLinesModel", "takeGlyphs", "(II)V"⟩, 36)]
theorem lw_r3 : ∀ q ∈ lw_privs_3, lw_okq q := List.forall_mem_cons.mpr ⟨lw_p32, List.forall_mem_cons.mpr ⟨lw_p33, List.forall_mem_cons.mpr ⟨lw_p34, List.forall_mem_cons.mpr ⟨lw_p35, List.forall_mem_cons.mpr ⟨lw_p36, List.forall_mem_cons.mpr ⟨lw_p37, List.forall_mem_cons.mpr ⟨lw_p38, List.forall_mem_cons.mpr ⟨lw_p39, List.forall_mem_cons.mpr ⟨lw_p40, List.forall_mem_cons.mpr ⟨lw_p41, List.forall_mem_cons.mpr ⟨lw_p42, List.forall_mem_cons.mpr ⟨lw_p43, List.forall_mem_cons.mpr ⟨lw_p44, List.forall_mem_cons.mpr ⟨lw_p45, List.forall_mem_cons.mpr ⟨lw_p46, List.forall_mem_cons.mpr ⟨lw_p47, fun _ h => absurd h List.not_mem_nil⟩⟩⟩⟩⟩⟩⟩⟩⟩⟩⟩⟩⟩⟩⟩⟩
theorem lw_p48 : lw_okq (⟨"GlyphLinesModel", "beginGlyph", "(II)I"⟩, 36) := ⟨⟨by decide +kernel, by decide +kernel⟩, List.mem_of_getElem? (i := 847) (by decide +kernel), List.mem_of_getElem? (i := 1058) (by decide +kernel), List.mem_of_getElem? (i := 1059) (by decide +kernel)⟩
theorem lw_p49 : lw_okq (⟨"GlyphLinesModel", "nextSigned", "(I)I"⟩, 36) := ⟨⟨by decide +kernel, by decide +kernel⟩, List.mem_of_getElem? (i := 847) (by decide +kernel), List.mem_of_getElem? (i := 1063) (by decide +kernel), List.mem_of_getElem? (i := 1064) (by decide +kernel)⟩
theorem lw_p50 : lw_okq (⟨"GlyphLinesModel", "next", "(II)I"⟩, 36) := ⟨⟨by decide +kernel, by decide +kernel⟩, List.mem_of_getElem? (i := 847) (by decide +kernel), List.mem_of_getElem? (i := 1067) (by decide +kernel), List.mem_of_getElem? (i := 1068) (by decide +kernel)⟩
theorem lw_p51 : lw_okq (⟨"GlyphLinesModel", "need", "(Z)V"⟩, 36) := ⟨⟨by decide +kernel, by decide +kernel⟩, List.mem_of_getElem? (i := 847) (by decide +kernel), List.mem_of_getElem? (i := 1071) (by decide +kernel), List.mem_of_getElem? (i := 1072) (by decide +kernel)⟩
theorem lw_p52 : lw_okq (⟨"GlyphLinesModel", "takeSimple", "(III)V"⟩, 36) := ⟨⟨by decide +kernel, by decide +kernel⟩, List.mem_of_getElem? (i := 847) (by decide +kernel), List.mem_of_getElem? (i := 1075) (by decide +kernel), List.mem_of_getElem? (i := 1076) (by decide +kernel)⟩
theorem lw_p53 : lw_okq (⟨"GlyphLinesModel", "takeFlags", "(II)V"⟩, 36) := ⟨⟨by decide +kernel, by decide +kernel⟩, List.mem_of_getElem? (i := 847) (by decide +kernel), List.mem_of_getElem? (i := 1079) (by decide +kernel), List.mem_of_getElem? (i := 1080) (by decide +kernel)⟩
theorem lw_p54 : lw_okq (⟨"GlyphLinesModel", "takeStep", "(IIII)I"⟩, 36) := ⟨⟨by decide +kernel, by decide +kernel⟩, List.mem_of_getElem? (i := 847) (by decide +kernel), List.mem_of_getElem? (i := 1083) (by decide +kernel), List.mem_of_getElem? (i := 1084) (by decide +kernel)⟩
theorem lw_p55 : lw_okq (⟨"GlyphLinesModel", "needsCoordinate", "(I)V"⟩, 36) := ⟨⟨by decide +kernel, by decide +kernel⟩, List.mem_of_getElem? (i := 847) (by decide +kernel), List.mem_of_getElem? (i := 1087) (by decide +kernel), List.mem_of_getElem? (i := 1088) (by decide +kernel)⟩
theorem lw_p56 : lw_okq (⟨"GlyphLinesModel", "takeParts", "(IIZ)I"⟩, 36) := ⟨⟨by decide +kernel, by decide +kernel⟩, List.mem_of_getElem? (i := 847) (by decide +kernel), List.mem_of_getElem? (i := 1091) (by decide +kernel), List.mem_of_getElem? (i := 1092) (by decide +kernel)⟩
theorem lw_p57 : lw_okq (⟨"GlyphLinesModel", "takePart", "(I)I"⟩, 36) := ⟨⟨by decide +kernel, by decide +kernel⟩, List.mem_of_getElem? (i := 847) (by decide +kernel), List.mem_of_getElem? (i := 1095) (by decide +kernel), List.mem_of_getElem? (i := 1096) (by decide +kernel)⟩
theorem lw_p58 : lw_okq (⟨"GlyphLinesModel", "join", "(III)V"⟩, 36) := ⟨⟨by decide +kernel, by decide +kernel⟩, List.mem_of_getElem? (i := 847) (by decide +kernel), List.mem_of_getElem? (i := 1099) (by decide +kernel), List.mem_of_getElem? (i := 1100) (by decide +kernel)⟩
theorem lw_p59 : lw_okq (⟨"GlyphLinesModel", "glyphOf", "(I)I"⟩, 36) := ⟨⟨by decide +kernel, by decide +kernel⟩, List.mem_of_getElem? (i := 847) (by decide +kernel), List.mem_of_getElem? (i := 1111) (by decide +kernel), List.mem_of_getElem? (i := 1112) (by decide +kernel)⟩
theorem lw_p60 : lw_okq (⟨"GlyphLinesModel", "isGlyph", "(I)Z"⟩, 36) := ⟨⟨by decide +kernel, by decide +kernel⟩, List.mem_of_getElem? (i := 847) (by decide +kernel), List.mem_of_getElem? (i := 1119) (by decide +kernel), List.mem_of_getElem? (i := 1120) (by decide +kernel)⟩
theorem lw_p61 : lw_okq (⟨"GlyphLinesModel", "widthOf", "(I)I"⟩, 36) := ⟨⟨by decide +kernel, by decide +kernel⟩, List.mem_of_getElem? (i := 847) (by decide +kernel), List.mem_of_getElem? (i := 1123) (by decide +kernel), List.mem_of_getElem? (i := 1124) (by decide +kernel)⟩
theorem lw_p62 : lw_okq (⟨"GlyphLinesModel", "kerningOf", "(II)I"⟩, 36) := ⟨⟨by decide +kernel, by decide +kernel⟩, List.mem_of_getElem? (i := 847) (by decide +kernel), List.mem_of_getElem? (i := 1135) (by decide +kernel), List.mem_of_getElem? (i := 1136) (by decide +kernel)⟩
theorem lw_p63 : lw_okq (⟨"GlyphLinesModel", "s16", "(III)I"⟩, 36) := ⟨⟨by decide +kernel, by decide +kernel⟩, List.mem_of_getElem? (i := 847) (by decide +kernel), List.mem_of_getElem? (i := 1139) (by decide +kernel), List.mem_of_getElem? (i := 1140) (by decide +kernel)⟩
def lw_privs_4 : List (MethodName × Nat) := [(⟨"GlyphLinesModel", "beginGlyph", "(II)I"⟩, 36), (⟨"GlyphLinesModel", "nextSigned", "(I)I"⟩, 36), (⟨"GlyphLinesModel", "next", "(II)I"⟩, 36), (⟨"GlyphLinesModel", "need", "(Z)V"⟩, 36), (⟨"GlyphLinesModel", "takeSimple", "(III)V"⟩, 36), (⟨"GlyphLinesModel", "takeFlags", "(II)V"⟩, 36), (⟨"GlyphLinesModel", "takeStep", "(IIII)I"⟩, 36), (⟨"GlyphLinesModel", "needsCoordinate", "(I)V"⟩, 36), (⟨"GlyphLinesModel", "takeParts", "(IIZ)I"⟩, 36), (⟨"GlyphLinesModel", "takePart", "(I)I"⟩, 36), (⟨"GlyphLinesModel", "join", "(III)V"⟩, 36), (⟨"GlyphLinesModel", "glyphOf", "(I)I"⟩, 36), (⟨"GlyphLinesModel", "isGlyph", "(I)Z"⟩, 36), (⟨"GlyphLinesModel", "widthOf", "(I)I"⟩, 36), (⟨"GlyphLinesModel", "kerningOf", "(II)I"⟩, 36), (⟨"GlyphLinesModel", "s16", "(III)I"⟩, 36)]
theorem lw_r4 : ∀ q ∈ lw_privs_4, lw_okq q := List.forall_mem_cons.mpr ⟨lw_p48, List.forall_mem_cons.mpr ⟨lw_p49, List.forall_mem_cons.mpr ⟨lw_p50, List.forall_mem_cons.mpr ⟨lw_p51, List.forall_mem_cons.mpr ⟨lw_p52, List.forall_mem_cons.mpr ⟨lw_p53, List.forall_mem_cons.mpr ⟨lw_p54, List.forall_mem_cons.mpr ⟨lw_p55, List.forall_mem_cons.mpr ⟨lw_p56, List.forall_mem_cons.mpr ⟨lw_p57, List.forall_mem_cons.mpr ⟨lw_p58, List.forall_mem_cons.mpr ⟨lw_p59, List.forall_mem_cons.mpr ⟨lw_p60, List.forall_mem_cons.mpr ⟨lw_p61, List.forall_mem_cons.mpr ⟨lw_p62, List.forall_mem_cons.mpr ⟨lw_p63, fun _ h => absurd h List.not_mem_nil⟩⟩⟩⟩⟩⟩⟩⟩⟩⟩⟩⟩⟩⟩⟩⟩
theorem lw_p64 : lw_okq (⟨"GlyphLinesModel", "scaled", "(II)I"⟩, 36) := ⟨⟨by decide +kernel, by decide +kernel⟩, List.mem_of_getElem? (i := 847) (by decide +kernel), List.mem_of_getElem? (i := 1155) (by decide +kernel), List.mem_of_getElem? (i := 1156) (by decide +kernel)⟩
theorem lw_p65 : lw_okq (⟨"GlyphLinesModel", "paintGlyph", "(III)V"⟩, 36) := ⟨⟨by decide +kernel, by decide +kernel⟩, List.mem_of_getElem? (i := 847) (by decide +kernel), List.mem_of_getElem? (i := 1160) (by decide +kernel), List.mem_of_getElem? (i := 1161) (by decide +kernel)⟩
theorem lw_p66 : lw_okq (⟨"GlyphLinesModel", "makeRing", "(IIII)V"⟩, 36) := ⟨⟨by decide +kernel, by decide +kernel⟩, List.mem_of_getElem? (i := 847) (by decide +kernel), List.mem_of_getElem? (i := 1164) (by decide +kernel), List.mem_of_getElem? (i := 1165) (by decide +kernel)⟩
theorem lw_p67 : lw_okq (⟨"GlyphLinesModel", "addRing", "(IIZ)V"⟩, 36) := ⟨⟨by decide +kernel, by decide +kernel⟩, List.mem_of_getElem? (i := 847) (by decide +kernel), List.mem_of_getElem? (i := 1168) (by decide +kernel), List.mem_of_getElem? (i := 1169) (by decide +kernel)⟩
theorem lw_p68 : lw_okq (⟨"GlyphLinesModel", "paintRing", "()V"⟩, 36) := ⟨⟨by decide +kernel, by decide +kernel⟩, List.mem_of_getElem? (i := 847) (by decide +kernel), List.mem_of_getElem? (i := 1175) (by decide +kernel), List.mem_of_getElem? (i := 1176) (by decide +kernel)⟩
theorem lw_p69 : lw_okq (⟨"GlyphLinesModel", "paintLine", "(IIII)V"⟩, 36) := ⟨⟨by decide +kernel, by decide +kernel⟩, List.mem_of_getElem? (i := 847) (by decide +kernel), List.mem_of_getElem? (i := 1179) (by decide +kernel), List.mem_of_getElem? (i := 1180) (by decide +kernel)⟩
theorem lw_p70 : lw_okq (⟨"GlyphLinesModel", "wait7", "(IIIIIII)V"⟩, 36) := ⟨⟨by decide +kernel, by decide +kernel⟩, List.mem_of_getElem? (i := 847) (by decide +kernel), List.mem_of_getElem? (i := 1185) (by decide +kernel), List.mem_of_getElem? (i := 1186) (by decide +kernel)⟩
theorem lw_p71 : lw_okq (⟨"GlyphLinesModel", "paintCurves", "()V"⟩, 36) := ⟨⟨by decide +kernel, by decide +kernel⟩, List.mem_of_getElem? (i := 847) (by decide +kernel), List.mem_of_getElem? (i := 1189) (by decide +kernel), List.mem_of_getElem? (i := 1190) (by decide +kernel)⟩
theorem lw_p72 : lw_okq (⟨"GlyphLinesModel", "isFlat", "(I)Z"⟩, 36) := ⟨⟨by decide +kernel, by decide +kernel⟩, List.mem_of_getElem? (i := 847) (by decide +kernel), List.mem_of_getElem? (i := 1193) (by decide +kernel), List.mem_of_getElem? (i := 1194) (by decide +kernel)⟩
def lw_privs_5 : List (MethodName × Nat) := [(⟨"GlyphLinesModel", "scaled", "(II)I"⟩, 36), (⟨"GlyphLinesModel", "paintGlyph", "(III)V"⟩, 36), (⟨"GlyphLinesModel", "makeRing", "(IIII)V"⟩, 36), (⟨"GlyphLinesModel", "addRing", "(IIZ)V"⟩, 36), (⟨"GlyphLinesModel", "paintRing", "()V"⟩, 36), (⟨"GlyphLinesModel", "paintLine", "(IIII)V"⟩, 36), (⟨"GlyphLinesModel", "wait7", "(IIIIIII)V"⟩, 36), (⟨"GlyphLinesModel", "paintCurves", "()V"⟩, 36), (⟨"GlyphLinesModel", "isFlat", "(I)Z"⟩, 36)]
theorem lw_r5 : ∀ q ∈ lw_privs_5, lw_okq q := List.forall_mem_cons.mpr ⟨lw_p64, List.forall_mem_cons.mpr ⟨lw_p65, List.forall_mem_cons.mpr ⟨lw_p66, List.forall_mem_cons.mpr ⟨lw_p67, List.forall_mem_cons.mpr ⟨lw_p68, List.forall_mem_cons.mpr ⟨lw_p69, List.forall_mem_cons.mpr ⟨lw_p70, List.forall_mem_cons.mpr ⟨lw_p71, List.forall_mem_cons.mpr ⟨lw_p72, fun _ h => absurd h List.not_mem_nil⟩⟩⟩⟩⟩⟩⟩⟩⟩
def lw_privs : List (MethodName × Nat) := lw_privs_1 ++ (lw_privs_2 ++ (lw_privs_3 ++ (lw_privs_4 ++ (lw_privs_5))))
def lw_tbl : List Cond := k2_sels lw_privs ++ tables_1
theorem lw_privs_ok : ∀ q ∈ lw_privs, lw_okq q := by
  show ∀ q ∈ lw_privs_1 ++ (lw_privs_2 ++ (lw_privs_3 ++ (lw_privs_4 ++ (lw_privs_5)))), lw_okq q
  exact List.forall_mem_append.mpr ⟨lw_r1, List.forall_mem_append.mpr ⟨lw_r2, List.forall_mem_append.mpr ⟨lw_r3, List.forall_mem_append.mpr ⟨lw_r4, lw_r5⟩⟩⟩⟩
end
section
/-! names: by program (wip/gen/names.py) out of JAVAP.txt and Statement.lean -/
def tw_T : List Cond := lw_tbl.filter goodWord
theorem tw_good {w : Cond} (h : w ∈ tw_T) : goodWord w = true := (List.mem_filter.mp h).2
theorem tw_sub {w : Cond} (h : w ∈ tw_T) : w ∈ lw_tbl := (List.mem_filter.mp h).1
theorem tw_of {w : Cond} (i : Nat) (h : tables_1[i]? = some w) (g : goodWord w = true) : w ∈ tw_T := List.mem_filter.mpr ⟨List.mem_append_right _ (List.mem_of_getElem? h), g⟩
theorem tw_in {c1 c2 : Cond} (h : c2 ∈ tw_T) : GoodIn (c1 :: tw_T) (c2 :: tw_T) := fun w hw => by
  have h1 : w ∈ tw_T := by rcases List.mem_cons.mp hw with rfl | h2 <;> assumption
  exact ⟨List.mem_cons_of_mem _ h1, good_of_word (tw_good h1)⟩
theorem tw_inL {c2 : Cond} (h : c2 ∈ tw_T) : GoodIn lw_tbl (c2 :: tw_T) := fun w hw => by
  have h1 : w ∈ tw_T := by rcases List.mem_cons.mp hw with rfl | h2 <;> assumption
  exact ⟨tw_sub h1, good_of_word (tw_good h1)⟩
theorem tw_inV {c1 c2 : Cond} {own C : String} {i : Nat} {y : MethodName} (h1 : Cond.methodLink own i y ∈ tw_T) (h2 : Cond.instanceMethod y ∈ tw_T) (h3 : Cond.selects C y y ∈ tw_T) (h4 : Cond.initialized C ∈ tw_T) (h : c2 ∈ tw_T) : GoodIn (c1 :: tw_T) (wsV own i C y (c2 :: tw_T)) := fun w hw => by
  have h9 : w ∈ tw_T := by
    simp only [wsV, List.cons_append, List.nil_append, List.mem_cons] at hw
    rcases hw with rfl | rfl | rfl | rfl | rfl | h5 <;> assumption
  exact ⟨List.mem_cons_of_mem _ h9, good_of_word (tw_good h9)⟩
theorem tw_inVL {c2 : Cond} {own C : String} {i : Nat} {y : MethodName} (h1 : Cond.methodLink own i y ∈ tw_T) (h2 : Cond.instanceMethod y ∈ tw_T) (h3 : Cond.selects C y y ∈ tw_T) (h4 : Cond.initialized C ∈ tw_T) (h : c2 ∈ tw_T) : GoodIn lw_tbl (wsV own i C y (c2 :: tw_T)) := fun w hw => ⟨tw_sub ((tw_inV (c1 := c2) h1 h2 h3 h4 h w hw).1 |> fun q => by rcases List.mem_cons.mp q with rfl | h5 <;> assumption), ((tw_inV (c1 := c2) h1 h2 h3 h4 h w hw).2)⟩
theorem tw_priv (k : Nat) (q : MethodName × Nat) (h : lw_privs[k]? = some q) (g : goodWord (Cond.selects q.1.cls q.1 q.1) = true) : Cond.selects q.1.cls q.1 q.1 ∈ tw_T := List.mem_filter.mpr ⟨List.mem_append_left _ (List.mem_map.mpr ⟨q, List.mem_of_getElem? h, rfl⟩), g⟩
abbrev R_SP : String := "GlyphLines$Span"
def F_SP : u_T := fun k => match k with
  | 0 => ("GlyphLines$Span", "cells", "[I", true)
  | 1 => ("GlyphLines$Span", "start", "I", false)
  | 2 => ("GlyphLines$Span", "size", "I", false)
  | _ => ("GlyphLines$Span", "missed", "Z", false)
def t_SP : Nat → FieldType := fun k => match k with
  | 0 => .array .int
  | 1 => .int
  | 2 => .int
  | _ => .boolean
theorem n_SP : ∀ a, a < 4 → ∀ b, b < 4 → a ≠ b → (F_SP a).2.1 ≠ (F_SP b).2.1 := by decide +kernel
theorem t_SP_ok : ∀ k, k < 4 → parseFieldDescriptor (F_SP k).2.2.1 = some (t_SP k) := by decide +kernel
abbrev R_CM : String := "GlyphLines$CharacterMap"
def F_CM : u_T := fun k => match k with
  | 0 => ("GlyphLines$CharacterMap", "cmap", "LGlyphLines$Span;", true)
  | 1 => ("GlyphLines$CharacterMap", "place", "I", false)
  | _ => ("GlyphLines$CharacterMap", "ranges", "I", false)
def t_CM : Nat → FieldType := fun k => match k with
  | 0 => .object "GlyphLines$Span"
  | 1 => .int
  | _ => .int
theorem n_CM : ∀ a, a < 3 → ∀ b, b < 3 → a ≠ b → (F_CM a).2.1 ≠ (F_CM b).2.1 := by decide +kernel
theorem t_CM_ok : ∀ k, k < 3 → parseFieldDescriptor (F_CM k).2.2.1 = some (t_CM k) := by decide +kernel
abbrev R_DI : String := "GlyphLines$Directory"
def F_DI : u_T := fun k => match k with
  | 0 => ("GlyphLines$Directory", "whole", "LGlyphLines$Span;", true)
  | 1 => ("GlyphLines$Directory", "table", "LGlyphLines$Span;", true)
  | _ => ("GlyphLines$Directory", "tables", "I", false)
def t_DI : Nat → FieldType := fun k => match k with
  | 0 => .object "GlyphLines$Span"
  | 1 => .object "GlyphLines$Span"
  | _ => .int
theorem n_DI : ∀ a, a < 3 → ∀ b, b < 3 → a ≠ b → (F_DI a).2.1 ≠ (F_DI b).2.1 := by decide +kernel
theorem t_DI_ok : ∀ k, k < 3 → parseFieldDescriptor (F_DI k).2.2.1 = some (t_DI k) := by decide +kernel
abbrev R_PA : String := "GlyphLines$Pairs"
def F_PA : u_T := fun k => match k with
  | 0 => ("GlyphLines$Pairs", "kern", "LGlyphLines$Span;", true)
  | _ => ("GlyphLines$Pairs", "pairs", "I", false)
def t_PA : Nat → FieldType := fun k => match k with
  | 0 => .object "GlyphLines$Span"
  | _ => .int
theorem n_PA : ∀ a, a < 2 → ∀ b, b < 2 → a ≠ b → (F_PA a).2.1 ≠ (F_PA b).2.1 := by decide +kernel
theorem t_PA_ok : ∀ k, k < 2 → parseFieldDescriptor (F_PA k).2.2.1 = some (t_PA k) := by decide +kernel
abbrev R_FO : String := "GlyphLines$Font"
def F_FO : u_T := fun k => match k with
  | 0 => ("GlyphLines$Font", "cells", "[I", true)
  | 1 => ("GlyphLines$Font", "directory", "LGlyphLines$Directory;", true)
  | 2 => ("GlyphLines$Font", "head", "LGlyphLines$Span;", true)
  | 3 => ("GlyphLines$Font", "maxp", "LGlyphLines$Span;", true)
  | 4 => ("GlyphLines$Font", "hhea", "LGlyphLines$Span;", true)
  | 5 => ("GlyphLines$Font", "hmtx", "LGlyphLines$Span;", true)
  | 6 => ("GlyphLines$Font", "loca", "LGlyphLines$Span;", true)
  | 7 => ("GlyphLines$Font", "glyf", "LGlyphLines$Span;", true)
  | 8 => ("GlyphLines$Font", "map", "LGlyphLines$CharacterMap;", true)
  | 9 => ("GlyphLines$Font", "pairs", "LGlyphLines$Pairs;", true)
  | 10 => ("GlyphLines$Font", "data", "[LGlyphLines$Span;", true)
  | 11 => ("GlyphLines$Font", "em", "I", false)
  | 12 => ("GlyphLines$Font", "glyphs", "I", false)
  | 13 => ("GlyphLines$Font", "widths", "I", false)
  | _ => ("GlyphLines$Font", "isLong", "Z", false)
def t_FO : Nat → FieldType := fun k => match k with
  | 0 => .array .int
  | 1 => .object "GlyphLines$Directory"
  | 2 => .object "GlyphLines$Span"
  | 3 => .object "GlyphLines$Span"
  | 4 => .object "GlyphLines$Span"
  | 5 => .object "GlyphLines$Span"
  | 6 => .object "GlyphLines$Span"
  | 7 => .object "GlyphLines$Span"
  | 8 => .object "GlyphLines$CharacterMap"
  | 9 => .object "GlyphLines$Pairs"
  | 10 => .array (.object "GlyphLines$Span")
  | 11 => .int
  | 12 => .int
  | 13 => .int
  | _ => .boolean
theorem n_FO : ∀ a, a < 15 → ∀ b, b < 15 → a ≠ b → (F_FO a).2.1 ≠ (F_FO b).2.1 := by decide +kernel
theorem t_FO_ok : ∀ k, k < 15 → parseFieldDescriptor (F_FO k).2.2.1 = some (t_FO k) := by decide +kernel
abbrev R_MO : String := "GlyphLines$Move"
def F_MO : u_T := fun k => match k with
  | 0 => ("GlyphLines$Move", "a", "I", false)
  | 1 => ("GlyphLines$Move", "b", "I", false)
  | 2 => ("GlyphLines$Move", "c", "I", false)
  | 3 => ("GlyphLines$Move", "d", "I", false)
  | 4 => ("GlyphLines$Move", "dx", "I", false)
  | _ => ("GlyphLines$Move", "dy", "I", false)
def t_MO : Nat → FieldType := fun k => match k with
  | 0 => .int
  | 1 => .int
  | 2 => .int
  | 3 => .int
  | 4 => .int
  | _ => .int
theorem n_MO : ∀ a, a < 6 → ∀ b, b < 6 → a ≠ b → (F_MO a).2.1 ≠ (F_MO b).2.1 := by decide +kernel
theorem t_MO_ok : ∀ k, k < 6 → parseFieldDescriptor (F_MO k).2.2.1 = some (t_MO k) := by decide +kernel
abbrev R_OU : String := "GlyphLines$Outline"
def F_OU : u_T := fun k => match k with
  | 0 => ("GlyphLines$Outline", "xs", "[I", true)
  | 1 => ("GlyphLines$Outline", "ys", "[I", true)
  | 2 => ("GlyphLines$Outline", "isOn", "[Z", true)
  | 3 => ("GlyphLines$Outline", "contourOf", "[I", true)
  | 4 => ("GlyphLines$Outline", "flags", "[I", true)
  | 5 => ("GlyphLines$Outline", "move", "LGlyphLines$Move;", true)
  | 6 => ("GlyphLines$Outline", "points", "I", false)
  | _ => ("GlyphLines$Outline", "contours", "I", false)
def t_OU : Nat → FieldType := fun k => match k with
  | 0 => .array .int
  | 1 => .array .int
  | 2 => .array .boolean
  | 3 => .array .int
  | 4 => .array .int
  | 5 => .object "GlyphLines$Move"
  | 6 => .int
  | _ => .int
theorem n_OU : ∀ a, a < 8 → ∀ b, b < 8 → a ≠ b → (F_OU a).2.1 ≠ (F_OU b).2.1 := by decide +kernel
theorem t_OU_ok : ∀ k, k < 8 → parseFieldDescriptor (F_OU k).2.2.1 = some (t_OU k) := by decide +kernel
abbrev R_PI : String := "GlyphLines$Picture"
def F_PI : u_T := fun k => match k with
  | 0 => ("GlyphLines$Picture", "rows", "[J", true)
  | _ => ("GlyphLines$Picture", "steps", "[I", true)
def t_PI : Nat → FieldType := fun k => match k with
  | 0 => .array .long
  | _ => .array .int
theorem n_PI : ∀ a, a < 2 → ∀ b, b < 2 → a ≠ b → (F_PI a).2.1 ≠ (F_PI b).2.1 := by decide +kernel
theorem t_PI_ok : ∀ k, k < 2 → parseFieldDescriptor (F_PI k).2.2.1 = some (t_PI k) := by decide +kernel
abbrev R_BR : String := "GlyphLines$Brush"
def F_BR : u_T := fun k => match k with
  | 0 => ("GlyphLines$Brush", "picture", "LGlyphLines$Picture;", true)
  | 1 => ("GlyphLines$Brush", "outline", "LGlyphLines$Outline;", true)
  | 2 => ("GlyphLines$Brush", "ringX", "[I", true)
  | 3 => ("GlyphLines$Brush", "ringY", "[I", true)
  | 4 => ("GlyphLines$Brush", "ringOn", "[Z", true)
  | 5 => ("GlyphLines$Brush", "ringSize", "I", false)
  | 6 => ("GlyphLines$Brush", "em", "I", false)
  | 7 => ("GlyphLines$Brush", "ppem", "I", false)
  | 8 => ("GlyphLines$Brush", "pen", "I", false)
  | _ => ("GlyphLines$Brush", "glyphBefore", "I", false)
def t_BR : Nat → FieldType := fun k => match k with
  | 0 => .object "GlyphLines$Picture"
  | 1 => .object "GlyphLines$Outline"
  | 2 => .array .int
  | 3 => .array .int
  | 4 => .array .boolean
  | 5 => .int
  | 6 => .int
  | 7 => .int
  | 8 => .int
  | _ => .int
theorem n_BR : ∀ a, a < 10 → ∀ b, b < 10 → a ≠ b → (F_BR a).2.1 ≠ (F_BR b).2.1 := by decide +kernel
theorem t_BR_ok : ∀ k, k < 10 → parseFieldDescriptor (F_BR k).2.2.1 = some (t_BR k) := by decide +kernel
abbrev R_GL : String := "GlyphLines"
def F_GL : u_T := fun k => match k with
  | 0 => ("GlyphLines", "file", "[I", true)
  | 1 => ("GlyphLines", "fileSize", "I", false)
  | 2 => ("GlyphLines", "font", "LGlyphLines$Font;", false)
  | 3 => ("GlyphLines", "spare", "LGlyphLines$Font;", false)
  | 4 => ("GlyphLines", "hasFont", "Z", false)
  | 5 => ("GlyphLines", "outline", "LGlyphLines$Outline;", true)
  | 6 => ("GlyphLines", "picture", "LGlyphLines$Picture;", true)
  | 7 => ("GlyphLines", "brush", "LGlyphLines$Brush;", true)
  | 8 => ("GlyphLines", "text", "[I", true)
  | _ => ("GlyphLines", "textSize", "I", false)
def t_GL : Nat → FieldType := fun k => match k with
  | 0 => .array .int
  | 1 => .int
  | 2 => .object "GlyphLines$Font"
  | 3 => .object "GlyphLines$Font"
  | 4 => .boolean
  | 5 => .object "GlyphLines$Outline"
  | 6 => .object "GlyphLines$Picture"
  | 7 => .object "GlyphLines$Brush"
  | 8 => .array .int
  | _ => .int
theorem n_GL : ∀ a, a < 10 → ∀ b, b < 10 → a ≠ b → (F_GL a).2.1 ≠ (F_GL b).2.1 := by decide +kernel
theorem t_GL_ok : ∀ k, k < 10 → parseFieldDescriptor (F_GL k).2.2.1 = some (t_GL k) := by decide +kernel
abbrev R_MD : String := "GlyphLinesModel"
def F_MD : u_T := fun k => match k with
  | 0 => ("GlyphLinesModel", "fault", "I", false)
  | 1 => ("GlyphLinesModel", "size", "I", false)
  | 2 => ("GlyphLinesModel", "file", "[I", true)
  | 3 => ("GlyphLinesModel", "side", "I", false)
  | 4 => ("GlyphLinesModel", "isFont", "Z", false)
  | 5 => ("GlyphLinesModel", "bytes", "[I", true)
  | 6 => ("GlyphLinesModel", "places", "[I", true)
  | 7 => ("GlyphLinesModel", "lengths", "[I", true)
  | 8 => ("GlyphLinesModel", "glyphCount", "[I", true)
  | 9 => ("GlyphLinesModel", "ems", "[I", true)
  | 10 => ("GlyphLinesModel", "wides", "[I", true)
  | 11 => ("GlyphLinesModel", "forms", "[I", true)
  | 12 => ("GlyphLinesModel", "parts", "[I", true)
  | 13 => ("GlyphLinesModel", "charts", "[I", true)
  | 14 => ("GlyphLinesModel", "pointCount", "[I", true)
  | 15 => ("GlyphLinesModel", "contourCount", "[I", true)
  | 16 => ("GlyphLinesModel", "depths", "[I", true)
  | 17 => ("GlyphLinesModel", "xs", "[I", true)
  | 18 => ("GlyphLinesModel", "ys", "[I", true)
  | 19 => ("GlyphLinesModel", "ons", "[I", true)
  | 20 => ("GlyphLinesModel", "contours", "[I", true)
  | 21 => ("GlyphLinesModel", "bad", "Z", false)
  | 22 => ("GlyphLinesModel", "at", "I", false)
  | 23 => ("GlyphLinesModel", "end", "I", false)
  | 24 => ("GlyphLinesModel", "flags", "[I", true)
  | 25 => ("GlyphLinesModel", "part", "[I", true)
  | 26 => ("GlyphLinesModel", "typed", "I", false)
  | 27 => ("GlyphLinesModel", "text", "[I", true)
  | 28 => ("GlyphLinesModel", "ring", "I", false)
  | 29 => ("GlyphLinesModel", "ringX", "[I", true)
  | 30 => ("GlyphLinesModel", "ringY", "[I", true)
  | 31 => ("GlyphLinesModel", "ringOn", "[Z", true)
  | 32 => ("GlyphLinesModel", "waiting", "I", false)
  | 33 => ("GlyphLinesModel", "curves", "[I", true)
  | 34 => ("GlyphLinesModel", "windings", "[I", true)
  | _ => ("GlyphLinesModel", "rows", "[J", true)
def t_MD : Nat → FieldType := fun k => match k with
  | 0 => .int
  | 1 => .int
  | 2 => .array .int
  | 3 => .int
  | 4 => .boolean
  | 5 => .array .int
  | 6 => .array .int
  | 7 => .array .int
  | 8 => .array .int
  | 9 => .array .int
  | 10 => .array .int
  | 11 => .array .int
  | 12 => .array .int
  | 13 => .array .int
  | 14 => .array .int
  | 15 => .array .int
  | 16 => .array .int
  | 17 => .array .int
  | 18 => .array .int
  | 19 => .array .int
  | 20 => .array .int
  | 21 => .boolean
  | 22 => .int
  | 23 => .int
  | 24 => .array .int
  | 25 => .array .int
  | 26 => .int
  | 27 => .array .int
  | 28 => .int
  | 29 => .array .int
  | 30 => .array .int
  | 31 => .array .boolean
  | 32 => .int
  | 33 => .array .int
  | 34 => .array .int
  | _ => .array .long
theorem n_MD : ∀ a, a < 36 → ∀ b, b < 36 → a ≠ b → (F_MD a).2.1 ≠ (F_MD b).2.1 := by decide +kernel
theorem t_MD_ok : ∀ k, k < 36 → parseFieldDescriptor (F_MD k).2.2.1 = some (t_MD k) := by decide +kernel
abbrev R_LW : String := "GlyphLinesLaw"
abbrev cls_ : List vw_C := [(R_SP, F_SP, 4), (R_CM, F_CM, 3), (R_DI, F_DI, 3), (R_PA, F_PA, 2), (R_FO, F_FO, 15), (R_MO, F_MO, 6), (R_OU, F_OU, 8), (R_PI, F_PI, 2), (R_BR, F_BR, 10), (R_GL, F_GL, 10), (R_MD, F_MD, 36)]
abbrev b_SP_init : ByteArray := prog_10_method_1_code
def y_SP_init : MethodName := ⟨R_SP, "<init>", "([I)V"⟩
def s_SP_init : List Cond := .code y_SP_init b_SP_init 2 none :: tw_T
abbrev b_CM_init : ByteArray := prog_3_method_1_code
def y_CM_init : MethodName := ⟨R_CM, "<init>", "([I)V"⟩
def s_CM_init : List Cond := .code y_CM_init b_CM_init 2 none :: tw_T
abbrev b_PA_init : ByteArray := prog_8_method_1_code
def y_PA_init : MethodName := ⟨R_PA, "<init>", "([I)V"⟩
def s_PA_init : List Cond := .code y_PA_init b_PA_init 2 none :: tw_T
abbrev b_DI_init : ByteArray := prog_4_method_1_code
def y_DI_init : MethodName := ⟨R_DI, "<init>", "([I)V"⟩
def s_DI_init : List Cond := .code y_DI_init b_DI_init 2 none :: tw_T
abbrev b_FO_init : ByteArray := prog_5_method_1_code
def y_FO_init : MethodName := ⟨R_FO, "<init>", "()V"⟩
def s_FO_init : List Cond := .code y_FO_init b_FO_init 1 none :: tw_T
abbrev b_MO_init : ByteArray := prog_6_method_1_code
def y_MO_init : MethodName := ⟨R_MO, "<init>", "()V"⟩
def s_MO_init : List Cond := .code y_MO_init b_MO_init 1 none :: tw_T
abbrev b_OU_init : ByteArray := prog_7_method_1_code
def y_OU_init : MethodName := ⟨R_OU, "<init>", "()V"⟩
def s_OU_init : List Cond := .code y_OU_init b_OU_init 1 none :: tw_T
abbrev b_PI_init : ByteArray := prog_9_method_1_code
def y_PI_init : MethodName := ⟨R_PI, "<init>", "()V"⟩
def s_PI_init : List Cond := .code y_PI_init b_PI_init 1 none :: tw_T
abbrev b_BR_init : ByteArray := prog_2_method_1_code
def y_BR_init : MethodName := ⟨R_BR, "<init>", "(LGlyphLines$Picture;LGlyphLines$Outline;)V"⟩
def s_BR_init : List Cond := .code y_BR_init b_BR_init 3 none :: tw_T
abbrev b_GL_init : ByteArray := prog_1_method_1_code
def y_GL_init : MethodName := ⟨R_GL, "<init>", "()V"⟩
def s_GL_init : List Cond := .code y_GL_init b_GL_init 1 none :: tw_T
abbrev b_MD_init : ByteArray := prog_12_method_1_code
def y_MD_init : MethodName := ⟨R_MD, "<init>", "()V"⟩
def s_MD_init : List Cond := .code y_MD_init b_MD_init 1 none :: tw_T
abbrev b_GL_requireFont : ByteArray := prog_1_method_15_code
def y_GL_requireFont : MethodName := ⟨R_GL, "requireFont", "()V"⟩
def s_GL_requireFont : List Cond := .code y_GL_requireFont b_GL_requireFont 1 none :: tw_T
abbrev b_GL_glyph : ByteArray := prog_1_method_7_code
def y_GL_glyph : MethodName := ⟨R_GL, "glyph", "(I)I"⟩
def s_GL_glyph : List Cond := .code y_GL_glyph b_GL_glyph 2 (some .int) :: tw_T
abbrev b_GL_measure : ByteArray := prog_1_method_8_code
def y_GL_measure : MethodName := ⟨R_GL, "measure", "(II)I"⟩
def s_GL_measure : List Cond := .code y_GL_measure b_GL_measure 3 (some .int) :: tw_T
abbrev b_GL_point : ByteArray := prog_1_method_9_code
def y_GL_point : MethodName := ⟨R_GL, "point", "(III)I"⟩
def s_GL_point : List Cond := .code y_GL_point b_GL_point 4 (some .int) :: tw_T
abbrev b_GL_kerning : ByteArray := prog_1_method_10_code
def y_GL_kerning : MethodName := ⟨R_GL, "kerning", "(II)I"⟩
def s_GL_kerning : List Cond := .code y_GL_kerning b_GL_kerning 3 (some .int) :: tw_T
abbrev b_GL_paint : ByteArray := prog_1_method_13_code
def y_GL_paint : MethodName := ⟨R_GL, "paint", "(I)I"⟩
def s_GL_paint : List Cond := .code y_GL_paint b_GL_paint 3 (some .int) :: tw_T
abbrev b_GL_put : ByteArray := prog_1_method_3_code
def y_GL_put : MethodName := ⟨R_GL, "put", "(II)I"⟩
def s_GL_put : List Cond := .code y_GL_put b_GL_put 4 (some .int) :: tw_T
abbrev b_GL_cut : ByteArray := prog_1_method_5_code
def y_GL_cut : MethodName := ⟨R_GL, "cut", "(I)I"⟩
def s_GL_cut : List Cond := .code y_GL_cut b_GL_cut 4 (some .int) :: tw_T
abbrev b_GL_row : ByteArray := prog_1_method_14_code
def y_GL_row : MethodName := ⟨R_GL, "row", "(I)J"⟩
def s_GL_row : List Cond := .code y_GL_row b_GL_row 2 (some .long) :: tw_T
abbrev b_GL_feed : ByteArray := prog_1_method_2_code
def y_GL_feed : MethodName := ⟨R_GL, "feed", "(I)I"⟩
def s_GL_feed : List Cond := .code y_GL_feed b_GL_feed 3 (some .int) :: tw_T
abbrev b_GL_at : ByteArray := prog_1_method_4_code
def y_GL_at : MethodName := ⟨R_GL, "at", "(I)I"⟩
def s_GL_at : List Cond := .code y_GL_at b_GL_at 2 (some .int) :: tw_T
abbrev b_GL_wipe : ByteArray := prog_1_method_12_code
def y_GL_wipe : MethodName := ⟨R_GL, "wipe", "()I"⟩
def s_GL_wipe : List Cond := .code y_GL_wipe b_GL_wipe 2 (some .int) :: tw_T
abbrev b_GL_isCharacter : ByteArray := prog_1_method_17_code
def y_GL_isCharacter : MethodName := ⟨R_GL, "isCharacter", "(I)Z"⟩
def s_GL_isCharacter : List Cond := .code y_GL_isCharacter b_GL_isCharacter 1 (some .boolean) :: tw_T
abbrev b_GL_type : ByteArray := prog_1_method_11_code
def y_GL_type : MethodName := ⟨R_GL, "type", "(I)Z"⟩
def s_GL_type : List Cond := .code y_GL_type b_GL_type 2 (some .boolean) :: tw_T
abbrev b_SP_lay : ByteArray := prog_10_method_2_code
def y_SP_lay : MethodName := ⟨R_SP, "lay", "(II)V"⟩
def s_SP_lay : List Cond := .code y_SP_lay b_SP_lay 3 none :: tw_T
abbrev b_SP_u16 : ByteArray := prog_10_method_5_code
def y_SP_u16 : MethodName := ⟨R_SP, "u16", "(I)I"⟩
def s_SP_u16 : List Cond := .code y_SP_u16 b_SP_u16 2 (some .int) :: tw_T
abbrev b_SP_u32 : ByteArray := prog_10_method_6_code
def y_SP_u32 : MethodName := ⟨R_SP, "u32", "(I)J"⟩
def s_SP_u32 : List Cond := .code y_SP_u32 b_SP_u32 6 (some .long) :: tw_T
abbrev b_DI_isRight : ByteArray := prog_4_method_2_code
def y_DI_isRight : MethodName := ⟨R_DI, "isRight", "(I)Z"⟩
def s_DI_isRight : List Cond := .code y_DI_isRight b_DI_isRight 7 (some .boolean) :: tw_T
abbrev b_FO_loadFrom : ByteArray := prog_5_method_2_code
def y_FO_loadFrom : MethodName := ⟨R_FO, "loadFrom", "([IIZLGlyphLines$Outline;)I"⟩
def s_FO_loadFrom : List Cond := .code y_FO_loadFrom b_FO_loadFrom 6 (some .int) :: tw_T
abbrev b_GL_load : ByteArray := prog_1_method_6_code
def y_GL_load : MethodName := ⟨R_GL, "load", "(Z)I"⟩
def s_GL_load : List Cond := .code y_GL_load b_GL_load 4 (some .int) :: tw_T
theorem w_1 : (Jvm.Cond.initialized "GlyphLines") ∈ tw_T := tw_of 1 (by decide +kernel) (by decide +kernel)
theorem w_2 : (Jvm.Cond.initialized "GlyphLines$Font") ∈ tw_T := tw_of 2 (by decide +kernel) (by decide +kernel)
theorem w_3 : (Jvm.Cond.initialized "GlyphLines$Directory") ∈ tw_T := tw_of 3 (by decide +kernel) (by decide +kernel)
theorem w_4 : (Jvm.Cond.initialized "GlyphLines$Span") ∈ tw_T := tw_of 4 (by decide +kernel) (by decide +kernel)
theorem w_5 : (Jvm.Cond.initialized "GlyphLines$CharacterMap") ∈ tw_T := tw_of 5 (by decide +kernel) (by decide +kernel)
theorem w_6 : (Jvm.Cond.initialized "GlyphLines$Pairs") ∈ tw_T := tw_of 6 (by decide +kernel) (by decide +kernel)
theorem w_7 : (Jvm.Cond.initialized "GlyphLines$Outline") ∈ tw_T := tw_of 7 (by decide +kernel) (by decide +kernel)
theorem w_8 : (Jvm.Cond.initialized "GlyphLines$Move") ∈ tw_T := tw_of 8 (by decide +kernel) (by decide +kernel)
theorem w_9 : (Jvm.Cond.initialized "GlyphLines$Picture") ∈ tw_T := tw_of 9 (by decide +kernel) (by decide +kernel)
theorem w_10 : (Jvm.Cond.initialized "GlyphLines$Brush") ∈ tw_T := tw_of 10 (by decide +kernel) (by decide +kernel)
theorem w_15 : (Jvm.Cond.initialized "java/lang/IndexOutOfBoundsException") ∈ tw_T := tw_of 15 (by decide +kernel) (by decide +kernel)
theorem w_16 : (Jvm.Cond.initialized "java/lang/IllegalArgumentException") ∈ tw_T := tw_of 16 (by decide +kernel) (by decide +kernel)
theorem w_17 : (Jvm.Cond.initialized "java/lang/Math") ∈ tw_T := tw_of 17 (by decide +kernel) (by decide +kernel)
theorem w_18 : (Jvm.Cond.initialized "java/lang/System") ∈ tw_T := tw_of 18 (by decide +kernel) (by decide +kernel)
theorem w_20 : (Jvm.Cond.initialized "java/lang/IllegalStateException") ∈ tw_T := tw_of 20 (by decide +kernel) (by decide +kernel)
theorem w_26 : (Jvm.Cond.code ({ cls := "GlyphLines", name := "<init>", desc := "()V" } : Jvm.MethodName) prog_1_method_1_code (1 : Nat) (Option.none : Option Jvm.ClassFile.FieldType)) ∈ tw_T := tw_of 26 (by decide +kernel) (by decide +kernel)
theorem w_27 : (Jvm.Cond.methodLink "GlyphLines" (1 : Nat) ({ cls := "java/lang/Object", name := "<init>", desc := "()V" } : Jvm.MethodName)) ∈ tw_T := tw_of 27 (by decide +kernel) (by decide +kernel)
theorem w_28 : (Jvm.Cond.instanceMethod ({ cls := "java/lang/Object", name := "<init>", desc := "()V" } : Jvm.MethodName)) ∈ tw_T := tw_of 28 (by decide +kernel) (by decide +kernel)
theorem w_29 : (Jvm.Cond.code ({ cls := "java/lang/Object", name := "<init>", desc := "()V" } : Jvm.MethodName) object_method_1_code (1 : Nat) (Option.none : Option Jvm.ClassFile.FieldType)) ∈ tw_T := tw_of 29 (by decide +kernel) (by decide +kernel)
theorem w_30 : (Jvm.Cond.classLink "GlyphLines" (17 : Nat) "GlyphLines$Font") ∈ tw_T := tw_of 30 (by decide +kernel) (by decide +kernel)
theorem w_31 : (Jvm.Cond.instantiable "GlyphLines$Font" (15 : Nat)) ∈ tw_T := tw_of 31 (by decide +kernel) (by decide +kernel)
theorem w_32 : (Jvm.Cond.methodLink "GlyphLines" (19 : Nat) ({ cls := "GlyphLines$Font", name := "<init>", desc := "()V" } : Jvm.MethodName)) ∈ tw_T := tw_of 32 (by decide +kernel) (by decide +kernel)
theorem w_33 : (Jvm.Cond.instanceMethod ({ cls := "GlyphLines$Font", name := "<init>", desc := "()V" } : Jvm.MethodName)) ∈ tw_T := tw_of 33 (by decide +kernel) (by decide +kernel)
theorem w_34 : (Jvm.Cond.code ({ cls := "GlyphLines$Font", name := "<init>", desc := "()V" } : Jvm.MethodName) prog_5_method_1_code (1 : Nat) (Option.none : Option Jvm.ClassFile.FieldType)) ∈ tw_T := tw_of 34 (by decide +kernel) (by decide +kernel)
theorem w_35 : (Jvm.Cond.methodLink "GlyphLines$Font" (3 : Nat) ({ cls := "java/lang/Object", name := "<init>", desc := "()V" } : Jvm.MethodName)) ∈ tw_T := tw_of 35 (by decide +kernel) (by decide +kernel)
theorem w_36 : (Jvm.Cond.classLink "GlyphLines$Font" (15 : Nat) "GlyphLines$Directory") ∈ tw_T := tw_of 36 (by decide +kernel) (by decide +kernel)
theorem w_37 : (Jvm.Cond.instantiable "GlyphLines$Directory" (3 : Nat)) ∈ tw_T := tw_of 37 (by decide +kernel) (by decide +kernel)
theorem w_38 : (Jvm.Cond.methodLink "GlyphLines$Font" (17 : Nat) ({ cls := "GlyphLines$Directory", name := "<init>", desc := "([I)V" } : Jvm.MethodName)) ∈ tw_T := tw_of 38 (by decide +kernel) (by decide +kernel)
theorem w_39 : (Jvm.Cond.instanceMethod ({ cls := "GlyphLines$Directory", name := "<init>", desc := "([I)V" } : Jvm.MethodName)) ∈ tw_T := tw_of 39 (by decide +kernel) (by decide +kernel)
theorem w_40 : (Jvm.Cond.code ({ cls := "GlyphLines$Directory", name := "<init>", desc := "([I)V" } : Jvm.MethodName) prog_4_method_1_code (2 : Nat) (Option.none : Option Jvm.ClassFile.FieldType)) ∈ tw_T := tw_of 40 (by decide +kernel) (by decide +kernel)
theorem w_41 : (Jvm.Cond.methodLink "GlyphLines$Directory" (1 : Nat) ({ cls := "java/lang/Object", name := "<init>", desc := "()V" } : Jvm.MethodName)) ∈ tw_T := tw_of 41 (by decide +kernel) (by decide +kernel)
theorem w_42 : (Jvm.Cond.classLink "GlyphLines$Directory" (13 : Nat) "GlyphLines$Span") ∈ tw_T := tw_of 42 (by decide +kernel) (by decide +kernel)
theorem w_43 : (Jvm.Cond.instantiable "GlyphLines$Span" (4 : Nat)) ∈ tw_T := tw_of 43 (by decide +kernel) (by decide +kernel)
theorem w_44 : (Jvm.Cond.methodLink "GlyphLines$Directory" (15 : Nat) ({ cls := "GlyphLines$Span", name := "<init>", desc := "([I)V" } : Jvm.MethodName)) ∈ tw_T := tw_of 44 (by decide +kernel) (by decide +kernel)
theorem w_45 : (Jvm.Cond.instanceMethod ({ cls := "GlyphLines$Span", name := "<init>", desc := "([I)V" } : Jvm.MethodName)) ∈ tw_T := tw_of 45 (by decide +kernel) (by decide +kernel)
theorem w_46 : (Jvm.Cond.code ({ cls := "GlyphLines$Span", name := "<init>", desc := "([I)V" } : Jvm.MethodName) prog_10_method_1_code (2 : Nat) (Option.none : Option Jvm.ClassFile.FieldType)) ∈ tw_T := tw_of 46 (by decide +kernel) (by decide +kernel)
theorem w_47 : (Jvm.Cond.methodLink "GlyphLines$Span" (1 : Nat) ({ cls := "java/lang/Object", name := "<init>", desc := "()V" } : Jvm.MethodName)) ∈ tw_T := tw_of 47 (by decide +kernel) (by decide +kernel)
theorem w_48 : (Jvm.Cond.fieldLink "GlyphLines$Span" (20 : Nat) "GlyphLines$Span" "cells" "[I") ∈ tw_T := tw_of 48 (by decide +kernel) (by decide +kernel)
theorem w_49 : (Jvm.Cond.fieldLink "GlyphLines$Span" (7 : Nat) "GlyphLines$Span" "start" "I") ∈ tw_T := tw_of 49 (by decide +kernel) (by decide +kernel)
theorem w_51 : (Jvm.Cond.fieldLink "GlyphLines$Span" (13 : Nat) "GlyphLines$Span" "size" "I") ∈ tw_T := tw_of 51 (by decide +kernel) (by decide +kernel)
theorem w_55 : (Jvm.Cond.fieldLink "GlyphLines$Span" (16 : Nat) "GlyphLines$Span" "missed" "Z") ∈ tw_T := tw_of 55 (by decide +kernel) (by decide +kernel)
theorem w_59 : (Jvm.Cond.laysFinal "GlyphLines$Span" "GlyphLines$Span" "cells" "[I") ∈ tw_T := tw_of 59 (by decide +kernel) (by decide +kernel)
theorem w_61 : (Jvm.Cond.lays "GlyphLines$Span" "GlyphLines$Span" "start" "I") ∈ tw_T := tw_of 61 (by decide +kernel) (by decide +kernel)
theorem w_63 : (Jvm.Cond.lays "GlyphLines$Span" "GlyphLines$Span" "size" "I") ∈ tw_T := tw_of 63 (by decide +kernel) (by decide +kernel)
theorem w_65 : (Jvm.Cond.lays "GlyphLines$Span" "GlyphLines$Span" "missed" "Z") ∈ tw_T := tw_of 65 (by decide +kernel) (by decide +kernel)
theorem w_68 : (Jvm.Cond.arrayClass Jvm.ClassFile.FieldType.int) ∈ tw_T := tw_of 68 (by decide +kernel) (by decide +kernel)
theorem w_69 : (Jvm.Cond.fieldLink "GlyphLines$Directory" (18 : Nat) "GlyphLines$Directory" "whole" "LGlyphLines$Span;") ∈ tw_T := tw_of 69 (by decide +kernel) (by decide +kernel)
theorem w_70 : (Jvm.Cond.fieldLink "GlyphLines$Directory" (22 : Nat) "GlyphLines$Directory" "table" "LGlyphLines$Span;") ∈ tw_T := tw_of 70 (by decide +kernel) (by decide +kernel)
theorem w_71 : (Jvm.Cond.fieldLink "GlyphLines$Directory" (7 : Nat) "GlyphLines$Directory" "tables" "I") ∈ tw_T := tw_of 71 (by decide +kernel) (by decide +kernel)
theorem w_72 : (Jvm.Cond.laysFinal "GlyphLines$Directory" "GlyphLines$Directory" "whole" "LGlyphLines$Span;") ∈ tw_T := tw_of 72 (by decide +kernel) (by decide +kernel)
theorem w_74 : (Jvm.Cond.laysFinal "GlyphLines$Directory" "GlyphLines$Directory" "table" "LGlyphLines$Span;") ∈ tw_T := tw_of 74 (by decide +kernel) (by decide +kernel)
theorem w_76 : (Jvm.Cond.lays "GlyphLines$Directory" "GlyphLines$Directory" "tables" "I") ∈ tw_T := tw_of 76 (by decide +kernel) (by decide +kernel)
theorem w_79 : (Jvm.Cond.classLink "GlyphLines$Font" (24 : Nat) "GlyphLines$Span") ∈ tw_T := tw_of 79 (by decide +kernel) (by decide +kernel)
theorem w_80 : (Jvm.Cond.methodLink "GlyphLines$Font" (26 : Nat) ({ cls := "GlyphLines$Span", name := "<init>", desc := "([I)V" } : Jvm.MethodName)) ∈ tw_T := tw_of 80 (by decide +kernel) (by decide +kernel)
theorem w_81 : (Jvm.Cond.classLink "GlyphLines$Font" (46 : Nat) "GlyphLines$CharacterMap") ∈ tw_T := tw_of 81 (by decide +kernel) (by decide +kernel)
theorem w_82 : (Jvm.Cond.instantiable "GlyphLines$CharacterMap" (3 : Nat)) ∈ tw_T := tw_of 82 (by decide +kernel) (by decide +kernel)
theorem w_83 : (Jvm.Cond.methodLink "GlyphLines$Font" (48 : Nat) ({ cls := "GlyphLines$CharacterMap", name := "<init>", desc := "([I)V" } : Jvm.MethodName)) ∈ tw_T := tw_of 83 (by decide +kernel) (by decide +kernel)
theorem w_84 : (Jvm.Cond.instanceMethod ({ cls := "GlyphLines$CharacterMap", name := "<init>", desc := "([I)V" } : Jvm.MethodName)) ∈ tw_T := tw_of 84 (by decide +kernel) (by decide +kernel)
theorem w_85 : (Jvm.Cond.code ({ cls := "GlyphLines$CharacterMap", name := "<init>", desc := "([I)V" } : Jvm.MethodName) prog_3_method_1_code (2 : Nat) (Option.none : Option Jvm.ClassFile.FieldType)) ∈ tw_T := tw_of 85 (by decide +kernel) (by decide +kernel)
theorem w_86 : (Jvm.Cond.methodLink "GlyphLines$CharacterMap" (3 : Nat) ({ cls := "java/lang/Object", name := "<init>", desc := "()V" } : Jvm.MethodName)) ∈ tw_T := tw_of 86 (by decide +kernel) (by decide +kernel)
theorem w_87 : (Jvm.Cond.classLink "GlyphLines$CharacterMap" (18 : Nat) "GlyphLines$Span") ∈ tw_T := tw_of 87 (by decide +kernel) (by decide +kernel)
theorem w_88 : (Jvm.Cond.methodLink "GlyphLines$CharacterMap" (20 : Nat) ({ cls := "GlyphLines$Span", name := "<init>", desc := "([I)V" } : Jvm.MethodName)) ∈ tw_T := tw_of 88 (by decide +kernel) (by decide +kernel)
theorem w_89 : (Jvm.Cond.fieldLink "GlyphLines$CharacterMap" (23 : Nat) "GlyphLines$CharacterMap" "cmap" "LGlyphLines$Span;") ∈ tw_T := tw_of 89 (by decide +kernel) (by decide +kernel)
theorem w_91 : (Jvm.Cond.fieldLink "GlyphLines$CharacterMap" (9 : Nat) "GlyphLines$CharacterMap" "place" "I") ∈ tw_T := tw_of 91 (by decide +kernel) (by decide +kernel)
theorem w_92 : (Jvm.Cond.fieldLink "GlyphLines$CharacterMap" (15 : Nat) "GlyphLines$CharacterMap" "ranges" "I") ∈ tw_T := tw_of 92 (by decide +kernel) (by decide +kernel)
theorem w_93 : (Jvm.Cond.laysFinal "GlyphLines$CharacterMap" "GlyphLines$CharacterMap" "cmap" "LGlyphLines$Span;") ∈ tw_T := tw_of 93 (by decide +kernel) (by decide +kernel)
theorem w_95 : (Jvm.Cond.lays "GlyphLines$CharacterMap" "GlyphLines$CharacterMap" "place" "I") ∈ tw_T := tw_of 95 (by decide +kernel) (by decide +kernel)
theorem w_97 : (Jvm.Cond.lays "GlyphLines$CharacterMap" "GlyphLines$CharacterMap" "ranges" "I") ∈ tw_T := tw_of 97 (by decide +kernel) (by decide +kernel)
theorem w_100 : (Jvm.Cond.classLink "GlyphLines$Font" (53 : Nat) "GlyphLines$Pairs") ∈ tw_T := tw_of 100 (by decide +kernel) (by decide +kernel)
theorem w_101 : (Jvm.Cond.instantiable "GlyphLines$Pairs" (2 : Nat)) ∈ tw_T := tw_of 101 (by decide +kernel) (by decide +kernel)
theorem w_102 : (Jvm.Cond.methodLink "GlyphLines$Font" (55 : Nat) ({ cls := "GlyphLines$Pairs", name := "<init>", desc := "([I)V" } : Jvm.MethodName)) ∈ tw_T := tw_of 102 (by decide +kernel) (by decide +kernel)
theorem w_103 : (Jvm.Cond.instanceMethod ({ cls := "GlyphLines$Pairs", name := "<init>", desc := "([I)V" } : Jvm.MethodName)) ∈ tw_T := tw_of 103 (by decide +kernel) (by decide +kernel)
theorem w_104 : (Jvm.Cond.code ({ cls := "GlyphLines$Pairs", name := "<init>", desc := "([I)V" } : Jvm.MethodName) prog_8_method_1_code (2 : Nat) (Option.none : Option Jvm.ClassFile.FieldType)) ∈ tw_T := tw_of 104 (by decide +kernel) (by decide +kernel)
theorem w_105 : (Jvm.Cond.methodLink "GlyphLines$Pairs" (1 : Nat) ({ cls := "java/lang/Object", name := "<init>", desc := "()V" } : Jvm.MethodName)) ∈ tw_T := tw_of 105 (by decide +kernel) (by decide +kernel)
theorem w_106 : (Jvm.Cond.classLink "GlyphLines$Pairs" (13 : Nat) "GlyphLines$Span") ∈ tw_T := tw_of 106 (by decide +kernel) (by decide +kernel)
theorem w_107 : (Jvm.Cond.methodLink "GlyphLines$Pairs" (15 : Nat) ({ cls := "GlyphLines$Span", name := "<init>", desc := "([I)V" } : Jvm.MethodName)) ∈ tw_T := tw_of 107 (by decide +kernel) (by decide +kernel)
theorem w_108 : (Jvm.Cond.fieldLink "GlyphLines$Pairs" (18 : Nat) "GlyphLines$Pairs" "kern" "LGlyphLines$Span;") ∈ tw_T := tw_of 108 (by decide +kernel) (by decide +kernel)
theorem w_110 : (Jvm.Cond.fieldLink "GlyphLines$Pairs" (7 : Nat) "GlyphLines$Pairs" "pairs" "I") ∈ tw_T := tw_of 110 (by decide +kernel) (by decide +kernel)
theorem w_111 : (Jvm.Cond.laysFinal "GlyphLines$Pairs" "GlyphLines$Pairs" "kern" "LGlyphLines$Span;") ∈ tw_T := tw_of 111 (by decide +kernel) (by decide +kernel)
theorem w_113 : (Jvm.Cond.lays "GlyphLines$Pairs" "GlyphLines$Pairs" "pairs" "I") ∈ tw_T := tw_of 113 (by decide +kernel) (by decide +kernel)
theorem w_117 : (Jvm.Cond.fieldLink "GlyphLines$Font" (9 : Nat) "GlyphLines$Font" "cells" "[I") ∈ tw_T := tw_of 117 (by decide +kernel) (by decide +kernel)
theorem w_118 : (Jvm.Cond.fieldLink "GlyphLines$Font" (20 : Nat) "GlyphLines$Font" "directory" "LGlyphLines$Directory;") ∈ tw_T := tw_of 118 (by decide +kernel) (by decide +kernel)
theorem w_119 : (Jvm.Cond.fieldLink "GlyphLines$Font" (27 : Nat) "GlyphLines$Font" "head" "LGlyphLines$Span;") ∈ tw_T := tw_of 119 (by decide +kernel) (by decide +kernel)
theorem w_120 : (Jvm.Cond.fieldLink "GlyphLines$Font" (31 : Nat) "GlyphLines$Font" "maxp" "LGlyphLines$Span;") ∈ tw_T := tw_of 120 (by decide +kernel) (by decide +kernel)
theorem w_121 : (Jvm.Cond.fieldLink "GlyphLines$Font" (34 : Nat) "GlyphLines$Font" "hhea" "LGlyphLines$Span;") ∈ tw_T := tw_of 121 (by decide +kernel) (by decide +kernel)
theorem w_122 : (Jvm.Cond.fieldLink "GlyphLines$Font" (37 : Nat) "GlyphLines$Font" "hmtx" "LGlyphLines$Span;") ∈ tw_T := tw_of 122 (by decide +kernel) (by decide +kernel)
theorem w_123 : (Jvm.Cond.fieldLink "GlyphLines$Font" (40 : Nat) "GlyphLines$Font" "loca" "LGlyphLines$Span;") ∈ tw_T := tw_of 123 (by decide +kernel) (by decide +kernel)
theorem w_124 : (Jvm.Cond.fieldLink "GlyphLines$Font" (43 : Nat) "GlyphLines$Font" "glyf" "LGlyphLines$Span;") ∈ tw_T := tw_of 124 (by decide +kernel) (by decide +kernel)
theorem w_125 : (Jvm.Cond.fieldLink "GlyphLines$Font" (49 : Nat) "GlyphLines$Font" "map" "LGlyphLines$CharacterMap;") ∈ tw_T := tw_of 125 (by decide +kernel) (by decide +kernel)
theorem w_126 : (Jvm.Cond.fieldLink "GlyphLines$Font" (56 : Nat) "GlyphLines$Font" "pairs" "LGlyphLines$Pairs;") ∈ tw_T := tw_of 126 (by decide +kernel) (by decide +kernel)
theorem w_127 : (Jvm.Cond.fieldLink "GlyphLines$Font" (60 : Nat) "GlyphLines$Font" "data" "[LGlyphLines$Span;") ∈ tw_T := tw_of 127 (by decide +kernel) (by decide +kernel)
theorem w_128 : (Jvm.Cond.fieldLink "GlyphLines$Font" (64 : Nat) "GlyphLines$Font" "em" "I") ∈ tw_T := tw_of 128 (by decide +kernel) (by decide +kernel)
theorem w_130 : (Jvm.Cond.fieldLink "GlyphLines$Font" (68 : Nat) "GlyphLines$Font" "glyphs" "I") ∈ tw_T := tw_of 130 (by decide +kernel) (by decide +kernel)
theorem w_133 : (Jvm.Cond.fieldLink "GlyphLines$Font" (71 : Nat) "GlyphLines$Font" "widths" "I") ∈ tw_T := tw_of 133 (by decide +kernel) (by decide +kernel)
theorem w_134 : (Jvm.Cond.fieldLink "GlyphLines$Font" (74 : Nat) "GlyphLines$Font" "isLong" "Z") ∈ tw_T := tw_of 134 (by decide +kernel) (by decide +kernel)
theorem w_135 : (Jvm.Cond.laysFinal "GlyphLines$Font" "GlyphLines$Font" "cells" "[I") ∈ tw_T := tw_of 135 (by decide +kernel) (by decide +kernel)
theorem w_137 : (Jvm.Cond.laysFinal "GlyphLines$Font" "GlyphLines$Font" "directory" "LGlyphLines$Directory;") ∈ tw_T := tw_of 137 (by decide +kernel) (by decide +kernel)
theorem w_139 : (Jvm.Cond.laysFinal "GlyphLines$Font" "GlyphLines$Font" "head" "LGlyphLines$Span;") ∈ tw_T := tw_of 139 (by decide +kernel) (by decide +kernel)
theorem w_141 : (Jvm.Cond.laysFinal "GlyphLines$Font" "GlyphLines$Font" "maxp" "LGlyphLines$Span;") ∈ tw_T := tw_of 141 (by decide +kernel) (by decide +kernel)
theorem w_143 : (Jvm.Cond.laysFinal "GlyphLines$Font" "GlyphLines$Font" "hhea" "LGlyphLines$Span;") ∈ tw_T := tw_of 143 (by decide +kernel) (by decide +kernel)
theorem w_145 : (Jvm.Cond.laysFinal "GlyphLines$Font" "GlyphLines$Font" "hmtx" "LGlyphLines$Span;") ∈ tw_T := tw_of 145 (by decide +kernel) (by decide +kernel)
theorem w_147 : (Jvm.Cond.laysFinal "GlyphLines$Font" "GlyphLines$Font" "loca" "LGlyphLines$Span;") ∈ tw_T := tw_of 147 (by decide +kernel) (by decide +kernel)
theorem w_149 : (Jvm.Cond.laysFinal "GlyphLines$Font" "GlyphLines$Font" "glyf" "LGlyphLines$Span;") ∈ tw_T := tw_of 149 (by decide +kernel) (by decide +kernel)
theorem w_151 : (Jvm.Cond.laysFinal "GlyphLines$Font" "GlyphLines$Font" "map" "LGlyphLines$CharacterMap;") ∈ tw_T := tw_of 151 (by decide +kernel) (by decide +kernel)
theorem w_153 : (Jvm.Cond.laysFinal "GlyphLines$Font" "GlyphLines$Font" "pairs" "LGlyphLines$Pairs;") ∈ tw_T := tw_of 153 (by decide +kernel) (by decide +kernel)
theorem w_155 : (Jvm.Cond.laysFinal "GlyphLines$Font" "GlyphLines$Font" "data" "[LGlyphLines$Span;") ∈ tw_T := tw_of 155 (by decide +kernel) (by decide +kernel)
theorem w_157 : (Jvm.Cond.lays "GlyphLines$Font" "GlyphLines$Font" "em" "I") ∈ tw_T := tw_of 157 (by decide +kernel) (by decide +kernel)
theorem w_159 : (Jvm.Cond.lays "GlyphLines$Font" "GlyphLines$Font" "glyphs" "I") ∈ tw_T := tw_of 159 (by decide +kernel) (by decide +kernel)
theorem w_161 : (Jvm.Cond.lays "GlyphLines$Font" "GlyphLines$Font" "widths" "I") ∈ tw_T := tw_of 161 (by decide +kernel) (by decide +kernel)
theorem w_163 : (Jvm.Cond.lays "GlyphLines$Font" "GlyphLines$Font" "isLong" "Z") ∈ tw_T := tw_of 163 (by decide +kernel) (by decide +kernel)
theorem w_166 : (Jvm.Cond.classLink "GlyphLines" (31 : Nat) "GlyphLines$Outline") ∈ tw_T := tw_of 166 (by decide +kernel) (by decide +kernel)
theorem w_167 : (Jvm.Cond.instantiable "GlyphLines$Outline" (8 : Nat)) ∈ tw_T := tw_of 167 (by decide +kernel) (by decide +kernel)
theorem w_168 : (Jvm.Cond.methodLink "GlyphLines" (33 : Nat) ({ cls := "GlyphLines$Outline", name := "<init>", desc := "()V" } : Jvm.MethodName)) ∈ tw_T := tw_of 168 (by decide +kernel) (by decide +kernel)
theorem w_169 : (Jvm.Cond.instanceMethod ({ cls := "GlyphLines$Outline", name := "<init>", desc := "()V" } : Jvm.MethodName)) ∈ tw_T := tw_of 169 (by decide +kernel) (by decide +kernel)
theorem w_170 : (Jvm.Cond.code ({ cls := "GlyphLines$Outline", name := "<init>", desc := "()V" } : Jvm.MethodName) prog_7_method_1_code (1 : Nat) (Option.none : Option Jvm.ClassFile.FieldType)) ∈ tw_T := tw_of 170 (by decide +kernel) (by decide +kernel)
theorem w_171 : (Jvm.Cond.methodLink "GlyphLines$Outline" (1 : Nat) ({ cls := "java/lang/Object", name := "<init>", desc := "()V" } : Jvm.MethodName)) ∈ tw_T := tw_of 171 (by decide +kernel) (by decide +kernel)
theorem w_172 : (Jvm.Cond.classLink "GlyphLines$Outline" (26 : Nat) "GlyphLines$Move") ∈ tw_T := tw_of 172 (by decide +kernel) (by decide +kernel)
theorem w_173 : (Jvm.Cond.instantiable "GlyphLines$Move" (6 : Nat)) ∈ tw_T := tw_of 173 (by decide +kernel) (by decide +kernel)
theorem w_174 : (Jvm.Cond.methodLink "GlyphLines$Outline" (28 : Nat) ({ cls := "GlyphLines$Move", name := "<init>", desc := "()V" } : Jvm.MethodName)) ∈ tw_T := tw_of 174 (by decide +kernel) (by decide +kernel)
theorem w_175 : (Jvm.Cond.instanceMethod ({ cls := "GlyphLines$Move", name := "<init>", desc := "()V" } : Jvm.MethodName)) ∈ tw_T := tw_of 175 (by decide +kernel) (by decide +kernel)
theorem w_176 : (Jvm.Cond.code ({ cls := "GlyphLines$Move", name := "<init>", desc := "()V" } : Jvm.MethodName) prog_6_method_1_code (1 : Nat) (Option.none : Option Jvm.ClassFile.FieldType)) ∈ tw_T := tw_of 176 (by decide +kernel) (by decide +kernel)
theorem w_177 : (Jvm.Cond.methodLink "GlyphLines$Move" (1 : Nat) ({ cls := "java/lang/Object", name := "<init>", desc := "()V" } : Jvm.MethodName)) ∈ tw_T := tw_of 177 (by decide +kernel) (by decide +kernel)
theorem w_178 : (Jvm.Cond.fieldLink "GlyphLines$Move" (7 : Nat) "GlyphLines$Move" "a" "I") ∈ tw_T := tw_of 178 (by decide +kernel) (by decide +kernel)
theorem w_179 : (Jvm.Cond.fieldLink "GlyphLines$Move" (13 : Nat) "GlyphLines$Move" "b" "I") ∈ tw_T := tw_of 179 (by decide +kernel) (by decide +kernel)
theorem w_180 : (Jvm.Cond.fieldLink "GlyphLines$Move" (16 : Nat) "GlyphLines$Move" "c" "I") ∈ tw_T := tw_of 180 (by decide +kernel) (by decide +kernel)
theorem w_181 : (Jvm.Cond.fieldLink "GlyphLines$Move" (19 : Nat) "GlyphLines$Move" "d" "I") ∈ tw_T := tw_of 181 (by decide +kernel) (by decide +kernel)
theorem w_182 : (Jvm.Cond.fieldLink "GlyphLines$Move" (22 : Nat) "GlyphLines$Move" "dx" "I") ∈ tw_T := tw_of 182 (by decide +kernel) (by decide +kernel)
theorem w_183 : (Jvm.Cond.fieldLink "GlyphLines$Move" (25 : Nat) "GlyphLines$Move" "dy" "I") ∈ tw_T := tw_of 183 (by decide +kernel) (by decide +kernel)
theorem w_184 : (Jvm.Cond.lays "GlyphLines$Move" "GlyphLines$Move" "a" "I") ∈ tw_T := tw_of 184 (by decide +kernel) (by decide +kernel)
theorem w_186 : (Jvm.Cond.lays "GlyphLines$Move" "GlyphLines$Move" "b" "I") ∈ tw_T := tw_of 186 (by decide +kernel) (by decide +kernel)
theorem w_188 : (Jvm.Cond.lays "GlyphLines$Move" "GlyphLines$Move" "c" "I") ∈ tw_T := tw_of 188 (by decide +kernel) (by decide +kernel)
theorem w_190 : (Jvm.Cond.lays "GlyphLines$Move" "GlyphLines$Move" "d" "I") ∈ tw_T := tw_of 190 (by decide +kernel) (by decide +kernel)
theorem w_192 : (Jvm.Cond.lays "GlyphLines$Move" "GlyphLines$Move" "dx" "I") ∈ tw_T := tw_of 192 (by decide +kernel) (by decide +kernel)
theorem w_194 : (Jvm.Cond.lays "GlyphLines$Move" "GlyphLines$Move" "dy" "I") ∈ tw_T := tw_of 194 (by decide +kernel) (by decide +kernel)
theorem w_197 : (Jvm.Cond.arrayClass Jvm.ClassFile.FieldType.boolean) ∈ tw_T := tw_of 197 (by decide +kernel) (by decide +kernel)
theorem w_198 : (Jvm.Cond.fieldLink "GlyphLines$Outline" (9 : Nat) "GlyphLines$Outline" "xs" "[I") ∈ tw_T := tw_of 198 (by decide +kernel) (by decide +kernel)
theorem w_201 : (Jvm.Cond.fieldLink "GlyphLines$Outline" (13 : Nat) "GlyphLines$Outline" "ys" "[I") ∈ tw_T := tw_of 201 (by decide +kernel) (by decide +kernel)
theorem w_204 : (Jvm.Cond.fieldLink "GlyphLines$Outline" (16 : Nat) "GlyphLines$Outline" "isOn" "[Z") ∈ tw_T := tw_of 204 (by decide +kernel) (by decide +kernel)
theorem w_207 : (Jvm.Cond.fieldLink "GlyphLines$Outline" (20 : Nat) "GlyphLines$Outline" "contourOf" "[I") ∈ tw_T := tw_of 207 (by decide +kernel) (by decide +kernel)
theorem w_210 : (Jvm.Cond.fieldLink "GlyphLines$Outline" (23 : Nat) "GlyphLines$Outline" "flags" "[I") ∈ tw_T := tw_of 210 (by decide +kernel) (by decide +kernel)
theorem w_211 : (Jvm.Cond.fieldLink "GlyphLines$Outline" (29 : Nat) "GlyphLines$Outline" "move" "LGlyphLines$Move;") ∈ tw_T := tw_of 211 (by decide +kernel) (by decide +kernel)
theorem w_212 : (Jvm.Cond.fieldLink "GlyphLines$Outline" (33 : Nat) "GlyphLines$Outline" "points" "I") ∈ tw_T := tw_of 212 (by decide +kernel) (by decide +kernel)
theorem w_215 : (Jvm.Cond.fieldLink "GlyphLines$Outline" (37 : Nat) "GlyphLines$Outline" "contours" "I") ∈ tw_T := tw_of 215 (by decide +kernel) (by decide +kernel)
theorem w_217 : (Jvm.Cond.laysFinal "GlyphLines$Outline" "GlyphLines$Outline" "xs" "[I") ∈ tw_T := tw_of 217 (by decide +kernel) (by decide +kernel)
theorem w_219 : (Jvm.Cond.laysFinal "GlyphLines$Outline" "GlyphLines$Outline" "ys" "[I") ∈ tw_T := tw_of 219 (by decide +kernel) (by decide +kernel)
theorem w_221 : (Jvm.Cond.laysFinal "GlyphLines$Outline" "GlyphLines$Outline" "isOn" "[Z") ∈ tw_T := tw_of 221 (by decide +kernel) (by decide +kernel)
theorem w_223 : (Jvm.Cond.laysFinal "GlyphLines$Outline" "GlyphLines$Outline" "contourOf" "[I") ∈ tw_T := tw_of 223 (by decide +kernel) (by decide +kernel)
theorem w_225 : (Jvm.Cond.laysFinal "GlyphLines$Outline" "GlyphLines$Outline" "flags" "[I") ∈ tw_T := tw_of 225 (by decide +kernel) (by decide +kernel)
theorem w_227 : (Jvm.Cond.laysFinal "GlyphLines$Outline" "GlyphLines$Outline" "move" "LGlyphLines$Move;") ∈ tw_T := tw_of 227 (by decide +kernel) (by decide +kernel)
theorem w_229 : (Jvm.Cond.lays "GlyphLines$Outline" "GlyphLines$Outline" "points" "I") ∈ tw_T := tw_of 229 (by decide +kernel) (by decide +kernel)
theorem w_231 : (Jvm.Cond.lays "GlyphLines$Outline" "GlyphLines$Outline" "contours" "I") ∈ tw_T := tw_of 231 (by decide +kernel) (by decide +kernel)
theorem w_234 : (Jvm.Cond.classLink "GlyphLines" (38 : Nat) "GlyphLines$Picture") ∈ tw_T := tw_of 234 (by decide +kernel) (by decide +kernel)
theorem w_235 : (Jvm.Cond.instantiable "GlyphLines$Picture" (2 : Nat)) ∈ tw_T := tw_of 235 (by decide +kernel) (by decide +kernel)
theorem w_236 : (Jvm.Cond.methodLink "GlyphLines" (40 : Nat) ({ cls := "GlyphLines$Picture", name := "<init>", desc := "()V" } : Jvm.MethodName)) ∈ tw_T := tw_of 236 (by decide +kernel) (by decide +kernel)
theorem w_237 : (Jvm.Cond.instanceMethod ({ cls := "GlyphLines$Picture", name := "<init>", desc := "()V" } : Jvm.MethodName)) ∈ tw_T := tw_of 237 (by decide +kernel) (by decide +kernel)
theorem w_238 : (Jvm.Cond.code ({ cls := "GlyphLines$Picture", name := "<init>", desc := "()V" } : Jvm.MethodName) prog_9_method_1_code (1 : Nat) (Option.none : Option Jvm.ClassFile.FieldType)) ∈ tw_T := tw_of 238 (by decide +kernel) (by decide +kernel)
theorem w_239 : (Jvm.Cond.methodLink "GlyphLines$Picture" (1 : Nat) ({ cls := "java/lang/Object", name := "<init>", desc := "()V" } : Jvm.MethodName)) ∈ tw_T := tw_of 239 (by decide +kernel) (by decide +kernel)
theorem w_240 : (Jvm.Cond.fieldLink "GlyphLines$Picture" (9 : Nat) "GlyphLines$Picture" "rows" "[J") ∈ tw_T := tw_of 240 (by decide +kernel) (by decide +kernel)
theorem w_242 : (Jvm.Cond.fieldLink "GlyphLines$Picture" (13 : Nat) "GlyphLines$Picture" "steps" "[I") ∈ tw_T := tw_of 242 (by decide +kernel) (by decide +kernel)
theorem w_243 : (Jvm.Cond.laysFinal "GlyphLines$Picture" "GlyphLines$Picture" "rows" "[J") ∈ tw_T := tw_of 243 (by decide +kernel) (by decide +kernel)
theorem w_245 : (Jvm.Cond.laysFinal "GlyphLines$Picture" "GlyphLines$Picture" "steps" "[I") ∈ tw_T := tw_of 245 (by decide +kernel) (by decide +kernel)
theorem w_248 : (Jvm.Cond.arrayClass Jvm.ClassFile.FieldType.long) ∈ tw_T := tw_of 248 (by decide +kernel) (by decide +kernel)
theorem w_249 : (Jvm.Cond.classLink "GlyphLines" (45 : Nat) "GlyphLines$Brush") ∈ tw_T := tw_of 249 (by decide +kernel) (by decide +kernel)
theorem w_250 : (Jvm.Cond.instantiable "GlyphLines$Brush" (10 : Nat)) ∈ tw_T := tw_of 250 (by decide +kernel) (by decide +kernel)
theorem w_251 : (Jvm.Cond.methodLink "GlyphLines" (47 : Nat) ({ cls := "GlyphLines$Brush", name := "<init>", desc := "(LGlyphLines$Picture;LGlyphLines$Outline;)V" } : Jvm.MethodName)) ∈ tw_T := tw_of 251 (by decide +kernel) (by decide +kernel)
theorem w_252 : (Jvm.Cond.instanceMethod ({ cls := "GlyphLines$Brush", name := "<init>", desc := "(LGlyphLines$Picture;LGlyphLines$Outline;)V" } : Jvm.MethodName)) ∈ tw_T := tw_of 252 (by decide +kernel) (by decide +kernel)
theorem w_253 : (Jvm.Cond.code ({ cls := "GlyphLines$Brush", name := "<init>", desc := "(LGlyphLines$Picture;LGlyphLines$Outline;)V" } : Jvm.MethodName) prog_2_method_1_code (3 : Nat) (Option.none : Option Jvm.ClassFile.FieldType)) ∈ tw_T := tw_of 253 (by decide +kernel) (by decide +kernel)
theorem w_254 : (Jvm.Cond.methodLink "GlyphLines$Brush" (3 : Nat) ({ cls := "java/lang/Object", name := "<init>", desc := "()V" } : Jvm.MethodName)) ∈ tw_T := tw_of 254 (by decide +kernel) (by decide +kernel)
theorem w_255 : (Jvm.Cond.fieldLink "GlyphLines$Brush" (40 : Nat) "GlyphLines$Brush" "picture" "LGlyphLines$Picture;") ∈ tw_T := tw_of 255 (by decide +kernel) (by decide +kernel)
theorem w_256 : (Jvm.Cond.fieldLink "GlyphLines$Brush" (44 : Nat) "GlyphLines$Brush" "outline" "LGlyphLines$Outline;") ∈ tw_T := tw_of 256 (by decide +kernel) (by decide +kernel)
theorem w_257 : (Jvm.Cond.fieldLink "GlyphLines$Brush" (11 : Nat) "GlyphLines$Brush" "ringX" "[I") ∈ tw_T := tw_of 257 (by decide +kernel) (by decide +kernel)
theorem w_258 : (Jvm.Cond.fieldLink "GlyphLines$Brush" (17 : Nat) "GlyphLines$Brush" "ringY" "[I") ∈ tw_T := tw_of 258 (by decide +kernel) (by decide +kernel)
theorem w_259 : (Jvm.Cond.fieldLink "GlyphLines$Brush" (20 : Nat) "GlyphLines$Brush" "ringOn" "[Z") ∈ tw_T := tw_of 259 (by decide +kernel) (by decide +kernel)
theorem w_260 : (Jvm.Cond.fieldLink "GlyphLines$Brush" (24 : Nat) "GlyphLines$Brush" "ringSize" "I") ∈ tw_T := tw_of 260 (by decide +kernel) (by decide +kernel)
theorem w_261 : (Jvm.Cond.fieldLink "GlyphLines$Brush" (28 : Nat) "GlyphLines$Brush" "em" "I") ∈ tw_T := tw_of 261 (by decide +kernel) (by decide +kernel)
theorem w_262 : (Jvm.Cond.fieldLink "GlyphLines$Brush" (31 : Nat) "GlyphLines$Brush" "ppem" "I") ∈ tw_T := tw_of 262 (by decide +kernel) (by decide +kernel)
theorem w_263 : (Jvm.Cond.fieldLink "GlyphLines$Brush" (34 : Nat) "GlyphLines$Brush" "pen" "I") ∈ tw_T := tw_of 263 (by decide +kernel) (by decide +kernel)
theorem w_265 : (Jvm.Cond.fieldLink "GlyphLines$Brush" (37 : Nat) "GlyphLines$Brush" "glyphBefore" "I") ∈ tw_T := tw_of 265 (by decide +kernel) (by decide +kernel)
theorem w_266 : (Jvm.Cond.laysFinal "GlyphLines$Brush" "GlyphLines$Brush" "picture" "LGlyphLines$Picture;") ∈ tw_T := tw_of 266 (by decide +kernel) (by decide +kernel)
theorem w_268 : (Jvm.Cond.laysFinal "GlyphLines$Brush" "GlyphLines$Brush" "outline" "LGlyphLines$Outline;") ∈ tw_T := tw_of 268 (by decide +kernel) (by decide +kernel)
theorem w_270 : (Jvm.Cond.laysFinal "GlyphLines$Brush" "GlyphLines$Brush" "ringX" "[I") ∈ tw_T := tw_of 270 (by decide +kernel) (by decide +kernel)
theorem w_272 : (Jvm.Cond.laysFinal "GlyphLines$Brush" "GlyphLines$Brush" "ringY" "[I") ∈ tw_T := tw_of 272 (by decide +kernel) (by decide +kernel)
theorem w_274 : (Jvm.Cond.laysFinal "GlyphLines$Brush" "GlyphLines$Brush" "ringOn" "[Z") ∈ tw_T := tw_of 274 (by decide +kernel) (by decide +kernel)
theorem w_276 : (Jvm.Cond.lays "GlyphLines$Brush" "GlyphLines$Brush" "ringSize" "I") ∈ tw_T := tw_of 276 (by decide +kernel) (by decide +kernel)
theorem w_278 : (Jvm.Cond.lays "GlyphLines$Brush" "GlyphLines$Brush" "em" "I") ∈ tw_T := tw_of 278 (by decide +kernel) (by decide +kernel)
theorem w_280 : (Jvm.Cond.lays "GlyphLines$Brush" "GlyphLines$Brush" "ppem" "I") ∈ tw_T := tw_of 280 (by decide +kernel) (by decide +kernel)
theorem w_282 : (Jvm.Cond.lays "GlyphLines$Brush" "GlyphLines$Brush" "pen" "I") ∈ tw_T := tw_of 282 (by decide +kernel) (by decide +kernel)
theorem w_284 : (Jvm.Cond.lays "GlyphLines$Brush" "GlyphLines$Brush" "glyphBefore" "I") ∈ tw_T := tw_of 284 (by decide +kernel) (by decide +kernel)
theorem w_287 : (Jvm.Cond.fieldLink "GlyphLines" (9 : Nat) "GlyphLines" "file" "[I") ∈ tw_T := tw_of 287 (by decide +kernel) (by decide +kernel)
theorem w_288 : (Jvm.Cond.fieldLink "GlyphLines" (13 : Nat) "GlyphLines" "fileSize" "I") ∈ tw_T := tw_of 288 (by decide +kernel) (by decide +kernel)
theorem w_289 : (Jvm.Cond.fieldLink "GlyphLines" (20 : Nat) "GlyphLines" "font" "LGlyphLines$Font;") ∈ tw_T := tw_of 289 (by decide +kernel) (by decide +kernel)
theorem w_290 : (Jvm.Cond.fieldLink "GlyphLines" (24 : Nat) "GlyphLines" "spare" "LGlyphLines$Font;") ∈ tw_T := tw_of 290 (by decide +kernel) (by decide +kernel)
theorem w_291 : (Jvm.Cond.fieldLink "GlyphLines" (27 : Nat) "GlyphLines" "hasFont" "Z") ∈ tw_T := tw_of 291 (by decide +kernel) (by decide +kernel)
theorem w_292 : (Jvm.Cond.fieldLink "GlyphLines" (34 : Nat) "GlyphLines" "outline" "LGlyphLines$Outline;") ∈ tw_T := tw_of 292 (by decide +kernel) (by decide +kernel)
theorem w_293 : (Jvm.Cond.fieldLink "GlyphLines" (41 : Nat) "GlyphLines" "picture" "LGlyphLines$Picture;") ∈ tw_T := tw_of 293 (by decide +kernel) (by decide +kernel)
theorem w_294 : (Jvm.Cond.fieldLink "GlyphLines" (50 : Nat) "GlyphLines" "brush" "LGlyphLines$Brush;") ∈ tw_T := tw_of 294 (by decide +kernel) (by decide +kernel)
theorem w_295 : (Jvm.Cond.fieldLink "GlyphLines" (54 : Nat) "GlyphLines" "text" "[I") ∈ tw_T := tw_of 295 (by decide +kernel) (by decide +kernel)
theorem w_296 : (Jvm.Cond.fieldLink "GlyphLines" (57 : Nat) "GlyphLines" "textSize" "I") ∈ tw_T := tw_of 296 (by decide +kernel) (by decide +kernel)
theorem w_297 : (Jvm.Cond.laysFinal "GlyphLines" "GlyphLines" "file" "[I") ∈ tw_T := tw_of 297 (by decide +kernel) (by decide +kernel)
theorem w_299 : (Jvm.Cond.lays "GlyphLines" "GlyphLines" "fileSize" "I") ∈ tw_T := tw_of 299 (by decide +kernel) (by decide +kernel)
theorem w_301 : (Jvm.Cond.lays "GlyphLines" "GlyphLines" "font" "LGlyphLines$Font;") ∈ tw_T := tw_of 301 (by decide +kernel) (by decide +kernel)
theorem w_303 : (Jvm.Cond.lays "GlyphLines" "GlyphLines" "spare" "LGlyphLines$Font;") ∈ tw_T := tw_of 303 (by decide +kernel) (by decide +kernel)
theorem w_305 : (Jvm.Cond.lays "GlyphLines" "GlyphLines" "hasFont" "Z") ∈ tw_T := tw_of 305 (by decide +kernel) (by decide +kernel)
theorem w_307 : (Jvm.Cond.laysFinal "GlyphLines" "GlyphLines" "outline" "LGlyphLines$Outline;") ∈ tw_T := tw_of 307 (by decide +kernel) (by decide +kernel)
theorem w_309 : (Jvm.Cond.laysFinal "GlyphLines" "GlyphLines" "picture" "LGlyphLines$Picture;") ∈ tw_T := tw_of 309 (by decide +kernel) (by decide +kernel)
theorem w_311 : (Jvm.Cond.laysFinal "GlyphLines" "GlyphLines" "brush" "LGlyphLines$Brush;") ∈ tw_T := tw_of 311 (by decide +kernel) (by decide +kernel)
theorem w_313 : (Jvm.Cond.laysFinal "GlyphLines" "GlyphLines" "text" "[I") ∈ tw_T := tw_of 313 (by decide +kernel) (by decide +kernel)
theorem w_315 : (Jvm.Cond.lays "GlyphLines" "GlyphLines" "textSize" "I") ∈ tw_T := tw_of 315 (by decide +kernel) (by decide +kernel)
theorem w_321 : (Jvm.Cond.code ({ cls := "GlyphLines", name := "feed", desc := "(I)I" } : Jvm.MethodName) prog_1_method_2_code (3 : Nat) (Option.some Jvm.ClassFile.FieldType.int)) ∈ tw_T := tw_of 321 (by decide +kernel) (by decide +kernel)
theorem w_325 : (Jvm.Cond.code ({ cls := "GlyphLines", name := "at", desc := "(I)I" } : Jvm.MethodName) prog_1_method_4_code (2 : Nat) (Option.some Jvm.ClassFile.FieldType.int)) ∈ tw_T := tw_of 325 (by decide +kernel) (by decide +kernel)
theorem w_329 : (Jvm.Cond.code ({ cls := "GlyphLines", name := "load", desc := "(Z)I" } : Jvm.MethodName) prog_1_method_6_code (4 : Nat) (Option.some Jvm.ClassFile.FieldType.int)) ∈ tw_T := tw_of 329 (by decide +kernel) (by decide +kernel)
theorem w_330 : (Jvm.Cond.methodLink "GlyphLines" (80 : Nat) ({ cls := "GlyphLines$Font", name := "loadFrom", desc := "([IIZLGlyphLines$Outline;)I" } : Jvm.MethodName)) ∈ tw_T := tw_of 330 (by decide +kernel) (by decide +kernel)
theorem w_331 : (Jvm.Cond.instanceMethod ({ cls := "GlyphLines$Font", name := "loadFrom", desc := "([IIZLGlyphLines$Outline;)I" } : Jvm.MethodName)) ∈ tw_T := tw_of 331 (by decide +kernel) (by decide +kernel)
theorem w_332 : (Jvm.Cond.selects "GlyphLines$Font" ({ cls := "GlyphLines$Font", name := "loadFrom", desc := "([IIZLGlyphLines$Outline;)I" } : Jvm.MethodName) ({ cls := "GlyphLines$Font", name := "loadFrom", desc := "([IIZLGlyphLines$Outline;)I" } : Jvm.MethodName)) ∈ tw_T := tw_of 332 (by decide +kernel) (by decide +kernel)
theorem w_333 : (Jvm.Cond.code ({ cls := "GlyphLines$Font", name := "loadFrom", desc := "([IIZLGlyphLines$Outline;)I" } : Jvm.MethodName) prog_5_method_2_code (6 : Nat) (Option.some Jvm.ClassFile.FieldType.int)) ∈ tw_T := tw_of 333 (by decide +kernel) (by decide +kernel)
theorem w_334 : (Jvm.Cond.methodLink "GlyphLines$Font" (78 : Nat) ({ cls := "java/lang/Math", name := "min", desc := "(II)I" } : Jvm.MethodName)) ∈ tw_T := tw_of 334 (by decide +kernel) (by decide +kernel)
theorem w_335 : (Jvm.Cond.static ({ cls := "java/lang/Math", name := "min", desc := "(II)I" } : Jvm.MethodName)) ∈ tw_T := tw_of 335 (by decide +kernel) (by decide +kernel)
theorem w_336 : (Jvm.Cond.code ({ cls := "java/lang/Math", name := "min", desc := "(II)I" } : Jvm.MethodName) prog_18_method_69_code (2 : Nat) (Option.some Jvm.ClassFile.FieldType.int)) ∈ tw_T := tw_of 336 (by decide +kernel) (by decide +kernel)
theorem w_337 : (Jvm.Cond.methodLink "GlyphLines$Font" (84 : Nat) ({ cls := "java/lang/System", name := "arraycopy", desc := "(Ljava/lang/Object;ILjava/lang/Object;II)V" } : Jvm.MethodName)) ∈ tw_T := tw_of 337 (by decide +kernel) (by decide +kernel)
theorem w_338 : (Jvm.Cond.static ({ cls := "java/lang/System", name := "arraycopy", desc := "(Ljava/lang/Object;ILjava/lang/Object;II)V" } : Jvm.MethodName)) ∈ tw_T := tw_of 338 (by decide +kernel) (by decide +kernel)
theorem w_339 : (Jvm.Cond.native ({ cls := "java/lang/System", name := "arraycopy", desc := "(Ljava/lang/Object;ILjava/lang/Object;II)V" } : Jvm.MethodName)) ∈ tw_T := tw_of 339 (by decide +kernel) (by decide +kernel)
theorem w_340 : (Jvm.Cond.methodLink "GlyphLines$Font" (90 : Nat) ({ cls := "GlyphLines$Directory", name := "isRight", desc := "(I)Z" } : Jvm.MethodName)) ∈ tw_T := tw_of 340 (by decide +kernel) (by decide +kernel)
theorem w_341 : (Jvm.Cond.instanceMethod ({ cls := "GlyphLines$Directory", name := "isRight", desc := "(I)Z" } : Jvm.MethodName)) ∈ tw_T := tw_of 341 (by decide +kernel) (by decide +kernel)
theorem w_342 : (Jvm.Cond.selects "GlyphLines$Directory" ({ cls := "GlyphLines$Directory", name := "isRight", desc := "(I)Z" } : Jvm.MethodName) ({ cls := "GlyphLines$Directory", name := "isRight", desc := "(I)Z" } : Jvm.MethodName)) ∈ tw_T := tw_of 342 (by decide +kernel) (by decide +kernel)
theorem w_343 : (Jvm.Cond.code ({ cls := "GlyphLines$Directory", name := "isRight", desc := "(I)Z" } : Jvm.MethodName) prog_4_method_2_code (7 : Nat) (Option.some Jvm.ClassFile.FieldType.boolean)) ∈ tw_T := tw_of 343 (by decide +kernel) (by decide +kernel)
theorem w_344 : (Jvm.Cond.methodLink "GlyphLines$Directory" (25 : Nat) ({ cls := "GlyphLines$Span", name := "lay", desc := "(II)V" } : Jvm.MethodName)) ∈ tw_T := tw_of 344 (by decide +kernel) (by decide +kernel)
theorem w_345 : (Jvm.Cond.instanceMethod ({ cls := "GlyphLines$Span", name := "lay", desc := "(II)V" } : Jvm.MethodName)) ∈ tw_T := tw_of 345 (by decide +kernel) (by decide +kernel)
theorem w_346 : (Jvm.Cond.selects "GlyphLines$Span" ({ cls := "GlyphLines$Span", name := "lay", desc := "(II)V" } : Jvm.MethodName) ({ cls := "GlyphLines$Span", name := "lay", desc := "(II)V" } : Jvm.MethodName)) ∈ tw_T := tw_of 346 (by decide +kernel) (by decide +kernel)
theorem w_347 : (Jvm.Cond.code ({ cls := "GlyphLines$Span", name := "lay", desc := "(II)V" } : Jvm.MethodName) prog_10_method_2_code (3 : Nat) (Option.none : Option Jvm.ClassFile.FieldType)) ∈ tw_T := tw_of 347 (by decide +kernel) (by decide +kernel)
theorem w_348 : (Jvm.Cond.methodLink "GlyphLines$Span" (24 : Nat) ({ cls := "java/lang/Math", name := "min", desc := "(II)I" } : Jvm.MethodName)) ∈ tw_T := tw_of 348 (by decide +kernel) (by decide +kernel)
theorem w_349 : (Jvm.Cond.methodLink "GlyphLines$Span" (30 : Nat) ({ cls := "java/lang/Math", name := "max", desc := "(II)I" } : Jvm.MethodName)) ∈ tw_T := tw_of 349 (by decide +kernel) (by decide +kernel)
theorem w_350 : (Jvm.Cond.static ({ cls := "java/lang/Math", name := "max", desc := "(II)I" } : Jvm.MethodName)) ∈ tw_T := tw_of 350 (by decide +kernel) (by decide +kernel)
theorem w_351 : (Jvm.Cond.code ({ cls := "java/lang/Math", name := "max", desc := "(II)I" } : Jvm.MethodName) prog_18_method_65_code (2 : Nat) (Option.some Jvm.ClassFile.FieldType.int)) ∈ tw_T := tw_of 351 (by decide +kernel) (by decide +kernel)
theorem w_352 : (Jvm.Cond.methodLink "GlyphLines$Directory" (29 : Nat) ({ cls := "GlyphLines$Span", name := "u16", desc := "(I)I" } : Jvm.MethodName)) ∈ tw_T := tw_of 352 (by decide +kernel) (by decide +kernel)
theorem w_353 : (Jvm.Cond.instanceMethod ({ cls := "GlyphLines$Span", name := "u16", desc := "(I)I" } : Jvm.MethodName)) ∈ tw_T := tw_of 353 (by decide +kernel) (by decide +kernel)
theorem w_354 : (Jvm.Cond.selects "GlyphLines$Span" ({ cls := "GlyphLines$Span", name := "u16", desc := "(I)I" } : Jvm.MethodName) ({ cls := "GlyphLines$Span", name := "u16", desc := "(I)I" } : Jvm.MethodName)) ∈ tw_T := tw_of 354 (by decide +kernel) (by decide +kernel)
theorem w_355 : (Jvm.Cond.code ({ cls := "GlyphLines$Span", name := "u16", desc := "(I)I" } : Jvm.MethodName) prog_10_method_5_code (2 : Nat) (Option.some Jvm.ClassFile.FieldType.int)) ∈ tw_T := tw_of 355 (by decide +kernel) (by decide +kernel)
theorem w_356 : (Jvm.Cond.methodLink "GlyphLines$Directory" (33 : Nat) ({ cls := "GlyphLines$Span", name := "u32", desc := "(I)J" } : Jvm.MethodName)) ∈ tw_T := tw_of 356 (by decide +kernel) (by decide +kernel)
theorem w_357 : (Jvm.Cond.instanceMethod ({ cls := "GlyphLines$Span", name := "u32", desc := "(I)J" } : Jvm.MethodName)) ∈ tw_T := tw_of 357 (by decide +kernel) (by decide +kernel)
theorem w_358 : (Jvm.Cond.selects "GlyphLines$Span" ({ cls := "GlyphLines$Span", name := "u32", desc := "(I)J" } : Jvm.MethodName) ({ cls := "GlyphLines$Span", name := "u32", desc := "(I)J" } : Jvm.MethodName)) ∈ tw_T := tw_of 358 (by decide +kernel) (by decide +kernel)
theorem w_359 : (Jvm.Cond.code ({ cls := "GlyphLines$Span", name := "u32", desc := "(I)J" } : Jvm.MethodName) prog_10_method_6_code (6 : Nat) (Option.some Jvm.ClassFile.FieldType.long)) ∈ tw_T := tw_of 359 (by decide +kernel) (by decide +kernel)
theorem w_360 : (Jvm.Cond.constantLong "GlyphLines$Directory" (37 : Nat) (65536 : Int64)) ∈ tw_T := tw_of 360 (by decide +kernel) (by decide +kernel)
theorem w_539 : (Jvm.Cond.code ({ cls := "GlyphLines", name := "type", desc := "(I)Z" } : Jvm.MethodName) prog_1_method_11_code (2 : Nat) (Option.some Jvm.ClassFile.FieldType.boolean)) ∈ tw_T := tw_of 539 (by decide +kernel) (by decide +kernel)
theorem w_540 : (Jvm.Cond.methodLink "GlyphLines" (87 : Nat) ({ cls := "GlyphLines", name := "isCharacter", desc := "(I)Z" } : Jvm.MethodName)) ∈ tw_T := tw_of 540 (by decide +kernel) (by decide +kernel)
theorem w_541 : (Jvm.Cond.static ({ cls := "GlyphLines", name := "isCharacter", desc := "(I)Z" } : Jvm.MethodName)) ∈ tw_T := tw_of 541 (by decide +kernel) (by decide +kernel)
theorem w_542 : (Jvm.Cond.code ({ cls := "GlyphLines", name := "isCharacter", desc := "(I)Z" } : Jvm.MethodName) prog_1_method_17_code (1 : Nat) (Option.some Jvm.ClassFile.FieldType.boolean)) ∈ tw_T := tw_of 542 (by decide +kernel) (by decide +kernel)
theorem w_543 : (Jvm.Cond.constant "GlyphLines" (167 : Nat) (65535 : Int32)) ∈ tw_T := tw_of 543 (by decide +kernel) (by decide +kernel)
theorem w_547 : (Jvm.Cond.code ({ cls := "GlyphLines", name := "wipe", desc := "()I" } : Jvm.MethodName) prog_1_method_12_code (2 : Nat) (Option.some Jvm.ClassFile.FieldType.int)) ∈ tw_T := tw_of 547 (by decide +kernel) (by decide +kernel)
theorem w_556 : (Jvm.Cond.code ({ cls := "GlyphLines", name := "put", desc := "(II)I" } : Jvm.MethodName) prog_1_method_3_code (4 : Nat) (Option.some Jvm.ClassFile.FieldType.int)) ∈ tw_T := tw_of 556 (by decide +kernel) (by decide +kernel)
theorem w_557 : (Jvm.Cond.classLink "GlyphLines" (60 : Nat) "java/lang/IndexOutOfBoundsException") ∈ tw_T := tw_of 557 (by decide +kernel) (by decide +kernel)
theorem w_625 : (Jvm.Cond.classLink "GlyphLines" (67 : Nat) "java/lang/IllegalArgumentException") ∈ tw_T := tw_of 625 (by decide +kernel) (by decide +kernel)
theorem w_647 : (Jvm.Cond.code ({ cls := "GlyphLines", name := "cut", desc := "(I)I" } : Jvm.MethodName) prog_1_method_5_code (4 : Nat) (Option.some Jvm.ClassFile.FieldType.int)) ∈ tw_T := tw_of 647 (by decide +kernel) (by decide +kernel)
theorem w_649 : (Jvm.Cond.methodLink "GlyphLines" (74 : Nat) ({ cls := "java/lang/Math", name := "min", desc := "(II)I" } : Jvm.MethodName)) ∈ tw_T := tw_of 649 (by decide +kernel) (by decide +kernel)
theorem w_657 : (Jvm.Cond.code ({ cls := "GlyphLines", name := "glyph", desc := "(I)I" } : Jvm.MethodName) prog_1_method_7_code (2 : Nat) (Option.some Jvm.ClassFile.FieldType.int)) ∈ tw_T := tw_of 657 (by decide +kernel) (by decide +kernel)
theorem w_658 : (Jvm.Cond.methodLink "GlyphLines" (84 : Nat) ({ cls := "GlyphLines", name := "requireFont", desc := "()V" } : Jvm.MethodName)) ∈ tw_T := tw_of 658 (by decide +kernel) (by decide +kernel)
theorem w_660 : (Jvm.Cond.instanceMethod ({ cls := "GlyphLines", name := "requireFont", desc := "()V" } : Jvm.MethodName)) ∈ tw_T := tw_of 660 (by decide +kernel) (by decide +kernel)
theorem w_661 : (Jvm.Cond.code ({ cls := "GlyphLines", name := "requireFont", desc := "()V" } : Jvm.MethodName) prog_1_method_15_code (1 : Nat) (Option.none : Option Jvm.ClassFile.FieldType)) ∈ tw_T := tw_of 661 (by decide +kernel) (by decide +kernel)
theorem w_662 : (Jvm.Cond.classLink "GlyphLines" (157 : Nat) "java/lang/IllegalStateException") ∈ tw_T := tw_of 662 (by decide +kernel) (by decide +kernel)
theorem w_698 : (Jvm.Cond.code ({ cls := "GlyphLines", name := "measure", desc := "(II)I" } : Jvm.MethodName) prog_1_method_8_code (3 : Nat) (Option.some Jvm.ClassFile.FieldType.int)) ∈ tw_T := tw_of 698 (by decide +kernel) (by decide +kernel)
theorem w_716 : (Jvm.Cond.code ({ cls := "GlyphLines", name := "point", desc := "(III)I" } : Jvm.MethodName) prog_1_method_9_code (4 : Nat) (Option.some Jvm.ClassFile.FieldType.int)) ∈ tw_T := tw_of 716 (by decide +kernel) (by decide +kernel)
theorem w_725 : (Jvm.Cond.code ({ cls := "GlyphLines", name := "kerning", desc := "(II)I" } : Jvm.MethodName) prog_1_method_10_code (3 : Nat) (Option.some Jvm.ClassFile.FieldType.int)) ∈ tw_T := tw_of 725 (by decide +kernel) (by decide +kernel)
theorem w_740 : (Jvm.Cond.code ({ cls := "GlyphLines", name := "paint", desc := "(I)I" } : Jvm.MethodName) prog_1_method_13_code (3 : Nat) (Option.some Jvm.ClassFile.FieldType.int)) ∈ tw_T := tw_of 740 (by decide +kernel) (by decide +kernel)
theorem w_844 : (Jvm.Cond.code ({ cls := "GlyphLines", name := "row", desc := "(I)J" } : Jvm.MethodName) prog_1_method_14_code (2 : Nat) (Option.some Jvm.ClassFile.FieldType.long)) ∈ tw_T := tw_of 844 (by decide +kernel) (by decide +kernel)
theorem w_850 : (Jvm.Cond.code ({ cls := "GlyphLinesModel", name := "<init>", desc := "()V" } : Jvm.MethodName) prog_12_method_1_code (1 : Nat) (Option.none : Option Jvm.ClassFile.FieldType)) ∈ tw_T := tw_of 850 (by decide +kernel) (by decide +kernel)
theorem w_851 : (Jvm.Cond.methodLink "GlyphLinesModel" (1 : Nat) ({ cls := "java/lang/Object", name := "<init>", desc := "()V" } : Jvm.MethodName)) ∈ tw_T := tw_of 851 (by decide +kernel) (by decide +kernel)
theorem w_854 : (Jvm.Cond.fieldLink "GlyphLinesModel" (7 : Nat) "GlyphLinesModel" "file" "[I") ∈ tw_T := tw_of 854 (by decide +kernel) (by decide +kernel)
theorem w_857 : (Jvm.Cond.fieldLink "GlyphLinesModel" (13 : Nat) "GlyphLinesModel" "bytes" "[I") ∈ tw_T := tw_of 857 (by decide +kernel) (by decide +kernel)
theorem w_858 : (Jvm.Cond.fieldLink "GlyphLinesModel" (16 : Nat) "GlyphLinesModel" "places" "[I") ∈ tw_T := tw_of 858 (by decide +kernel) (by decide +kernel)
theorem w_859 : (Jvm.Cond.fieldLink "GlyphLinesModel" (19 : Nat) "GlyphLinesModel" "lengths" "[I") ∈ tw_T := tw_of 859 (by decide +kernel) (by decide +kernel)
theorem w_860 : (Jvm.Cond.fieldLink "GlyphLinesModel" (22 : Nat) "GlyphLinesModel" "glyphCount" "[I") ∈ tw_T := tw_of 860 (by decide +kernel) (by decide +kernel)
theorem w_861 : (Jvm.Cond.fieldLink "GlyphLinesModel" (25 : Nat) "GlyphLinesModel" "ems" "[I") ∈ tw_T := tw_of 861 (by decide +kernel) (by decide +kernel)
theorem w_862 : (Jvm.Cond.fieldLink "GlyphLinesModel" (28 : Nat) "GlyphLinesModel" "wides" "[I") ∈ tw_T := tw_of 862 (by decide +kernel) (by decide +kernel)
theorem w_863 : (Jvm.Cond.fieldLink "GlyphLinesModel" (31 : Nat) "GlyphLinesModel" "forms" "[I") ∈ tw_T := tw_of 863 (by decide +kernel) (by decide +kernel)
theorem w_864 : (Jvm.Cond.fieldLink "GlyphLinesModel" (34 : Nat) "GlyphLinesModel" "parts" "[I") ∈ tw_T := tw_of 864 (by decide +kernel) (by decide +kernel)
theorem w_865 : (Jvm.Cond.fieldLink "GlyphLinesModel" (37 : Nat) "GlyphLinesModel" "charts" "[I") ∈ tw_T := tw_of 865 (by decide +kernel) (by decide +kernel)
theorem w_866 : (Jvm.Cond.fieldLink "GlyphLinesModel" (40 : Nat) "GlyphLinesModel" "pointCount" "[I") ∈ tw_T := tw_of 866 (by decide +kernel) (by decide +kernel)
theorem w_867 : (Jvm.Cond.fieldLink "GlyphLinesModel" (43 : Nat) "GlyphLinesModel" "contourCount" "[I") ∈ tw_T := tw_of 867 (by decide +kernel) (by decide +kernel)
theorem w_868 : (Jvm.Cond.fieldLink "GlyphLinesModel" (46 : Nat) "GlyphLinesModel" "depths" "[I") ∈ tw_T := tw_of 868 (by decide +kernel) (by decide +kernel)
theorem w_869 : (Jvm.Cond.fieldLink "GlyphLinesModel" (49 : Nat) "GlyphLinesModel" "xs" "[I") ∈ tw_T := tw_of 869 (by decide +kernel) (by decide +kernel)
theorem w_870 : (Jvm.Cond.fieldLink "GlyphLinesModel" (52 : Nat) "GlyphLinesModel" "ys" "[I") ∈ tw_T := tw_of 870 (by decide +kernel) (by decide +kernel)
theorem w_871 : (Jvm.Cond.fieldLink "GlyphLinesModel" (55 : Nat) "GlyphLinesModel" "ons" "[I") ∈ tw_T := tw_of 871 (by decide +kernel) (by decide +kernel)
theorem w_872 : (Jvm.Cond.fieldLink "GlyphLinesModel" (58 : Nat) "GlyphLinesModel" "contours" "[I") ∈ tw_T := tw_of 872 (by decide +kernel) (by decide +kernel)
theorem w_876 : (Jvm.Cond.fieldLink "GlyphLinesModel" (61 : Nat) "GlyphLinesModel" "flags" "[I") ∈ tw_T := tw_of 876 (by decide +kernel) (by decide +kernel)
theorem w_877 : (Jvm.Cond.fieldLink "GlyphLinesModel" (64 : Nat) "GlyphLinesModel" "part" "[I") ∈ tw_T := tw_of 877 (by decide +kernel) (by decide +kernel)
theorem w_879 : (Jvm.Cond.fieldLink "GlyphLinesModel" (67 : Nat) "GlyphLinesModel" "text" "[I") ∈ tw_T := tw_of 879 (by decide +kernel) (by decide +kernel)
theorem w_881 : (Jvm.Cond.fieldLink "GlyphLinesModel" (70 : Nat) "GlyphLinesModel" "ringX" "[I") ∈ tw_T := tw_of 881 (by decide +kernel) (by decide +kernel)
theorem w_882 : (Jvm.Cond.fieldLink "GlyphLinesModel" (73 : Nat) "GlyphLinesModel" "ringY" "[I") ∈ tw_T := tw_of 882 (by decide +kernel) (by decide +kernel)
theorem w_883 : (Jvm.Cond.fieldLink "GlyphLinesModel" (76 : Nat) "GlyphLinesModel" "ringOn" "[Z") ∈ tw_T := tw_of 883 (by decide +kernel) (by decide +kernel)
theorem w_885 : (Jvm.Cond.fieldLink "GlyphLinesModel" (80 : Nat) "GlyphLinesModel" "curves" "[I") ∈ tw_T := tw_of 885 (by decide +kernel) (by decide +kernel)
theorem w_886 : (Jvm.Cond.fieldLink "GlyphLinesModel" (83 : Nat) "GlyphLinesModel" "windings" "[I") ∈ tw_T := tw_of 886 (by decide +kernel) (by decide +kernel)
theorem w_887 : (Jvm.Cond.fieldLink "GlyphLinesModel" (86 : Nat) "GlyphLinesModel" "rows" "[J") ∈ tw_T := tw_of 887 (by decide +kernel) (by decide +kernel)
theorem w_888 : (Jvm.Cond.lays "GlyphLinesModel" "GlyphLinesModel" "fault" "I") ∈ tw_T := tw_of 888 (by decide +kernel) (by decide +kernel)
theorem w_890 : (Jvm.Cond.lays "GlyphLinesModel" "GlyphLinesModel" "size" "I") ∈ tw_T := tw_of 890 (by decide +kernel) (by decide +kernel)
theorem w_892 : (Jvm.Cond.laysFinal "GlyphLinesModel" "GlyphLinesModel" "file" "[I") ∈ tw_T := tw_of 892 (by decide +kernel) (by decide +kernel)
theorem w_894 : (Jvm.Cond.lays "GlyphLinesModel" "GlyphLinesModel" "side" "I") ∈ tw_T := tw_of 894 (by decide +kernel) (by decide +kernel)
theorem w_896 : (Jvm.Cond.lays "GlyphLinesModel" "GlyphLinesModel" "isFont" "Z") ∈ tw_T := tw_of 896 (by decide +kernel) (by decide +kernel)
theorem w_898 : (Jvm.Cond.laysFinal "GlyphLinesModel" "GlyphLinesModel" "bytes" "[I") ∈ tw_T := tw_of 898 (by decide +kernel) (by decide +kernel)
theorem w_900 : (Jvm.Cond.laysFinal "GlyphLinesModel" "GlyphLinesModel" "places" "[I") ∈ tw_T := tw_of 900 (by decide +kernel) (by decide +kernel)
theorem w_902 : (Jvm.Cond.laysFinal "GlyphLinesModel" "GlyphLinesModel" "lengths" "[I") ∈ tw_T := tw_of 902 (by decide +kernel) (by decide +kernel)
theorem w_904 : (Jvm.Cond.laysFinal "GlyphLinesModel" "GlyphLinesModel" "glyphCount" "[I") ∈ tw_T := tw_of 904 (by decide +kernel) (by decide +kernel)
theorem w_906 : (Jvm.Cond.laysFinal "GlyphLinesModel" "GlyphLinesModel" "ems" "[I") ∈ tw_T := tw_of 906 (by decide +kernel) (by decide +kernel)
theorem w_908 : (Jvm.Cond.laysFinal "GlyphLinesModel" "GlyphLinesModel" "wides" "[I") ∈ tw_T := tw_of 908 (by decide +kernel) (by decide +kernel)
theorem w_910 : (Jvm.Cond.laysFinal "GlyphLinesModel" "GlyphLinesModel" "forms" "[I") ∈ tw_T := tw_of 910 (by decide +kernel) (by decide +kernel)
theorem w_912 : (Jvm.Cond.laysFinal "GlyphLinesModel" "GlyphLinesModel" "parts" "[I") ∈ tw_T := tw_of 912 (by decide +kernel) (by decide +kernel)
theorem w_914 : (Jvm.Cond.laysFinal "GlyphLinesModel" "GlyphLinesModel" "charts" "[I") ∈ tw_T := tw_of 914 (by decide +kernel) (by decide +kernel)
theorem w_916 : (Jvm.Cond.laysFinal "GlyphLinesModel" "GlyphLinesModel" "pointCount" "[I") ∈ tw_T := tw_of 916 (by decide +kernel) (by decide +kernel)
theorem w_918 : (Jvm.Cond.laysFinal "GlyphLinesModel" "GlyphLinesModel" "contourCount" "[I") ∈ tw_T := tw_of 918 (by decide +kernel) (by decide +kernel)
theorem w_920 : (Jvm.Cond.laysFinal "GlyphLinesModel" "GlyphLinesModel" "depths" "[I") ∈ tw_T := tw_of 920 (by decide +kernel) (by decide +kernel)
theorem w_922 : (Jvm.Cond.laysFinal "GlyphLinesModel" "GlyphLinesModel" "xs" "[I") ∈ tw_T := tw_of 922 (by decide +kernel) (by decide +kernel)
theorem w_924 : (Jvm.Cond.laysFinal "GlyphLinesModel" "GlyphLinesModel" "ys" "[I") ∈ tw_T := tw_of 924 (by decide +kernel) (by decide +kernel)
theorem w_926 : (Jvm.Cond.laysFinal "GlyphLinesModel" "GlyphLinesModel" "ons" "[I") ∈ tw_T := tw_of 926 (by decide +kernel) (by decide +kernel)
theorem w_928 : (Jvm.Cond.laysFinal "GlyphLinesModel" "GlyphLinesModel" "contours" "[I") ∈ tw_T := tw_of 928 (by decide +kernel) (by decide +kernel)
theorem w_930 : (Jvm.Cond.lays "GlyphLinesModel" "GlyphLinesModel" "bad" "Z") ∈ tw_T := tw_of 930 (by decide +kernel) (by decide +kernel)
theorem w_932 : (Jvm.Cond.lays "GlyphLinesModel" "GlyphLinesModel" "at" "I") ∈ tw_T := tw_of 932 (by decide +kernel) (by decide +kernel)
theorem w_934 : (Jvm.Cond.lays "GlyphLinesModel" "GlyphLinesModel" "end" "I") ∈ tw_T := tw_of 934 (by decide +kernel) (by decide +kernel)
theorem w_936 : (Jvm.Cond.laysFinal "GlyphLinesModel" "GlyphLinesModel" "flags" "[I") ∈ tw_T := tw_of 936 (by decide +kernel) (by decide +kernel)
theorem w_938 : (Jvm.Cond.laysFinal "GlyphLinesModel" "GlyphLinesModel" "part" "[I") ∈ tw_T := tw_of 938 (by decide +kernel) (by decide +kernel)
theorem w_940 : (Jvm.Cond.lays "GlyphLinesModel" "GlyphLinesModel" "typed" "I") ∈ tw_T := tw_of 940 (by decide +kernel) (by decide +kernel)
theorem w_942 : (Jvm.Cond.laysFinal "GlyphLinesModel" "GlyphLinesModel" "text" "[I") ∈ tw_T := tw_of 942 (by decide +kernel) (by decide +kernel)
theorem w_944 : (Jvm.Cond.lays "GlyphLinesModel" "GlyphLinesModel" "ring" "I") ∈ tw_T := tw_of 944 (by decide +kernel) (by decide +kernel)
theorem w_946 : (Jvm.Cond.laysFinal "GlyphLinesModel" "GlyphLinesModel" "ringX" "[I") ∈ tw_T := tw_of 946 (by decide +kernel) (by decide +kernel)
theorem w_948 : (Jvm.Cond.laysFinal "GlyphLinesModel" "GlyphLinesModel" "ringY" "[I") ∈ tw_T := tw_of 948 (by decide +kernel) (by decide +kernel)
theorem w_950 : (Jvm.Cond.laysFinal "GlyphLinesModel" "GlyphLinesModel" "ringOn" "[Z") ∈ tw_T := tw_of 950 (by decide +kernel) (by decide +kernel)
theorem w_952 : (Jvm.Cond.lays "GlyphLinesModel" "GlyphLinesModel" "waiting" "I") ∈ tw_T := tw_of 952 (by decide +kernel) (by decide +kernel)
theorem w_954 : (Jvm.Cond.laysFinal "GlyphLinesModel" "GlyphLinesModel" "curves" "[I") ∈ tw_T := tw_of 954 (by decide +kernel) (by decide +kernel)
theorem w_956 : (Jvm.Cond.laysFinal "GlyphLinesModel" "GlyphLinesModel" "windings" "[I") ∈ tw_T := tw_of 956 (by decide +kernel) (by decide +kernel)
theorem w_958 : (Jvm.Cond.laysFinal "GlyphLinesModel" "GlyphLinesModel" "rows" "[J") ∈ tw_T := tw_of 958 (by decide +kernel) (by decide +kernel)
theorem wp_22 : Cond.selects "GlyphLines" ({ cls := "GlyphLines", name := "requireFont", desc := "()V" } : Jvm.MethodName) ({ cls := "GlyphLines", name := "requireFont", desc := "()V" } : Jvm.MethodName) ∈ tw_T := tw_priv 22 (({ cls := "GlyphLines", name := "requireFont", desc := "()V" } : Jvm.MethodName), 10) (by decide +kernel) (by decide +kernel)
theorem k_SP : ∀ k, k < 4 → u_lay R_SP F_SP k ∈ tw_T := fun k hk => match k, hk with
  | 0, _ => w_59
  | 1, _ => w_61
  | 2, _ => w_63
  | 3, _ => w_65
  | n + 4, h => absurd h (by omega)
theorem in_SP {c1 : Cond} : ∀ w ∈ u_ws R_SP F_SP 4, w ∈ c1 :: tw_T := fun w hw => by
  obtain ⟨k, hk, rfl⟩ := List.mem_map.mp hw
  exact List.mem_cons_of_mem _ (k_SP k (List.mem_range.mp hk))
theorem inl_SP : ∀ w ∈ u_ws R_SP F_SP 4, w ∈ lw_tbl := fun w hw => by
  obtain ⟨k, hk, rfl⟩ := List.mem_map.mp hw
  exact tw_sub (k_SP k (List.mem_range.mp hk))
theorem k_CM : ∀ k, k < 3 → u_lay R_CM F_CM k ∈ tw_T := fun k hk => match k, hk with
  | 0, _ => w_93
  | 1, _ => w_95
  | 2, _ => w_97
  | n + 3, h => absurd h (by omega)
theorem in_CM {c1 : Cond} : ∀ w ∈ u_ws R_CM F_CM 3, w ∈ c1 :: tw_T := fun w hw => by
  obtain ⟨k, hk, rfl⟩ := List.mem_map.mp hw
  exact List.mem_cons_of_mem _ (k_CM k (List.mem_range.mp hk))
theorem inl_CM : ∀ w ∈ u_ws R_CM F_CM 3, w ∈ lw_tbl := fun w hw => by
  obtain ⟨k, hk, rfl⟩ := List.mem_map.mp hw
  exact tw_sub (k_CM k (List.mem_range.mp hk))
theorem k_DI : ∀ k, k < 3 → u_lay R_DI F_DI k ∈ tw_T := fun k hk => match k, hk with
  | 0, _ => w_72
  | 1, _ => w_74
  | 2, _ => w_76
  | n + 3, h => absurd h (by omega)
theorem in_DI {c1 : Cond} : ∀ w ∈ u_ws R_DI F_DI 3, w ∈ c1 :: tw_T := fun w hw => by
  obtain ⟨k, hk, rfl⟩ := List.mem_map.mp hw
  exact List.mem_cons_of_mem _ (k_DI k (List.mem_range.mp hk))
theorem inl_DI : ∀ w ∈ u_ws R_DI F_DI 3, w ∈ lw_tbl := fun w hw => by
  obtain ⟨k, hk, rfl⟩ := List.mem_map.mp hw
  exact tw_sub (k_DI k (List.mem_range.mp hk))
theorem k_PA : ∀ k, k < 2 → u_lay R_PA F_PA k ∈ tw_T := fun k hk => match k, hk with
  | 0, _ => w_111
  | 1, _ => w_113
  | n + 2, h => absurd h (by omega)
theorem in_PA {c1 : Cond} : ∀ w ∈ u_ws R_PA F_PA 2, w ∈ c1 :: tw_T := fun w hw => by
  obtain ⟨k, hk, rfl⟩ := List.mem_map.mp hw
  exact List.mem_cons_of_mem _ (k_PA k (List.mem_range.mp hk))
theorem inl_PA : ∀ w ∈ u_ws R_PA F_PA 2, w ∈ lw_tbl := fun w hw => by
  obtain ⟨k, hk, rfl⟩ := List.mem_map.mp hw
  exact tw_sub (k_PA k (List.mem_range.mp hk))
theorem k_FO : ∀ k, k < 15 → u_lay R_FO F_FO k ∈ tw_T := fun k hk => match k, hk with
  | 0, _ => w_135
  | 1, _ => w_137
  | 2, _ => w_139
  | 3, _ => w_141
  | 4, _ => w_143
  | 5, _ => w_145
  | 6, _ => w_147
  | 7, _ => w_149
  | 8, _ => w_151
  | 9, _ => w_153
  | 10, _ => w_155
  | 11, _ => w_157
  | 12, _ => w_159
  | 13, _ => w_161
  | 14, _ => w_163
  | n + 15, h => absurd h (by omega)
theorem in_FO {c1 : Cond} : ∀ w ∈ u_ws R_FO F_FO 15, w ∈ c1 :: tw_T := fun w hw => by
  obtain ⟨k, hk, rfl⟩ := List.mem_map.mp hw
  exact List.mem_cons_of_mem _ (k_FO k (List.mem_range.mp hk))
theorem inl_FO : ∀ w ∈ u_ws R_FO F_FO 15, w ∈ lw_tbl := fun w hw => by
  obtain ⟨k, hk, rfl⟩ := List.mem_map.mp hw
  exact tw_sub (k_FO k (List.mem_range.mp hk))
theorem k_MO : ∀ k, k < 6 → u_lay R_MO F_MO k ∈ tw_T := fun k hk => match k, hk with
  | 0, _ => w_184
  | 1, _ => w_186
  | 2, _ => w_188
  | 3, _ => w_190
  | 4, _ => w_192
  | 5, _ => w_194
  | n + 6, h => absurd h (by omega)
theorem in_MO {c1 : Cond} : ∀ w ∈ u_ws R_MO F_MO 6, w ∈ c1 :: tw_T := fun w hw => by
  obtain ⟨k, hk, rfl⟩ := List.mem_map.mp hw
  exact List.mem_cons_of_mem _ (k_MO k (List.mem_range.mp hk))
theorem inl_MO : ∀ w ∈ u_ws R_MO F_MO 6, w ∈ lw_tbl := fun w hw => by
  obtain ⟨k, hk, rfl⟩ := List.mem_map.mp hw
  exact tw_sub (k_MO k (List.mem_range.mp hk))
theorem k_OU : ∀ k, k < 8 → u_lay R_OU F_OU k ∈ tw_T := fun k hk => match k, hk with
  | 0, _ => w_217
  | 1, _ => w_219
  | 2, _ => w_221
  | 3, _ => w_223
  | 4, _ => w_225
  | 5, _ => w_227
  | 6, _ => w_229
  | 7, _ => w_231
  | n + 8, h => absurd h (by omega)
theorem in_OU {c1 : Cond} : ∀ w ∈ u_ws R_OU F_OU 8, w ∈ c1 :: tw_T := fun w hw => by
  obtain ⟨k, hk, rfl⟩ := List.mem_map.mp hw
  exact List.mem_cons_of_mem _ (k_OU k (List.mem_range.mp hk))
theorem inl_OU : ∀ w ∈ u_ws R_OU F_OU 8, w ∈ lw_tbl := fun w hw => by
  obtain ⟨k, hk, rfl⟩ := List.mem_map.mp hw
  exact tw_sub (k_OU k (List.mem_range.mp hk))
theorem k_PI : ∀ k, k < 2 → u_lay R_PI F_PI k ∈ tw_T := fun k hk => match k, hk with
  | 0, _ => w_243
  | 1, _ => w_245
  | n + 2, h => absurd h (by omega)
theorem in_PI {c1 : Cond} : ∀ w ∈ u_ws R_PI F_PI 2, w ∈ c1 :: tw_T := fun w hw => by
  obtain ⟨k, hk, rfl⟩ := List.mem_map.mp hw
  exact List.mem_cons_of_mem _ (k_PI k (List.mem_range.mp hk))
theorem inl_PI : ∀ w ∈ u_ws R_PI F_PI 2, w ∈ lw_tbl := fun w hw => by
  obtain ⟨k, hk, rfl⟩ := List.mem_map.mp hw
  exact tw_sub (k_PI k (List.mem_range.mp hk))
theorem k_BR : ∀ k, k < 10 → u_lay R_BR F_BR k ∈ tw_T := fun k hk => match k, hk with
  | 0, _ => w_266
  | 1, _ => w_268
  | 2, _ => w_270
  | 3, _ => w_272
  | 4, _ => w_274
  | 5, _ => w_276
  | 6, _ => w_278
  | 7, _ => w_280
  | 8, _ => w_282
  | 9, _ => w_284
  | n + 10, h => absurd h (by omega)
theorem in_BR {c1 : Cond} : ∀ w ∈ u_ws R_BR F_BR 10, w ∈ c1 :: tw_T := fun w hw => by
  obtain ⟨k, hk, rfl⟩ := List.mem_map.mp hw
  exact List.mem_cons_of_mem _ (k_BR k (List.mem_range.mp hk))
theorem inl_BR : ∀ w ∈ u_ws R_BR F_BR 10, w ∈ lw_tbl := fun w hw => by
  obtain ⟨k, hk, rfl⟩ := List.mem_map.mp hw
  exact tw_sub (k_BR k (List.mem_range.mp hk))
theorem k_GL : ∀ k, k < 10 → u_lay R_GL F_GL k ∈ tw_T := fun k hk => match k, hk with
  | 0, _ => w_297
  | 1, _ => w_299
  | 2, _ => w_301
  | 3, _ => w_303
  | 4, _ => w_305
  | 5, _ => w_307
  | 6, _ => w_309
  | 7, _ => w_311
  | 8, _ => w_313
  | 9, _ => w_315
  | n + 10, h => absurd h (by omega)
theorem in_GL {c1 : Cond} : ∀ w ∈ u_ws R_GL F_GL 10, w ∈ c1 :: tw_T := fun w hw => by
  obtain ⟨k, hk, rfl⟩ := List.mem_map.mp hw
  exact List.mem_cons_of_mem _ (k_GL k (List.mem_range.mp hk))
theorem inl_GL : ∀ w ∈ u_ws R_GL F_GL 10, w ∈ lw_tbl := fun w hw => by
  obtain ⟨k, hk, rfl⟩ := List.mem_map.mp hw
  exact tw_sub (k_GL k (List.mem_range.mp hk))
theorem k_MD : ∀ k, k < 36 → u_lay R_MD F_MD k ∈ tw_T := fun k hk => match k, hk with
  | 0, _ => w_888
  | 1, _ => w_890
  | 2, _ => w_892
  | 3, _ => w_894
  | 4, _ => w_896
  | 5, _ => w_898
  | 6, _ => w_900
  | 7, _ => w_902
  | 8, _ => w_904
  | 9, _ => w_906
  | 10, _ => w_908
  | 11, _ => w_910
  | 12, _ => w_912
  | 13, _ => w_914
  | 14, _ => w_916
  | 15, _ => w_918
  | 16, _ => w_920
  | 17, _ => w_922
  | 18, _ => w_924
  | 19, _ => w_926
  | 20, _ => w_928
  | 21, _ => w_930
  | 22, _ => w_932
  | 23, _ => w_934
  | 24, _ => w_936
  | 25, _ => w_938
  | 26, _ => w_940
  | 27, _ => w_942
  | 28, _ => w_944
  | 29, _ => w_946
  | 30, _ => w_948
  | 31, _ => w_950
  | 32, _ => w_952
  | 33, _ => w_954
  | 34, _ => w_956
  | 35, _ => w_958
  | n + 36, h => absurd h (by omega)
theorem in_MD {c1 : Cond} : ∀ w ∈ u_ws R_MD F_MD 36, w ∈ c1 :: tw_T := fun w hw => by
  obtain ⟨k, hk, rfl⟩ := List.mem_map.mp hw
  exact List.mem_cons_of_mem _ (k_MD k (List.mem_range.mp hk))
theorem inl_MD : ∀ w ∈ u_ws R_MD F_MD 36, w ∈ lw_tbl := fun w hw => by
  obtain ⟨k, hk, rfl⟩ := List.mem_map.mp hw
  exact tw_sub (k_MD k (List.mem_range.mp hk))
theorem d_SP_init_0 : decode b_SP_init 0 = .ok (.aload_n 0, 1) := by decide +kernel
theorem d_SP_init_1 : decode b_SP_init 1 = .ok (.invokespecial 1, 3) := by decide +kernel
theorem d_SP_init_4 : decode b_SP_init 4 = .ok (.aload_n 0, 1) := by decide +kernel
theorem d_SP_init_5 : decode b_SP_init 5 = .ok (.iconst 0, 1) := by decide +kernel
theorem d_SP_init_6 : decode b_SP_init 6 = .ok (.putfield 7, 3) := by decide +kernel
theorem d_SP_init_9 : decode b_SP_init 9 = .ok (.aload_n 0, 1) := by decide +kernel
theorem d_SP_init_10 : decode b_SP_init 10 = .ok (.iconst 0, 1) := by decide +kernel
theorem d_SP_init_11 : decode b_SP_init 11 = .ok (.putfield 13, 3) := by decide +kernel
theorem d_SP_init_14 : decode b_SP_init 14 = .ok (.aload_n 0, 1) := by decide +kernel
theorem d_SP_init_15 : decode b_SP_init 15 = .ok (.iconst 0, 1) := by decide +kernel
theorem d_SP_init_16 : decode b_SP_init 16 = .ok (.putfield 16, 3) := by decide +kernel
theorem d_SP_init_19 : decode b_SP_init 19 = .ok (.aload_n 0, 1) := by decide +kernel
theorem d_SP_init_20 : decode b_SP_init 20 = .ok (.aload_n 1, 1) := by decide +kernel
theorem d_SP_init_21 : decode b_SP_init 21 = .ok (.putfield 20, 3) := by decide +kernel
theorem d_SP_init_24 : decode b_SP_init 24 = .ok (.return_, 1) := by decide +kernel
theorem d_CM_init_0 : decode b_CM_init 0 = .ok (.aload_n 0, 1) := by decide +kernel
theorem d_CM_init_1 : decode b_CM_init 1 = .ok (.invokespecial 3, 3) := by decide +kernel
theorem d_CM_init_4 : decode b_CM_init 4 = .ok (.aload_n 0, 1) := by decide +kernel
theorem d_CM_init_5 : decode b_CM_init 5 = .ok (.iconst 0, 1) := by decide +kernel
theorem d_CM_init_6 : decode b_CM_init 6 = .ok (.putfield 9, 3) := by decide +kernel
theorem d_CM_init_9 : decode b_CM_init 9 = .ok (.aload_n 0, 1) := by decide +kernel
theorem d_CM_init_10 : decode b_CM_init 10 = .ok (.iconst 0, 1) := by decide +kernel
theorem d_CM_init_11 : decode b_CM_init 11 = .ok (.putfield 15, 3) := by decide +kernel
theorem d_CM_init_14 : decode b_CM_init 14 = .ok (.aload_n 0, 1) := by decide +kernel
theorem d_CM_init_15 : decode b_CM_init 15 = .ok (.new 18, 3) := by decide +kernel
theorem d_CM_init_18 : decode b_CM_init 18 = .ok (.dup, 1) := by decide +kernel
theorem d_CM_init_19 : decode b_CM_init 19 = .ok (.aload_n 1, 1) := by decide +kernel
theorem d_CM_init_20 : decode b_CM_init 20 = .ok (.invokespecial 20, 3) := by decide +kernel
theorem d_CM_init_23 : decode b_CM_init 23 = .ok (.putfield 23, 3) := by decide +kernel
theorem d_CM_init_26 : decode b_CM_init 26 = .ok (.return_, 1) := by decide +kernel
theorem d_PA_init_0 : decode b_PA_init 0 = .ok (.aload_n 0, 1) := by decide +kernel
theorem d_PA_init_1 : decode b_PA_init 1 = .ok (.invokespecial 1, 3) := by decide +kernel
theorem d_PA_init_4 : decode b_PA_init 4 = .ok (.aload_n 0, 1) := by decide +kernel
theorem d_PA_init_5 : decode b_PA_init 5 = .ok (.iconst 0, 1) := by decide +kernel
theorem d_PA_init_6 : decode b_PA_init 6 = .ok (.putfield 7, 3) := by decide +kernel
theorem d_PA_init_9 : decode b_PA_init 9 = .ok (.aload_n 0, 1) := by decide +kernel
theorem d_PA_init_10 : decode b_PA_init 10 = .ok (.new 13, 3) := by decide +kernel
theorem d_PA_init_13 : decode b_PA_init 13 = .ok (.dup, 1) := by decide +kernel
theorem d_PA_init_14 : decode b_PA_init 14 = .ok (.aload_n 1, 1) := by decide +kernel
theorem d_PA_init_15 : decode b_PA_init 15 = .ok (.invokespecial 15, 3) := by decide +kernel
theorem d_PA_init_18 : decode b_PA_init 18 = .ok (.putfield 18, 3) := by decide +kernel
theorem d_PA_init_21 : decode b_PA_init 21 = .ok (.return_, 1) := by decide +kernel
theorem d_DI_init_0 : decode b_DI_init 0 = .ok (.aload_n 0, 1) := by decide +kernel
theorem d_DI_init_1 : decode b_DI_init 1 = .ok (.invokespecial 1, 3) := by decide +kernel
theorem d_DI_init_4 : decode b_DI_init 4 = .ok (.aload_n 0, 1) := by decide +kernel
theorem d_DI_init_5 : decode b_DI_init 5 = .ok (.iconst 0, 1) := by decide +kernel
theorem d_DI_init_6 : decode b_DI_init 6 = .ok (.putfield 7, 3) := by decide +kernel
theorem d_DI_init_9 : decode b_DI_init 9 = .ok (.aload_n 0, 1) := by decide +kernel
theorem d_DI_init_10 : decode b_DI_init 10 = .ok (.new 13, 3) := by decide +kernel
theorem d_DI_init_13 : decode b_DI_init 13 = .ok (.dup, 1) := by decide +kernel
theorem d_DI_init_14 : decode b_DI_init 14 = .ok (.aload_n 1, 1) := by decide +kernel
theorem d_DI_init_15 : decode b_DI_init 15 = .ok (.invokespecial 15, 3) := by decide +kernel
theorem d_DI_init_18 : decode b_DI_init 18 = .ok (.putfield 18, 3) := by decide +kernel
theorem d_DI_init_21 : decode b_DI_init 21 = .ok (.aload_n 0, 1) := by decide +kernel
theorem d_DI_init_22 : decode b_DI_init 22 = .ok (.new 13, 3) := by decide +kernel
theorem d_DI_init_25 : decode b_DI_init 25 = .ok (.dup, 1) := by decide +kernel
theorem d_DI_init_26 : decode b_DI_init 26 = .ok (.aload_n 1, 1) := by decide +kernel
theorem d_DI_init_27 : decode b_DI_init 27 = .ok (.invokespecial 15, 3) := by decide +kernel
theorem d_DI_init_30 : decode b_DI_init 30 = .ok (.putfield 22, 3) := by decide +kernel
theorem d_DI_init_33 : decode b_DI_init 33 = .ok (.return_, 1) := by decide +kernel
theorem d_FO_init_0 : decode b_FO_init 0 = .ok (.aload_n 0, 1) := by decide +kernel
theorem d_FO_init_1 : decode b_FO_init 1 = .ok (.invokespecial 3, 3) := by decide +kernel
theorem d_FO_init_4 : decode b_FO_init 4 = .ok (.aload_n 0, 1) := by decide +kernel
theorem d_FO_init_5 : decode b_FO_init 5 = .ok (.sipush 1200, 3) := by decide +kernel
theorem d_FO_init_8 : decode b_FO_init 8 = .ok (.newarray .int, 2) := by decide +kernel
theorem d_FO_init_10 : decode b_FO_init 10 = .ok (.putfield 9, 3) := by decide +kernel
theorem d_FO_init_13 : decode b_FO_init 13 = .ok (.aload_n 0, 1) := by decide +kernel
theorem d_FO_init_14 : decode b_FO_init 14 = .ok (.new 15, 3) := by decide +kernel
theorem d_FO_init_17 : decode b_FO_init 17 = .ok (.dup, 1) := by decide +kernel
theorem d_FO_init_18 : decode b_FO_init 18 = .ok (.aload_n 0, 1) := by decide +kernel
theorem d_FO_init_19 : decode b_FO_init 19 = .ok (.getfield 9, 3) := by decide +kernel
theorem d_FO_init_22 : decode b_FO_init 22 = .ok (.invokespecial 17, 3) := by decide +kernel
theorem d_FO_init_25 : decode b_FO_init 25 = .ok (.putfield 20, 3) := by decide +kernel
theorem d_FO_init_28 : decode b_FO_init 28 = .ok (.aload_n 0, 1) := by decide +kernel
theorem d_FO_init_29 : decode b_FO_init 29 = .ok (.new 24, 3) := by decide +kernel
theorem d_FO_init_32 : decode b_FO_init 32 = .ok (.dup, 1) := by decide +kernel
theorem d_FO_init_33 : decode b_FO_init 33 = .ok (.aload_n 0, 1) := by decide +kernel
theorem d_FO_init_34 : decode b_FO_init 34 = .ok (.getfield 9, 3) := by decide +kernel
theorem d_FO_init_37 : decode b_FO_init 37 = .ok (.invokespecial 26, 3) := by decide +kernel
theorem d_FO_init_40 : decode b_FO_init 40 = .ok (.putfield 27, 3) := by decide +kernel
theorem d_FO_init_43 : decode b_FO_init 43 = .ok (.aload_n 0, 1) := by decide +kernel
theorem d_FO_init_44 : decode b_FO_init 44 = .ok (.new 24, 3) := by decide +kernel
theorem d_FO_init_47 : decode b_FO_init 47 = .ok (.dup, 1) := by decide +kernel
theorem d_FO_init_48 : decode b_FO_init 48 = .ok (.aload_n 0, 1) := by decide +kernel
theorem d_FO_init_49 : decode b_FO_init 49 = .ok (.getfield 9, 3) := by decide +kernel
theorem d_FO_init_52 : decode b_FO_init 52 = .ok (.invokespecial 26, 3) := by decide +kernel
theorem d_FO_init_55 : decode b_FO_init 55 = .ok (.putfield 31, 3) := by decide +kernel
theorem d_FO_init_58 : decode b_FO_init 58 = .ok (.aload_n 0, 1) := by decide +kernel
theorem d_FO_init_59 : decode b_FO_init 59 = .ok (.new 24, 3) := by decide +kernel
theorem d_FO_init_62 : decode b_FO_init 62 = .ok (.dup, 1) := by decide +kernel
theorem d_FO_init_63 : decode b_FO_init 63 = .ok (.aload_n 0, 1) := by decide +kernel
theorem d_FO_init_64 : decode b_FO_init 64 = .ok (.getfield 9, 3) := by decide +kernel
theorem d_FO_init_67 : decode b_FO_init 67 = .ok (.invokespecial 26, 3) := by decide +kernel
theorem d_FO_init_70 : decode b_FO_init 70 = .ok (.putfield 34, 3) := by decide +kernel
theorem d_FO_init_73 : decode b_FO_init 73 = .ok (.aload_n 0, 1) := by decide +kernel
theorem d_FO_init_74 : decode b_FO_init 74 = .ok (.new 24, 3) := by decide +kernel
theorem d_FO_init_77 : decode b_FO_init 77 = .ok (.dup, 1) := by decide +kernel
theorem d_FO_init_78 : decode b_FO_init 78 = .ok (.aload_n 0, 1) := by decide +kernel
theorem d_FO_init_79 : decode b_FO_init 79 = .ok (.getfield 9, 3) := by decide +kernel
theorem d_FO_init_82 : decode b_FO_init 82 = .ok (.invokespecial 26, 3) := by decide +kernel
theorem d_FO_init_85 : decode b_FO_init 85 = .ok (.putfield 37, 3) := by decide +kernel
theorem d_FO_init_88 : decode b_FO_init 88 = .ok (.aload_n 0, 1) := by decide +kernel
theorem d_FO_init_89 : decode b_FO_init 89 = .ok (.new 24, 3) := by decide +kernel
theorem d_FO_init_92 : decode b_FO_init 92 = .ok (.dup, 1) := by decide +kernel
theorem d_FO_init_93 : decode b_FO_init 93 = .ok (.aload_n 0, 1) := by decide +kernel
theorem d_FO_init_94 : decode b_FO_init 94 = .ok (.getfield 9, 3) := by decide +kernel
theorem d_FO_init_97 : decode b_FO_init 97 = .ok (.invokespecial 26, 3) := by decide +kernel
theorem d_FO_init_100 : decode b_FO_init 100 = .ok (.putfield 40, 3) := by decide +kernel
theorem d_FO_init_103 : decode b_FO_init 103 = .ok (.aload_n 0, 1) := by decide +kernel
theorem d_FO_init_104 : decode b_FO_init 104 = .ok (.new 24, 3) := by decide +kernel
theorem d_FO_init_107 : decode b_FO_init 107 = .ok (.dup, 1) := by decide +kernel
theorem d_FO_init_108 : decode b_FO_init 108 = .ok (.aload_n 0, 1) := by decide +kernel
theorem d_FO_init_109 : decode b_FO_init 109 = .ok (.getfield 9, 3) := by decide +kernel
theorem d_FO_init_112 : decode b_FO_init 112 = .ok (.invokespecial 26, 3) := by decide +kernel
theorem d_FO_init_115 : decode b_FO_init 115 = .ok (.putfield 43, 3) := by decide +kernel
theorem d_FO_init_118 : decode b_FO_init 118 = .ok (.aload_n 0, 1) := by decide +kernel
theorem d_FO_init_119 : decode b_FO_init 119 = .ok (.new 46, 3) := by decide +kernel
theorem d_FO_init_122 : decode b_FO_init 122 = .ok (.dup, 1) := by decide +kernel
theorem d_FO_init_123 : decode b_FO_init 123 = .ok (.aload_n 0, 1) := by decide +kernel
theorem d_FO_init_124 : decode b_FO_init 124 = .ok (.getfield 9, 3) := by decide +kernel
theorem d_FO_init_127 : decode b_FO_init 127 = .ok (.invokespecial 48, 3) := by decide +kernel
theorem d_FO_init_130 : decode b_FO_init 130 = .ok (.putfield 49, 3) := by decide +kernel
theorem d_FO_init_133 : decode b_FO_init 133 = .ok (.aload_n 0, 1) := by decide +kernel
theorem d_FO_init_134 : decode b_FO_init 134 = .ok (.new 53, 3) := by decide +kernel
theorem d_FO_init_137 : decode b_FO_init 137 = .ok (.dup, 1) := by decide +kernel
theorem d_FO_init_138 : decode b_FO_init 138 = .ok (.aload_n 0, 1) := by decide +kernel
theorem d_FO_init_139 : decode b_FO_init 139 = .ok (.getfield 9, 3) := by decide +kernel
theorem d_FO_init_142 : decode b_FO_init 142 = .ok (.invokespecial 55, 3) := by decide +kernel
theorem d_FO_init_145 : decode b_FO_init 145 = .ok (.putfield 56, 3) := by decide +kernel
theorem d_FO_init_148 : decode b_FO_init 148 = .ok (.aload_n 0, 1) := by decide +kernel
theorem d_FO_init_149 : decode b_FO_init 149 = .ok (.iconst 3, 1) := by decide +kernel
theorem d_FO_init_150 : decode b_FO_init 150 = .ok (.anewarray 24, 3) := by decide +kernel
theorem d_FO_init_153 : decode b_FO_init 153 = .ok (.dup, 1) := by decide +kernel
theorem d_FO_init_154 : decode b_FO_init 154 = .ok (.iconst 0, 1) := by decide +kernel
theorem d_FO_init_155 : decode b_FO_init 155 = .ok (.new 24, 3) := by decide +kernel
theorem d_FO_init_158 : decode b_FO_init 158 = .ok (.dup, 1) := by decide +kernel
theorem d_FO_init_159 : decode b_FO_init 159 = .ok (.aload_n 0, 1) := by decide +kernel
theorem d_FO_init_160 : decode b_FO_init 160 = .ok (.getfield 9, 3) := by decide +kernel
theorem d_FO_init_163 : decode b_FO_init 163 = .ok (.invokespecial 26, 3) := by decide +kernel
theorem d_FO_init_166 : decode b_FO_init 166 = .ok (.aastore, 1) := by decide +kernel
theorem d_FO_init_167 : decode b_FO_init 167 = .ok (.dup, 1) := by decide +kernel
theorem d_FO_init_168 : decode b_FO_init 168 = .ok (.iconst 1, 1) := by decide +kernel
theorem d_FO_init_169 : decode b_FO_init 169 = .ok (.new 24, 3) := by decide +kernel
theorem d_FO_init_172 : decode b_FO_init 172 = .ok (.dup, 1) := by decide +kernel
theorem d_FO_init_173 : decode b_FO_init 173 = .ok (.aload_n 0, 1) := by decide +kernel
theorem d_FO_init_174 : decode b_FO_init 174 = .ok (.getfield 9, 3) := by decide +kernel
theorem d_FO_init_177 : decode b_FO_init 177 = .ok (.invokespecial 26, 3) := by decide +kernel
theorem d_FO_init_180 : decode b_FO_init 180 = .ok (.aastore, 1) := by decide +kernel
theorem d_FO_init_181 : decode b_FO_init 181 = .ok (.dup, 1) := by decide +kernel
theorem d_FO_init_182 : decode b_FO_init 182 = .ok (.iconst 2, 1) := by decide +kernel
theorem d_FO_init_183 : decode b_FO_init 183 = .ok (.new 24, 3) := by decide +kernel
theorem d_FO_init_186 : decode b_FO_init 186 = .ok (.dup, 1) := by decide +kernel
theorem d_FO_init_187 : decode b_FO_init 187 = .ok (.aload_n 0, 1) := by decide +kernel
theorem d_FO_init_188 : decode b_FO_init 188 = .ok (.getfield 9, 3) := by decide +kernel
theorem d_FO_init_191 : decode b_FO_init 191 = .ok (.invokespecial 26, 3) := by decide +kernel
theorem d_FO_init_194 : decode b_FO_init 194 = .ok (.aastore, 1) := by decide +kernel
theorem d_FO_init_195 : decode b_FO_init 195 = .ok (.putfield 60, 3) := by decide +kernel
theorem d_FO_init_198 : decode b_FO_init 198 = .ok (.aload_n 0, 1) := by decide +kernel
theorem d_FO_init_199 : decode b_FO_init 199 = .ok (.bipush 64, 2) := by decide +kernel
theorem d_FO_init_201 : decode b_FO_init 201 = .ok (.putfield 64, 3) := by decide +kernel
theorem d_FO_init_204 : decode b_FO_init 204 = .ok (.aload_n 0, 1) := by decide +kernel
theorem d_FO_init_205 : decode b_FO_init 205 = .ok (.iconst 0, 1) := by decide +kernel
theorem d_FO_init_206 : decode b_FO_init 206 = .ok (.putfield 68, 3) := by decide +kernel
theorem d_FO_init_209 : decode b_FO_init 209 = .ok (.aload_n 0, 1) := by decide +kernel
theorem d_FO_init_210 : decode b_FO_init 210 = .ok (.iconst 0, 1) := by decide +kernel
theorem d_FO_init_211 : decode b_FO_init 211 = .ok (.putfield 71, 3) := by decide +kernel
theorem d_FO_init_214 : decode b_FO_init 214 = .ok (.aload_n 0, 1) := by decide +kernel
theorem d_FO_init_215 : decode b_FO_init 215 = .ok (.iconst 0, 1) := by decide +kernel
theorem d_FO_init_216 : decode b_FO_init 216 = .ok (.putfield 74, 3) := by decide +kernel
theorem d_FO_init_219 : decode b_FO_init 219 = .ok (.return_, 1) := by decide +kernel
theorem d_MO_init_0 : decode b_MO_init 0 = .ok (.aload_n 0, 1) := by decide +kernel
theorem d_MO_init_1 : decode b_MO_init 1 = .ok (.invokespecial 1, 3) := by decide +kernel
theorem d_MO_init_4 : decode b_MO_init 4 = .ok (.aload_n 0, 1) := by decide +kernel
theorem d_MO_init_5 : decode b_MO_init 5 = .ok (.iconst 0, 1) := by decide +kernel
theorem d_MO_init_6 : decode b_MO_init 6 = .ok (.putfield 7, 3) := by decide +kernel
theorem d_MO_init_9 : decode b_MO_init 9 = .ok (.aload_n 0, 1) := by decide +kernel
theorem d_MO_init_10 : decode b_MO_init 10 = .ok (.iconst 0, 1) := by decide +kernel
theorem d_MO_init_11 : decode b_MO_init 11 = .ok (.putfield 13, 3) := by decide +kernel
theorem d_MO_init_14 : decode b_MO_init 14 = .ok (.aload_n 0, 1) := by decide +kernel
theorem d_MO_init_15 : decode b_MO_init 15 = .ok (.iconst 0, 1) := by decide +kernel
theorem d_MO_init_16 : decode b_MO_init 16 = .ok (.putfield 16, 3) := by decide +kernel
theorem d_MO_init_19 : decode b_MO_init 19 = .ok (.aload_n 0, 1) := by decide +kernel
theorem d_MO_init_20 : decode b_MO_init 20 = .ok (.iconst 0, 1) := by decide +kernel
theorem d_MO_init_21 : decode b_MO_init 21 = .ok (.putfield 19, 3) := by decide +kernel
theorem d_MO_init_24 : decode b_MO_init 24 = .ok (.aload_n 0, 1) := by decide +kernel
theorem d_MO_init_25 : decode b_MO_init 25 = .ok (.iconst 0, 1) := by decide +kernel
theorem d_MO_init_26 : decode b_MO_init 26 = .ok (.putfield 22, 3) := by decide +kernel
theorem d_MO_init_29 : decode b_MO_init 29 = .ok (.aload_n 0, 1) := by decide +kernel
theorem d_MO_init_30 : decode b_MO_init 30 = .ok (.iconst 0, 1) := by decide +kernel
theorem d_MO_init_31 : decode b_MO_init 31 = .ok (.putfield 25, 3) := by decide +kernel
theorem d_MO_init_34 : decode b_MO_init 34 = .ok (.return_, 1) := by decide +kernel
theorem d_OU_init_0 : decode b_OU_init 0 = .ok (.aload_n 0, 1) := by decide +kernel
theorem d_OU_init_1 : decode b_OU_init 1 = .ok (.invokespecial 1, 3) := by decide +kernel
theorem d_OU_init_4 : decode b_OU_init 4 = .ok (.aload_n 0, 1) := by decide +kernel
theorem d_OU_init_5 : decode b_OU_init 5 = .ok (.bipush 64, 2) := by decide +kernel
theorem d_OU_init_7 : decode b_OU_init 7 = .ok (.newarray .int, 2) := by decide +kernel
theorem d_OU_init_9 : decode b_OU_init 9 = .ok (.putfield 9, 3) := by decide +kernel
theorem d_OU_init_12 : decode b_OU_init 12 = .ok (.aload_n 0, 1) := by decide +kernel
theorem d_OU_init_13 : decode b_OU_init 13 = .ok (.bipush 64, 2) := by decide +kernel
theorem d_OU_init_15 : decode b_OU_init 15 = .ok (.newarray .int, 2) := by decide +kernel
theorem d_OU_init_17 : decode b_OU_init 17 = .ok (.putfield 13, 3) := by decide +kernel
theorem d_OU_init_20 : decode b_OU_init 20 = .ok (.aload_n 0, 1) := by decide +kernel
theorem d_OU_init_21 : decode b_OU_init 21 = .ok (.bipush 64, 2) := by decide +kernel
theorem d_OU_init_23 : decode b_OU_init 23 = .ok (.newarray .boolean, 2) := by decide +kernel
theorem d_OU_init_25 : decode b_OU_init 25 = .ok (.putfield 16, 3) := by decide +kernel
theorem d_OU_init_28 : decode b_OU_init 28 = .ok (.aload_n 0, 1) := by decide +kernel
theorem d_OU_init_29 : decode b_OU_init 29 = .ok (.bipush 64, 2) := by decide +kernel
theorem d_OU_init_31 : decode b_OU_init 31 = .ok (.newarray .int, 2) := by decide +kernel
theorem d_OU_init_33 : decode b_OU_init 33 = .ok (.putfield 20, 3) := by decide +kernel
theorem d_OU_init_36 : decode b_OU_init 36 = .ok (.aload_n 0, 1) := by decide +kernel
theorem d_OU_init_37 : decode b_OU_init 37 = .ok (.bipush 24, 2) := by decide +kernel
theorem d_OU_init_39 : decode b_OU_init 39 = .ok (.newarray .int, 2) := by decide +kernel
theorem d_OU_init_41 : decode b_OU_init 41 = .ok (.putfield 23, 3) := by decide +kernel
theorem d_OU_init_44 : decode b_OU_init 44 = .ok (.aload_n 0, 1) := by decide +kernel
theorem d_OU_init_45 : decode b_OU_init 45 = .ok (.new 26, 3) := by decide +kernel
theorem d_OU_init_48 : decode b_OU_init 48 = .ok (.dup, 1) := by decide +kernel
theorem d_OU_init_49 : decode b_OU_init 49 = .ok (.invokespecial 28, 3) := by decide +kernel
theorem d_OU_init_52 : decode b_OU_init 52 = .ok (.putfield 29, 3) := by decide +kernel
theorem d_OU_init_55 : decode b_OU_init 55 = .ok (.aload_n 0, 1) := by decide +kernel
theorem d_OU_init_56 : decode b_OU_init 56 = .ok (.iconst 0, 1) := by decide +kernel
theorem d_OU_init_57 : decode b_OU_init 57 = .ok (.putfield 33, 3) := by decide +kernel
theorem d_OU_init_60 : decode b_OU_init 60 = .ok (.aload_n 0, 1) := by decide +kernel
theorem d_OU_init_61 : decode b_OU_init 61 = .ok (.iconst 0, 1) := by decide +kernel
theorem d_OU_init_62 : decode b_OU_init 62 = .ok (.putfield 37, 3) := by decide +kernel
theorem d_OU_init_65 : decode b_OU_init 65 = .ok (.return_, 1) := by decide +kernel
theorem d_PI_init_0 : decode b_PI_init 0 = .ok (.aload_n 0, 1) := by decide +kernel
theorem d_PI_init_1 : decode b_PI_init 1 = .ok (.invokespecial 1, 3) := by decide +kernel
theorem d_PI_init_4 : decode b_PI_init 4 = .ok (.aload_n 0, 1) := by decide +kernel
theorem d_PI_init_5 : decode b_PI_init 5 = .ok (.bipush 24, 2) := by decide +kernel
theorem d_PI_init_7 : decode b_PI_init 7 = .ok (.newarray .long, 2) := by decide +kernel
theorem d_PI_init_9 : decode b_PI_init 9 = .ok (.putfield 9, 3) := by decide +kernel
theorem d_PI_init_12 : decode b_PI_init 12 = .ok (.aload_n 0, 1) := by decide +kernel
theorem d_PI_init_13 : decode b_PI_init 13 = .ok (.sipush 1152, 3) := by decide +kernel
theorem d_PI_init_16 : decode b_PI_init 16 = .ok (.newarray .int, 2) := by decide +kernel
theorem d_PI_init_18 : decode b_PI_init 18 = .ok (.putfield 13, 3) := by decide +kernel
theorem d_PI_init_21 : decode b_PI_init 21 = .ok (.return_, 1) := by decide +kernel
theorem d_BR_init_0 : decode b_BR_init 0 = .ok (.aload_n 0, 1) := by decide +kernel
theorem d_BR_init_1 : decode b_BR_init 1 = .ok (.invokespecial 3, 3) := by decide +kernel
theorem d_BR_init_4 : decode b_BR_init 4 = .ok (.aload_n 0, 1) := by decide +kernel
theorem d_BR_init_5 : decode b_BR_init 5 = .ok (.bipush 48, 2) := by decide +kernel
theorem d_BR_init_7 : decode b_BR_init 7 = .ok (.newarray .int, 2) := by decide +kernel
theorem d_BR_init_9 : decode b_BR_init 9 = .ok (.putfield 11, 3) := by decide +kernel
theorem d_BR_init_12 : decode b_BR_init 12 = .ok (.aload_n 0, 1) := by decide +kernel
theorem d_BR_init_13 : decode b_BR_init 13 = .ok (.bipush 48, 2) := by decide +kernel
theorem d_BR_init_15 : decode b_BR_init 15 = .ok (.newarray .int, 2) := by decide +kernel
theorem d_BR_init_17 : decode b_BR_init 17 = .ok (.putfield 17, 3) := by decide +kernel
theorem d_BR_init_20 : decode b_BR_init 20 = .ok (.aload_n 0, 1) := by decide +kernel
theorem d_BR_init_21 : decode b_BR_init 21 = .ok (.bipush 48, 2) := by decide +kernel
theorem d_BR_init_23 : decode b_BR_init 23 = .ok (.newarray .boolean, 2) := by decide +kernel
theorem d_BR_init_25 : decode b_BR_init 25 = .ok (.putfield 20, 3) := by decide +kernel
theorem d_BR_init_28 : decode b_BR_init 28 = .ok (.aload_n 0, 1) := by decide +kernel
theorem d_BR_init_29 : decode b_BR_init 29 = .ok (.iconst 0, 1) := by decide +kernel
theorem d_BR_init_30 : decode b_BR_init 30 = .ok (.putfield 24, 3) := by decide +kernel
theorem d_BR_init_33 : decode b_BR_init 33 = .ok (.aload_n 0, 1) := by decide +kernel
theorem d_BR_init_34 : decode b_BR_init 34 = .ok (.iconst 1, 1) := by decide +kernel
theorem d_BR_init_35 : decode b_BR_init 35 = .ok (.putfield 28, 3) := by decide +kernel
theorem d_BR_init_38 : decode b_BR_init 38 = .ok (.aload_n 0, 1) := by decide +kernel
theorem d_BR_init_39 : decode b_BR_init 39 = .ok (.iconst 0, 1) := by decide +kernel
theorem d_BR_init_40 : decode b_BR_init 40 = .ok (.putfield 31, 3) := by decide +kernel
theorem d_BR_init_43 : decode b_BR_init 43 = .ok (.aload_n 0, 1) := by decide +kernel
theorem d_BR_init_44 : decode b_BR_init 44 = .ok (.iconst 0, 1) := by decide +kernel
theorem d_BR_init_45 : decode b_BR_init 45 = .ok (.putfield 34, 3) := by decide +kernel
theorem d_BR_init_48 : decode b_BR_init 48 = .ok (.aload_n 0, 1) := by decide +kernel
theorem d_BR_init_49 : decode b_BR_init 49 = .ok (.iconst (-1), 1) := by decide +kernel
theorem d_BR_init_50 : decode b_BR_init 50 = .ok (.putfield 37, 3) := by decide +kernel
theorem d_BR_init_53 : decode b_BR_init 53 = .ok (.aload_n 0, 1) := by decide +kernel
theorem d_BR_init_54 : decode b_BR_init 54 = .ok (.aload_n 1, 1) := by decide +kernel
theorem d_BR_init_55 : decode b_BR_init 55 = .ok (.putfield 40, 3) := by decide +kernel
theorem d_BR_init_58 : decode b_BR_init 58 = .ok (.aload_n 0, 1) := by decide +kernel
theorem d_BR_init_59 : decode b_BR_init 59 = .ok (.aload_n 2, 1) := by decide +kernel
theorem d_BR_init_60 : decode b_BR_init 60 = .ok (.putfield 44, 3) := by decide +kernel
theorem d_BR_init_63 : decode b_BR_init 63 = .ok (.return_, 1) := by decide +kernel
theorem d_GL_init_0 : decode b_GL_init 0 = .ok (.aload_n 0, 1) := by decide +kernel
theorem d_GL_init_1 : decode b_GL_init 1 = .ok (.invokespecial 1, 3) := by decide +kernel
theorem d_GL_init_4 : decode b_GL_init 4 = .ok (.aload_n 0, 1) := by decide +kernel
theorem d_GL_init_5 : decode b_GL_init 5 = .ok (.sipush 1200, 3) := by decide +kernel
theorem d_GL_init_8 : decode b_GL_init 8 = .ok (.newarray .int, 2) := by decide +kernel
theorem d_GL_init_10 : decode b_GL_init 10 = .ok (.putfield 9, 3) := by decide +kernel
theorem d_GL_init_13 : decode b_GL_init 13 = .ok (.aload_n 0, 1) := by decide +kernel
theorem d_GL_init_14 : decode b_GL_init 14 = .ok (.iconst 0, 1) := by decide +kernel
theorem d_GL_init_15 : decode b_GL_init 15 = .ok (.putfield 13, 3) := by decide +kernel
theorem d_GL_init_18 : decode b_GL_init 18 = .ok (.aload_n 0, 1) := by decide +kernel
theorem d_GL_init_19 : decode b_GL_init 19 = .ok (.new 17, 3) := by decide +kernel
theorem d_GL_init_22 : decode b_GL_init 22 = .ok (.dup, 1) := by decide +kernel
theorem d_GL_init_23 : decode b_GL_init 23 = .ok (.invokespecial 19, 3) := by decide +kernel
theorem d_GL_init_26 : decode b_GL_init 26 = .ok (.putfield 20, 3) := by decide +kernel
theorem d_GL_init_29 : decode b_GL_init 29 = .ok (.aload_n 0, 1) := by decide +kernel
theorem d_GL_init_30 : decode b_GL_init 30 = .ok (.new 17, 3) := by decide +kernel
theorem d_GL_init_33 : decode b_GL_init 33 = .ok (.dup, 1) := by decide +kernel
theorem d_GL_init_34 : decode b_GL_init 34 = .ok (.invokespecial 19, 3) := by decide +kernel
theorem d_GL_init_37 : decode b_GL_init 37 = .ok (.putfield 24, 3) := by decide +kernel
theorem d_GL_init_40 : decode b_GL_init 40 = .ok (.aload_n 0, 1) := by decide +kernel
theorem d_GL_init_41 : decode b_GL_init 41 = .ok (.iconst 0, 1) := by decide +kernel
theorem d_GL_init_42 : decode b_GL_init 42 = .ok (.putfield 27, 3) := by decide +kernel
theorem d_GL_init_45 : decode b_GL_init 45 = .ok (.aload_n 0, 1) := by decide +kernel
theorem d_GL_init_46 : decode b_GL_init 46 = .ok (.new 31, 3) := by decide +kernel
theorem d_GL_init_49 : decode b_GL_init 49 = .ok (.dup, 1) := by decide +kernel
theorem d_GL_init_50 : decode b_GL_init 50 = .ok (.invokespecial 33, 3) := by decide +kernel
theorem d_GL_init_53 : decode b_GL_init 53 = .ok (.putfield 34, 3) := by decide +kernel
theorem d_GL_init_56 : decode b_GL_init 56 = .ok (.aload_n 0, 1) := by decide +kernel
theorem d_GL_init_57 : decode b_GL_init 57 = .ok (.new 38, 3) := by decide +kernel
theorem d_GL_init_60 : decode b_GL_init 60 = .ok (.dup, 1) := by decide +kernel
theorem d_GL_init_61 : decode b_GL_init 61 = .ok (.invokespecial 40, 3) := by decide +kernel
theorem d_GL_init_64 : decode b_GL_init 64 = .ok (.putfield 41, 3) := by decide +kernel
theorem d_GL_init_67 : decode b_GL_init 67 = .ok (.aload_n 0, 1) := by decide +kernel
theorem d_GL_init_68 : decode b_GL_init 68 = .ok (.new 45, 3) := by decide +kernel
theorem d_GL_init_71 : decode b_GL_init 71 = .ok (.dup, 1) := by decide +kernel
theorem d_GL_init_72 : decode b_GL_init 72 = .ok (.aload_n 0, 1) := by decide +kernel
theorem d_GL_init_73 : decode b_GL_init 73 = .ok (.getfield 41, 3) := by decide +kernel
theorem d_GL_init_76 : decode b_GL_init 76 = .ok (.aload_n 0, 1) := by decide +kernel
theorem d_GL_init_77 : decode b_GL_init 77 = .ok (.getfield 34, 3) := by decide +kernel
theorem d_GL_init_80 : decode b_GL_init 80 = .ok (.invokespecial 47, 3) := by decide +kernel
theorem d_GL_init_83 : decode b_GL_init 83 = .ok (.putfield 50, 3) := by decide +kernel
theorem d_GL_init_86 : decode b_GL_init 86 = .ok (.aload_n 0, 1) := by decide +kernel
theorem d_GL_init_87 : decode b_GL_init 87 = .ok (.bipush 12, 2) := by decide +kernel
theorem d_GL_init_89 : decode b_GL_init 89 = .ok (.newarray .int, 2) := by decide +kernel
theorem d_GL_init_91 : decode b_GL_init 91 = .ok (.putfield 54, 3) := by decide +kernel
theorem d_GL_init_94 : decode b_GL_init 94 = .ok (.aload_n 0, 1) := by decide +kernel
theorem d_GL_init_95 : decode b_GL_init 95 = .ok (.iconst 0, 1) := by decide +kernel
theorem d_GL_init_96 : decode b_GL_init 96 = .ok (.putfield 57, 3) := by decide +kernel
theorem d_GL_init_99 : decode b_GL_init 99 = .ok (.return_, 1) := by decide +kernel
theorem d_MD_init_0 : decode b_MD_init 0 = .ok (.aload_n 0, 1) := by decide +kernel
theorem d_MD_init_1 : decode b_MD_init 1 = .ok (.invokespecial 1, 3) := by decide +kernel
theorem d_MD_init_4 : decode b_MD_init 4 = .ok (.aload_n 0, 1) := by decide +kernel
theorem d_MD_init_5 : decode b_MD_init 5 = .ok (.sipush 1200, 3) := by decide +kernel
theorem d_MD_init_8 : decode b_MD_init 8 = .ok (.newarray .int, 2) := by decide +kernel
theorem d_MD_init_10 : decode b_MD_init 10 = .ok (.putfield 7, 3) := by decide +kernel
theorem d_MD_init_13 : decode b_MD_init 13 = .ok (.aload_n 0, 1) := by decide +kernel
theorem d_MD_init_14 : decode b_MD_init 14 = .ok (.sipush 2400, 3) := by decide +kernel
theorem d_MD_init_17 : decode b_MD_init 17 = .ok (.newarray .int, 2) := by decide +kernel
theorem d_MD_init_19 : decode b_MD_init 19 = .ok (.putfield 13, 3) := by decide +kernel
theorem d_MD_init_22 : decode b_MD_init 22 = .ok (.aload_n 0, 1) := by decide +kernel
theorem d_MD_init_23 : decode b_MD_init 23 = .ok (.bipush 16, 2) := by decide +kernel
theorem d_MD_init_25 : decode b_MD_init 25 = .ok (.newarray .int, 2) := by decide +kernel
theorem d_MD_init_27 : decode b_MD_init 27 = .ok (.putfield 16, 3) := by decide +kernel
theorem d_MD_init_30 : decode b_MD_init 30 = .ok (.aload_n 0, 1) := by decide +kernel
theorem d_MD_init_31 : decode b_MD_init 31 = .ok (.bipush 16, 2) := by decide +kernel
theorem d_MD_init_33 : decode b_MD_init 33 = .ok (.newarray .int, 2) := by decide +kernel
theorem d_MD_init_35 : decode b_MD_init 35 = .ok (.putfield 19, 3) := by decide +kernel
theorem d_MD_init_38 : decode b_MD_init 38 = .ok (.aload_n 0, 1) := by decide +kernel
theorem d_MD_init_39 : decode b_MD_init 39 = .ok (.iconst 2, 1) := by decide +kernel
theorem d_MD_init_40 : decode b_MD_init 40 = .ok (.newarray .int, 2) := by decide +kernel
theorem d_MD_init_42 : decode b_MD_init 42 = .ok (.putfield 22, 3) := by decide +kernel
theorem d_MD_init_45 : decode b_MD_init 45 = .ok (.aload_n 0, 1) := by decide +kernel
theorem d_MD_init_46 : decode b_MD_init 46 = .ok (.iconst 2, 1) := by decide +kernel
theorem d_MD_init_47 : decode b_MD_init 47 = .ok (.newarray .int, 2) := by decide +kernel
theorem d_MD_init_49 : decode b_MD_init 49 = .ok (.putfield 25, 3) := by decide +kernel
theorem d_MD_init_52 : decode b_MD_init 52 = .ok (.aload_n 0, 1) := by decide +kernel
theorem d_MD_init_53 : decode b_MD_init 53 = .ok (.iconst 2, 1) := by decide +kernel
theorem d_MD_init_54 : decode b_MD_init 54 = .ok (.newarray .int, 2) := by decide +kernel
theorem d_MD_init_56 : decode b_MD_init 56 = .ok (.putfield 28, 3) := by decide +kernel
theorem d_MD_init_59 : decode b_MD_init 59 = .ok (.aload_n 0, 1) := by decide +kernel
theorem d_MD_init_60 : decode b_MD_init 60 = .ok (.iconst 2, 1) := by decide +kernel
theorem d_MD_init_61 : decode b_MD_init 61 = .ok (.newarray .int, 2) := by decide +kernel
theorem d_MD_init_63 : decode b_MD_init 63 = .ok (.putfield 31, 3) := by decide +kernel
theorem d_MD_init_66 : decode b_MD_init 66 = .ok (.aload_n 0, 1) := by decide +kernel
theorem d_MD_init_67 : decode b_MD_init 67 = .ok (.iconst 2, 1) := by decide +kernel
theorem d_MD_init_68 : decode b_MD_init 68 = .ok (.newarray .int, 2) := by decide +kernel
theorem d_MD_init_70 : decode b_MD_init 70 = .ok (.putfield 34, 3) := by decide +kernel
theorem d_MD_init_73 : decode b_MD_init 73 = .ok (.aload_n 0, 1) := by decide +kernel
theorem d_MD_init_74 : decode b_MD_init 74 = .ok (.iconst 2, 1) := by decide +kernel
theorem d_MD_init_75 : decode b_MD_init 75 = .ok (.newarray .int, 2) := by decide +kernel
theorem d_MD_init_77 : decode b_MD_init 77 = .ok (.putfield 37, 3) := by decide +kernel
theorem d_MD_init_80 : decode b_MD_init 80 = .ok (.aload_n 0, 1) := by decide +kernel
theorem d_MD_init_81 : decode b_MD_init 81 = .ok (.bipush 32, 2) := by decide +kernel
theorem d_MD_init_83 : decode b_MD_init 83 = .ok (.newarray .int, 2) := by decide +kernel
theorem d_MD_init_85 : decode b_MD_init 85 = .ok (.putfield 40, 3) := by decide +kernel
theorem d_MD_init_88 : decode b_MD_init 88 = .ok (.aload_n 0, 1) := by decide +kernel
theorem d_MD_init_89 : decode b_MD_init 89 = .ok (.bipush 32, 2) := by decide +kernel
theorem d_MD_init_91 : decode b_MD_init 91 = .ok (.newarray .int, 2) := by decide +kernel
theorem d_MD_init_93 : decode b_MD_init 93 = .ok (.putfield 43, 3) := by decide +kernel
theorem d_MD_init_96 : decode b_MD_init 96 = .ok (.aload_n 0, 1) := by decide +kernel
theorem d_MD_init_97 : decode b_MD_init 97 = .ok (.bipush 32, 2) := by decide +kernel
theorem d_MD_init_99 : decode b_MD_init 99 = .ok (.newarray .int, 2) := by decide +kernel
theorem d_MD_init_101 : decode b_MD_init 101 = .ok (.putfield 46, 3) := by decide +kernel
theorem d_MD_init_104 : decode b_MD_init 104 = .ok (.aload_n 0, 1) := by decide +kernel
theorem d_MD_init_105 : decode b_MD_init 105 = .ok (.sipush 2048, 3) := by decide +kernel
theorem d_MD_init_108 : decode b_MD_init 108 = .ok (.newarray .int, 2) := by decide +kernel
theorem d_MD_init_110 : decode b_MD_init 110 = .ok (.putfield 49, 3) := by decide +kernel
theorem d_MD_init_113 : decode b_MD_init 113 = .ok (.aload_n 0, 1) := by decide +kernel
theorem d_MD_init_114 : decode b_MD_init 114 = .ok (.sipush 2048, 3) := by decide +kernel
theorem d_MD_init_117 : decode b_MD_init 117 = .ok (.newarray .int, 2) := by decide +kernel
theorem d_MD_init_119 : decode b_MD_init 119 = .ok (.putfield 52, 3) := by decide +kernel
theorem d_MD_init_122 : decode b_MD_init 122 = .ok (.aload_n 0, 1) := by decide +kernel
theorem d_MD_init_123 : decode b_MD_init 123 = .ok (.sipush 2048, 3) := by decide +kernel
theorem d_MD_init_126 : decode b_MD_init 126 = .ok (.newarray .int, 2) := by decide +kernel
theorem d_MD_init_128 : decode b_MD_init 128 = .ok (.putfield 55, 3) := by decide +kernel
theorem d_MD_init_131 : decode b_MD_init 131 = .ok (.aload_n 0, 1) := by decide +kernel
theorem d_MD_init_132 : decode b_MD_init 132 = .ok (.sipush 2048, 3) := by decide +kernel
theorem d_MD_init_135 : decode b_MD_init 135 = .ok (.newarray .int, 2) := by decide +kernel
theorem d_MD_init_137 : decode b_MD_init 137 = .ok (.putfield 58, 3) := by decide +kernel
theorem d_MD_init_140 : decode b_MD_init 140 = .ok (.aload_n 0, 1) := by decide +kernel
theorem d_MD_init_141 : decode b_MD_init 141 = .ok (.bipush 24, 2) := by decide +kernel
theorem d_MD_init_143 : decode b_MD_init 143 = .ok (.newarray .int, 2) := by decide +kernel
theorem d_MD_init_145 : decode b_MD_init 145 = .ok (.putfield 61, 3) := by decide +kernel
theorem d_MD_init_148 : decode b_MD_init 148 = .ok (.aload_n 0, 1) := by decide +kernel
theorem d_MD_init_149 : decode b_MD_init 149 = .ok (.bipush 6, 2) := by decide +kernel
theorem d_MD_init_151 : decode b_MD_init 151 = .ok (.newarray .int, 2) := by decide +kernel
theorem d_MD_init_153 : decode b_MD_init 153 = .ok (.putfield 64, 3) := by decide +kernel
theorem d_MD_init_156 : decode b_MD_init 156 = .ok (.aload_n 0, 1) := by decide +kernel
theorem d_MD_init_157 : decode b_MD_init 157 = .ok (.bipush 12, 2) := by decide +kernel
theorem d_MD_init_159 : decode b_MD_init 159 = .ok (.newarray .int, 2) := by decide +kernel
theorem d_MD_init_161 : decode b_MD_init 161 = .ok (.putfield 67, 3) := by decide +kernel
theorem d_MD_init_164 : decode b_MD_init 164 = .ok (.aload_n 0, 1) := by decide +kernel
theorem d_MD_init_165 : decode b_MD_init 165 = .ok (.sipush 130, 3) := by decide +kernel
theorem d_MD_init_168 : decode b_MD_init 168 = .ok (.newarray .int, 2) := by decide +kernel
theorem d_MD_init_170 : decode b_MD_init 170 = .ok (.putfield 70, 3) := by decide +kernel
theorem d_MD_init_173 : decode b_MD_init 173 = .ok (.aload_n 0, 1) := by decide +kernel
theorem d_MD_init_174 : decode b_MD_init 174 = .ok (.sipush 130, 3) := by decide +kernel
theorem d_MD_init_177 : decode b_MD_init 177 = .ok (.newarray .int, 2) := by decide +kernel
theorem d_MD_init_179 : decode b_MD_init 179 = .ok (.putfield 73, 3) := by decide +kernel
theorem d_MD_init_182 : decode b_MD_init 182 = .ok (.aload_n 0, 1) := by decide +kernel
theorem d_MD_init_183 : decode b_MD_init 183 = .ok (.sipush 130, 3) := by decide +kernel
theorem d_MD_init_186 : decode b_MD_init 186 = .ok (.newarray .boolean, 2) := by decide +kernel
theorem d_MD_init_188 : decode b_MD_init 188 = .ok (.putfield 76, 3) := by decide +kernel
theorem d_MD_init_191 : decode b_MD_init 191 = .ok (.aload_n 0, 1) := by decide +kernel
theorem d_MD_init_192 : decode b_MD_init 192 = .ok (.sipush 140, 3) := by decide +kernel
theorem d_MD_init_195 : decode b_MD_init 195 = .ok (.newarray .int, 2) := by decide +kernel
theorem d_MD_init_197 : decode b_MD_init 197 = .ok (.putfield 80, 3) := by decide +kernel
theorem d_MD_init_200 : decode b_MD_init 200 = .ok (.aload_n 0, 1) := by decide +kernel
theorem d_MD_init_201 : decode b_MD_init 201 = .ok (.sipush 1152, 3) := by decide +kernel
theorem d_MD_init_204 : decode b_MD_init 204 = .ok (.newarray .int, 2) := by decide +kernel
theorem d_MD_init_206 : decode b_MD_init 206 = .ok (.putfield 83, 3) := by decide +kernel
theorem d_MD_init_209 : decode b_MD_init 209 = .ok (.aload_n 0, 1) := by decide +kernel
theorem d_MD_init_210 : decode b_MD_init 210 = .ok (.bipush 24, 2) := by decide +kernel
theorem d_MD_init_212 : decode b_MD_init 212 = .ok (.newarray .long, 2) := by decide +kernel
theorem d_MD_init_214 : decode b_MD_init 214 = .ok (.putfield 86, 3) := by decide +kernel
theorem d_MD_init_217 : decode b_MD_init 217 = .ok (.return_, 1) := by decide +kernel
theorem d_GL_requireFont_0 : decode b_GL_requireFont 0 = .ok (.aload_n 0, 1) := by decide +kernel
theorem d_GL_requireFont_1 : decode b_GL_requireFont 1 = .ok (.getfield 27, 3) := by decide +kernel
theorem d_GL_requireFont_4 : decode b_GL_requireFont 4 = .ok (.ifCond .ne (13), 3) := by decide +kernel
theorem d_GL_requireFont_7 : decode b_GL_requireFont 7 = .ok (.new 157, 3) := by decide +kernel
theorem d_GL_requireFont_10 : decode b_GL_requireFont 10 = .ok (.dup, 1) := by decide +kernel
theorem d_GL_requireFont_11 : decode b_GL_requireFont 11 = .ok (.ldc 159, 2) := by decide +kernel
theorem d_GL_requireFont_13 : decode b_GL_requireFont 13 = .ok (.invokespecial 161, 3) := by decide +kernel
theorem d_GL_requireFont_16 : decode b_GL_requireFont 16 = .ok (.athrow, 1) := by decide +kernel
theorem d_GL_glyph_0 : decode b_GL_glyph 0 = .ok (.aload_n 0, 1) := by decide +kernel
theorem d_GL_glyph_1 : decode b_GL_glyph 1 = .ok (.invokevirtual 84, 3) := by decide +kernel
theorem d_GL_measure_0 : decode b_GL_measure 0 = .ok (.aload_n 0, 1) := by decide +kernel
theorem d_GL_measure_1 : decode b_GL_measure 1 = .ok (.invokevirtual 84, 3) := by decide +kernel
theorem d_GL_point_0 : decode b_GL_point 0 = .ok (.aload_n 0, 1) := by decide +kernel
theorem d_GL_point_1 : decode b_GL_point 1 = .ok (.invokevirtual 84, 3) := by decide +kernel
theorem d_GL_kerning_0 : decode b_GL_kerning 0 = .ok (.aload_n 0, 1) := by decide +kernel
theorem d_GL_kerning_1 : decode b_GL_kerning 1 = .ok (.invokevirtual 84, 3) := by decide +kernel
theorem d_GL_paint_0 : decode b_GL_paint 0 = .ok (.aload_n 0, 1) := by decide +kernel
theorem d_GL_paint_1 : decode b_GL_paint 1 = .ok (.invokevirtual 84, 3) := by decide +kernel
theorem d_GL_put_0 : decode b_GL_put 0 = .ok (.iload_n 1, 1) := by decide +kernel
theorem d_GL_put_1 : decode b_GL_put 1 = .ok (.ifCond .lt (11), 3) := by decide +kernel
theorem d_GL_put_12 : decode b_GL_put 12 = .ok (.new 60, 3) := by decide +kernel
theorem d_GL_put_15 : decode b_GL_put 15 = .ok (.dup, 1) := by decide +kernel
theorem d_GL_put_16 : decode b_GL_put 16 = .ok (.ldc 62, 2) := by decide +kernel
theorem d_GL_put_18 : decode b_GL_put 18 = .ok (.invokespecial 64, 3) := by decide +kernel
theorem d_GL_put_21 : decode b_GL_put 21 = .ok (.athrow, 1) := by decide +kernel
theorem d_GL_put_4 : decode b_GL_put 4 = .ok (.iload_n 1, 1) := by decide +kernel
theorem d_GL_put_5 : decode b_GL_put 5 = .ok (.aload_n 0, 1) := by decide +kernel
theorem d_GL_put_6 : decode b_GL_put 6 = .ok (.getfield 13, 3) := by decide +kernel
theorem d_GL_put_9 : decode b_GL_put 9 = .ok (.if_icmp .lt (13), 3) := by decide +kernel
theorem d_GL_cut_0 : decode b_GL_cut 0 = .ok (.iload_n 1, 1) := by decide +kernel
theorem d_GL_cut_1 : decode b_GL_cut 1 = .ok (.ifCond .ge (13), 3) := by decide +kernel
theorem d_GL_cut_4 : decode b_GL_cut 4 = .ok (.new 67, 3) := by decide +kernel
theorem d_GL_cut_7 : decode b_GL_cut 7 = .ok (.dup, 1) := by decide +kernel
theorem d_GL_cut_8 : decode b_GL_cut 8 = .ok (.ldc 72, 2) := by decide +kernel
theorem d_GL_cut_10 : decode b_GL_cut 10 = .ok (.invokespecial 71, 3) := by decide +kernel
theorem d_GL_cut_13 : decode b_GL_cut 13 = .ok (.athrow, 1) := by decide +kernel
theorem d_GL_row_0 : decode b_GL_row 0 = .ok (.iload_n 1, 1) := by decide +kernel
theorem d_GL_row_1 : decode b_GL_row 1 = .ok (.ifCond .lt (9), 3) := by decide +kernel
theorem d_GL_row_10 : decode b_GL_row 10 = .ok (.new 60, 3) := by decide +kernel
theorem d_GL_row_13 : decode b_GL_row 13 = .ok (.dup, 1) := by decide +kernel
theorem d_GL_row_14 : decode b_GL_row 14 = .ok (.ldc 151, 2) := by decide +kernel
theorem d_GL_row_16 : decode b_GL_row 16 = .ok (.invokespecial 64, 3) := by decide +kernel
theorem d_GL_row_19 : decode b_GL_row 19 = .ok (.athrow, 1) := by decide +kernel
theorem d_GL_row_4 : decode b_GL_row 4 = .ok (.iload_n 1, 1) := by decide +kernel
theorem d_GL_row_5 : decode b_GL_row 5 = .ok (.bipush 24, 2) := by decide +kernel
theorem d_GL_row_7 : decode b_GL_row 7 = .ok (.if_icmp .lt (13), 3) := by decide +kernel
theorem d_GL_feed_0 : decode b_GL_feed 0 = .ok (.aload_n 0, 1) := by decide +kernel
theorem d_GL_feed_1 : decode b_GL_feed 1 = .ok (.getfield 13, 3) := by decide +kernel
theorem d_GL_feed_4 : decode b_GL_feed 4 = .ok (.iconst 4, 1) := by decide +kernel
theorem d_GL_feed_5 : decode b_GL_feed 5 = .ok (.iadd, 1) := by decide +kernel
theorem d_GL_feed_6 : decode b_GL_feed 6 = .ok (.sipush 1200, 3) := by decide +kernel
theorem d_GL_feed_9 : decode b_GL_feed 9 = .ok (.if_icmp .le (5), 3) := by decide +kernel
theorem d_GL_feed_14 : decode b_GL_feed 14 = .ok (.bipush 24, 2) := by decide +kernel
theorem d_GL_feed_16 : decode b_GL_feed 16 = .ok (.istore_n 2, 1) := by decide +kernel
theorem d_GL_feed_17 : decode b_GL_feed 17 = .ok (.iload_n 2, 1) := by decide +kernel
theorem d_GL_feed_18 : decode b_GL_feed 18 = .ok (.ifCond .lt (35), 3) := by decide +kernel
theorem d_GL_feed_21 : decode b_GL_feed 21 = .ok (.aload_n 0, 1) := by decide +kernel
theorem d_GL_feed_22 : decode b_GL_feed 22 = .ok (.getfield 9, 3) := by decide +kernel
theorem d_GL_feed_25 : decode b_GL_feed 25 = .ok (.aload_n 0, 1) := by decide +kernel
theorem d_GL_feed_26 : decode b_GL_feed 26 = .ok (.getfield 13, 3) := by decide +kernel
theorem d_GL_feed_29 : decode b_GL_feed 29 = .ok (.iload_n 1, 1) := by decide +kernel
theorem d_GL_feed_30 : decode b_GL_feed 30 = .ok (.iload_n 2, 1) := by decide +kernel
theorem d_GL_feed_31 : decode b_GL_feed 31 = .ok (.ishr, 1) := by decide +kernel
theorem d_GL_feed_32 : decode b_GL_feed 32 = .ok (.sipush 255, 3) := by decide +kernel
theorem d_GL_feed_35 : decode b_GL_feed 35 = .ok (.iand, 1) := by decide +kernel
theorem d_GL_feed_36 : decode b_GL_feed 36 = .ok (.iastore, 1) := by decide +kernel
theorem d_GL_feed_37 : decode b_GL_feed 37 = .ok (.aload_n 0, 1) := by decide +kernel
theorem d_GL_feed_38 : decode b_GL_feed 38 = .ok (.dup, 1) := by decide +kernel
theorem d_GL_feed_39 : decode b_GL_feed 39 = .ok (.getfield 13, 3) := by decide +kernel
theorem d_GL_feed_42 : decode b_GL_feed 42 = .ok (.iconst 1, 1) := by decide +kernel
theorem d_GL_feed_43 : decode b_GL_feed 43 = .ok (.iadd, 1) := by decide +kernel
theorem d_GL_feed_44 : decode b_GL_feed 44 = .ok (.putfield 13, 3) := by decide +kernel
theorem d_GL_feed_47 : decode b_GL_feed 47 = .ok (.iinc 2 (-8), 3) := by decide +kernel
theorem d_GL_feed_50 : decode b_GL_feed 50 = .ok (.goto (-33), 3) := by decide +kernel
theorem d_GL_feed_53 : decode b_GL_feed 53 = .ok (.aload_n 0, 1) := by decide +kernel
theorem d_GL_feed_54 : decode b_GL_feed 54 = .ok (.getfield 13, 3) := by decide +kernel
theorem d_GL_feed_57 : decode b_GL_feed 57 = .ok (.ireturn, 1) := by decide +kernel
theorem d_GL_at_0 : decode b_GL_at 0 = .ok (.iload_n 1, 1) := by decide +kernel
theorem d_GL_at_1 : decode b_GL_at 1 = .ok (.ifCond .lt (20), 3) := by decide +kernel
theorem d_GL_at_21 : decode b_GL_at 21 = .ok (.iconst (-1), 1) := by decide +kernel
theorem d_GL_at_22 : decode b_GL_at 22 = .ok (.ireturn, 1) := by decide +kernel
theorem d_GL_at_4 : decode b_GL_at 4 = .ok (.iload_n 1, 1) := by decide +kernel
theorem d_GL_at_5 : decode b_GL_at 5 = .ok (.aload_n 0, 1) := by decide +kernel
theorem d_GL_at_6 : decode b_GL_at 6 = .ok (.getfield 13, 3) := by decide +kernel
theorem d_GL_at_9 : decode b_GL_at 9 = .ok (.if_icmp .ge (12), 3) := by decide +kernel
theorem d_GL_cut_14 : decode b_GL_cut 14 = .ok (.iload_n 1, 1) := by decide +kernel
theorem d_GL_cut_15 : decode b_GL_cut 15 = .ok (.aload_n 0, 1) := by decide +kernel
theorem d_GL_cut_16 : decode b_GL_cut 16 = .ok (.getfield 13, 3) := by decide +kernel
theorem d_GL_cut_19 : decode b_GL_cut 19 = .ok (.invokestatic 74, 3) := by decide +kernel
theorem d_GL_cut_22 : decode b_GL_cut 22 = .ok (.istore_n 2, 1) := by decide +kernel
theorem d_GL_cut_23 : decode b_GL_cut 23 = .ok (.aload_n 0, 1) := by decide +kernel
theorem d_GL_cut_24 : decode b_GL_cut 24 = .ok (.getfield 13, 3) := by decide +kernel
theorem d_GL_cut_27 : decode b_GL_cut 27 = .ok (.iload_n 2, 1) := by decide +kernel
theorem d_GL_cut_28 : decode b_GL_cut 28 = .ok (.isub, 1) := by decide +kernel
theorem d_GL_cut_29 : decode b_GL_cut 29 = .ok (.istore_n 3, 1) := by decide +kernel
theorem d_GL_cut_30 : decode b_GL_cut 30 = .ok (.aload_n 0, 1) := by decide +kernel
theorem d_GL_cut_31 : decode b_GL_cut 31 = .ok (.iload_n 2, 1) := by decide +kernel
theorem d_GL_cut_32 : decode b_GL_cut 32 = .ok (.putfield 13, 3) := by decide +kernel
theorem d_GL_cut_35 : decode b_GL_cut 35 = .ok (.iload_n 3, 1) := by decide +kernel
theorem d_GL_cut_36 : decode b_GL_cut 36 = .ok (.ireturn, 1) := by decide +kernel
theorem d_GL_wipe_0 : decode b_GL_wipe 0 = .ok (.aload_n 0, 1) := by decide +kernel
theorem d_GL_wipe_1 : decode b_GL_wipe 1 = .ok (.getfield 57, 3) := by decide +kernel
theorem d_GL_wipe_4 : decode b_GL_wipe 4 = .ok (.istore_n 1, 1) := by decide +kernel
theorem d_GL_wipe_5 : decode b_GL_wipe 5 = .ok (.aload_n 0, 1) := by decide +kernel
theorem d_GL_wipe_6 : decode b_GL_wipe 6 = .ok (.iconst 0, 1) := by decide +kernel
theorem d_GL_wipe_7 : decode b_GL_wipe 7 = .ok (.putfield 57, 3) := by decide +kernel
theorem d_GL_wipe_10 : decode b_GL_wipe 10 = .ok (.iload_n 1, 1) := by decide +kernel
theorem d_GL_wipe_11 : decode b_GL_wipe 11 = .ok (.ireturn, 1) := by decide +kernel
theorem d_GL_isCharacter_0 : decode b_GL_isCharacter 0 = .ok (.iload_n 0, 1) := by decide +kernel
theorem d_GL_isCharacter_1 : decode b_GL_isCharacter 1 = .ok (.ifCond .lt (13), 3) := by decide +kernel
theorem d_GL_isCharacter_14 : decode b_GL_isCharacter 14 = .ok (.iconst 0, 1) := by decide +kernel
theorem d_GL_isCharacter_15 : decode b_GL_isCharacter 15 = .ok (.ireturn, 1) := by decide +kernel
theorem d_GL_isCharacter_4 : decode b_GL_isCharacter 4 = .ok (.iload_n 0, 1) := by decide +kernel
theorem d_GL_isCharacter_5 : decode b_GL_isCharacter 5 = .ok (.ldc 167, 2) := by decide +kernel
theorem d_GL_isCharacter_7 : decode b_GL_isCharacter 7 = .ok (.if_icmp .gt (7), 3) := by decide +kernel
theorem d_GL_isCharacter_10 : decode b_GL_isCharacter 10 = .ok (.iconst 1, 1) := by decide +kernel
theorem d_GL_isCharacter_11 : decode b_GL_isCharacter 11 = .ok (.goto (4), 3) := by decide +kernel
theorem d_GL_type_0 : decode b_GL_type 0 = .ok (.iload_n 1, 1) := by decide +kernel
theorem d_GL_type_1 : decode b_GL_type 1 = .ok (.invokestatic 87, 3) := by decide +kernel
theorem d_GL_type_4 : decode b_GL_type 4 = .ok (.ifCond .eq (12), 3) := by decide +kernel
theorem d_GL_type_16 : decode b_GL_type 16 = .ok (.iconst 0, 1) := by decide +kernel
theorem d_GL_type_17 : decode b_GL_type 17 = .ok (.ireturn, 1) := by decide +kernel
theorem d_GL_type_7 : decode b_GL_type 7 = .ok (.aload_n 0, 1) := by decide +kernel
theorem d_GL_type_8 : decode b_GL_type 8 = .ok (.getfield 57, 3) := by decide +kernel
theorem d_GL_type_11 : decode b_GL_type 11 = .ok (.bipush 12, 2) := by decide +kernel
theorem d_GL_type_13 : decode b_GL_type 13 = .ok (.if_icmp .lt (5), 3) := by decide +kernel
theorem d_GL_type_18 : decode b_GL_type 18 = .ok (.aload_n 0, 1) := by decide +kernel
theorem d_GL_type_19 : decode b_GL_type 19 = .ok (.getfield 54, 3) := by decide +kernel
theorem d_GL_type_22 : decode b_GL_type 22 = .ok (.aload_n 0, 1) := by decide +kernel
theorem d_GL_type_23 : decode b_GL_type 23 = .ok (.getfield 57, 3) := by decide +kernel
theorem d_GL_type_26 : decode b_GL_type 26 = .ok (.iload_n 1, 1) := by decide +kernel
theorem d_GL_type_27 : decode b_GL_type 27 = .ok (.iastore, 1) := by decide +kernel
theorem d_GL_type_28 : decode b_GL_type 28 = .ok (.aload_n 0, 1) := by decide +kernel
theorem d_GL_type_29 : decode b_GL_type 29 = .ok (.dup, 1) := by decide +kernel
theorem d_GL_type_30 : decode b_GL_type 30 = .ok (.getfield 57, 3) := by decide +kernel
theorem d_GL_type_33 : decode b_GL_type 33 = .ok (.iconst 1, 1) := by decide +kernel
theorem d_GL_type_34 : decode b_GL_type 34 = .ok (.iadd, 1) := by decide +kernel
theorem d_GL_type_35 : decode b_GL_type 35 = .ok (.putfield 57, 3) := by decide +kernel
theorem d_GL_type_38 : decode b_GL_type 38 = .ok (.iconst 1, 1) := by decide +kernel
theorem d_GL_type_39 : decode b_GL_type 39 = .ok (.ireturn, 1) := by decide +kernel
theorem d_GL_row_20 : decode b_GL_row 20 = .ok (.aload_n 0, 1) := by decide +kernel
theorem d_GL_row_21 : decode b_GL_row 21 = .ok (.getfield 41, 3) := by decide +kernel
theorem d_GL_row_24 : decode b_GL_row 24 = .ok (.getfield 153, 3) := by decide +kernel
theorem d_GL_row_27 : decode b_GL_row 27 = .ok (.iload_n 1, 1) := by decide +kernel
theorem d_GL_row_28 : decode b_GL_row 28 = .ok (.laload, 1) := by decide +kernel
theorem d_GL_row_29 : decode b_GL_row 29 = .ok (.lreturn, 1) := by decide +kernel
theorem d_SP_lay_0 : decode b_SP_lay 0 = .ok (.aload_n 0, 1) := by decide +kernel
theorem d_SP_lay_1 : decode b_SP_lay 1 = .ok (.iconst 0, 1) := by decide +kernel
theorem d_SP_lay_2 : decode b_SP_lay 2 = .ok (.iload_n 1, 1) := by decide +kernel
theorem d_SP_lay_3 : decode b_SP_lay 3 = .ok (.aload_n 0, 1) := by decide +kernel
theorem d_SP_lay_4 : decode b_SP_lay 4 = .ok (.getfield 20, 3) := by decide +kernel
theorem d_SP_lay_7 : decode b_SP_lay 7 = .ok (.arraylength, 1) := by decide +kernel
theorem d_SP_lay_8 : decode b_SP_lay 8 = .ok (.invokestatic 24, 3) := by decide +kernel
theorem d_SP_lay_11 : decode b_SP_lay 11 = .ok (.invokestatic 30, 3) := by decide +kernel
theorem d_SP_lay_14 : decode b_SP_lay 14 = .ok (.putfield 7, 3) := by decide +kernel
theorem d_SP_lay_17 : decode b_SP_lay 17 = .ok (.aload_n 0, 1) := by decide +kernel
theorem d_SP_lay_18 : decode b_SP_lay 18 = .ok (.iconst 0, 1) := by decide +kernel
theorem d_SP_lay_19 : decode b_SP_lay 19 = .ok (.iload_n 2, 1) := by decide +kernel
theorem d_SP_lay_20 : decode b_SP_lay 20 = .ok (.aload_n 0, 1) := by decide +kernel
theorem d_SP_lay_21 : decode b_SP_lay 21 = .ok (.getfield 20, 3) := by decide +kernel
theorem d_SP_lay_24 : decode b_SP_lay 24 = .ok (.arraylength, 1) := by decide +kernel
theorem d_SP_lay_25 : decode b_SP_lay 25 = .ok (.aload_n 0, 1) := by decide +kernel
theorem d_SP_lay_26 : decode b_SP_lay 26 = .ok (.getfield 7, 3) := by decide +kernel
theorem d_SP_lay_29 : decode b_SP_lay 29 = .ok (.isub, 1) := by decide +kernel
theorem d_SP_lay_30 : decode b_SP_lay 30 = .ok (.invokestatic 24, 3) := by decide +kernel
theorem d_SP_lay_33 : decode b_SP_lay 33 = .ok (.invokestatic 30, 3) := by decide +kernel
theorem d_SP_lay_36 : decode b_SP_lay 36 = .ok (.putfield 13, 3) := by decide +kernel
theorem d_SP_lay_39 : decode b_SP_lay 39 = .ok (.aload_n 0, 1) := by decide +kernel
theorem d_SP_lay_40 : decode b_SP_lay 40 = .ok (.iconst 0, 1) := by decide +kernel
theorem d_SP_lay_41 : decode b_SP_lay 41 = .ok (.putfield 16, 3) := by decide +kernel
theorem d_SP_lay_44 : decode b_SP_lay 44 = .ok (.return_, 1) := by decide +kernel
theorem d_SP_u16_0 : decode b_SP_u16 0 = .ok (.iload_n 1, 1) := by decide +kernel
theorem d_SP_u16_1 : decode b_SP_u16 1 = .ok (.ifCond .lt (13), 3) := by decide +kernel
theorem d_SP_u16_4 : decode b_SP_u16 4 = .ok (.iload_n 1, 1) := by decide +kernel
theorem d_SP_u16_5 : decode b_SP_u16 5 = .ok (.aload_n 0, 1) := by decide +kernel
theorem d_SP_u16_6 : decode b_SP_u16 6 = .ok (.getfield 13, 3) := by decide +kernel
theorem d_SP_u16_9 : decode b_SP_u16 9 = .ok (.iconst 1, 1) := by decide +kernel
theorem d_SP_u16_10 : decode b_SP_u16 10 = .ok (.isub, 1) := by decide +kernel
theorem d_SP_u16_11 : decode b_SP_u16 11 = .ok (.if_icmp .lt (10), 3) := by decide +kernel
theorem d_SP_u16_14 : decode b_SP_u16 14 = .ok (.aload_n 0, 1) := by decide +kernel
theorem d_SP_u16_15 : decode b_SP_u16 15 = .ok (.iconst 1, 1) := by decide +kernel
theorem d_SP_u16_16 : decode b_SP_u16 16 = .ok (.putfield 16, 3) := by decide +kernel
theorem d_SP_u16_19 : decode b_SP_u16 19 = .ok (.iconst 0, 1) := by decide +kernel
theorem d_SP_u16_20 : decode b_SP_u16 20 = .ok (.ireturn, 1) := by decide +kernel
theorem d_SP_u32_0 : decode b_SP_u32 0 = .ok (.lconst 0, 1) := by decide +kernel
theorem d_SP_u32_1 : decode b_SP_u32 1 = .ok (.lstore_n 2, 1) := by decide +kernel
theorem d_SP_u32_2 : decode b_SP_u32 2 = .ok (.iload_n 1, 1) := by decide +kernel
theorem d_SP_u32_3 : decode b_SP_u32 3 = .ok (.istore 4, 2) := by decide +kernel
theorem d_SP_u32_5 : decode b_SP_u32 5 = .ok (.iload 4, 2) := by decide +kernel
theorem d_SP_u32_7 : decode b_SP_u32 7 = .ok (.iload_n 1, 1) := by decide +kernel
theorem d_SP_u32_8 : decode b_SP_u32 8 = .ok (.iconst 4, 1) := by decide +kernel
theorem d_SP_u32_9 : decode b_SP_u32 9 = .ok (.iadd, 1) := by decide +kernel
theorem d_SP_u32_10 : decode b_SP_u32 10 = .ok (.if_icmp .ge (77), 3) := by decide +kernel
theorem d_SP_u32_13 : decode b_SP_u32 13 = .ok (.iload 4, 2) := by decide +kernel
theorem d_SP_u32_15 : decode b_SP_u32 15 = .ok (.ifCond .lt (16), 3) := by decide +kernel
theorem d_SP_u32_18 : decode b_SP_u32 18 = .ok (.iload 4, 2) := by decide +kernel
theorem d_SP_u32_20 : decode b_SP_u32 20 = .ok (.aload_n 0, 1) := by decide +kernel
theorem d_SP_u32_21 : decode b_SP_u32 21 = .ok (.getfield 13, 3) := by decide +kernel
theorem d_SP_u32_24 : decode b_SP_u32 24 = .ok (.if_icmp .ge (7), 3) := by decide +kernel
theorem d_SP_u32_31 : decode b_SP_u32 31 = .ok (.iconst 0, 1) := by decide +kernel
theorem d_SP_u32_32 : decode b_SP_u32 32 = .ok (.istore 5, 2) := by decide +kernel
theorem d_SP_u32_34 : decode b_SP_u32 34 = .ok (.aload_n 0, 1) := by decide +kernel
theorem d_SP_u32_35 : decode b_SP_u32 35 = .ok (.dup, 1) := by decide +kernel
theorem d_SP_u32_36 : decode b_SP_u32 36 = .ok (.getfield 16, 3) := by decide +kernel
theorem d_SP_u32_39 : decode b_SP_u32 39 = .ok (.iload 5, 2) := by decide +kernel
theorem d_SP_u32_41 : decode b_SP_u32 41 = .ok (.ifCond .ne (7), 3) := by decide +kernel
theorem d_SP_u32_44 : decode b_SP_u32 44 = .ok (.iconst 1, 1) := by decide +kernel
theorem d_SP_u32_45 : decode b_SP_u32 45 = .ok (.goto (4), 3) := by decide +kernel
theorem d_SP_u32_49 : decode b_SP_u32 49 = .ok (.ior, 1) := by decide +kernel
theorem d_SP_u32_50 : decode b_SP_u32 50 = .ok (.putfield 16, 3) := by decide +kernel
theorem d_SP_u32_53 : decode b_SP_u32 53 = .ok (.lload_n 2, 1) := by decide +kernel
theorem d_SP_u32_54 : decode b_SP_u32 54 = .ok (.bipush 8, 2) := by decide +kernel
theorem d_SP_u32_56 : decode b_SP_u32 56 = .ok (.lshl, 1) := by decide +kernel
theorem d_SP_u32_57 : decode b_SP_u32 57 = .ok (.iload 5, 2) := by decide +kernel
theorem d_SP_u32_59 : decode b_SP_u32 59 = .ok (.ifCond .eq (18), 3) := by decide +kernel
theorem d_SP_u32_77 : decode b_SP_u32 77 = .ok (.iconst 0, 1) := by decide +kernel
theorem d_SP_u32_78 : decode b_SP_u32 78 = .ok (.i2l, 1) := by decide +kernel
theorem d_SP_u32_79 : decode b_SP_u32 79 = .ok (.lor, 1) := by decide +kernel
theorem d_SP_u32_80 : decode b_SP_u32 80 = .ok (.lstore_n 2, 1) := by decide +kernel
theorem d_SP_u32_81 : decode b_SP_u32 81 = .ok (.iinc 4 (1), 3) := by decide +kernel
theorem d_SP_u32_84 : decode b_SP_u32 84 = .ok (.goto (-79), 3) := by decide +kernel
theorem d_SP_u32_87 : decode b_SP_u32 87 = .ok (.lload_n 2, 1) := by decide +kernel
theorem d_SP_u32_88 : decode b_SP_u32 88 = .ok (.lreturn, 1) := by decide +kernel
theorem d_DI_isRight_0 : decode b_DI_isRight 0 = .ok (.aload_n 0, 1) := by decide +kernel
theorem d_DI_isRight_1 : decode b_DI_isRight 1 = .ok (.getfield 18, 3) := by decide +kernel
theorem d_DI_isRight_4 : decode b_DI_isRight 4 = .ok (.iconst 0, 1) := by decide +kernel
theorem d_DI_isRight_5 : decode b_DI_isRight 5 = .ok (.iload_n 1, 1) := by decide +kernel
theorem d_DI_isRight_6 : decode b_DI_isRight 6 = .ok (.invokevirtual 25, 3) := by decide +kernel
theorem d_DI_isRight_9 : decode b_DI_isRight 9 = .ok (.aload_n 0, 1) := by decide +kernel
theorem d_DI_isRight_10 : decode b_DI_isRight 10 = .ok (.aload_n 0, 1) := by decide +kernel
theorem d_DI_isRight_11 : decode b_DI_isRight 11 = .ok (.getfield 18, 3) := by decide +kernel
theorem d_DI_isRight_14 : decode b_DI_isRight 14 = .ok (.iconst 4, 1) := by decide +kernel
theorem d_DI_isRight_15 : decode b_DI_isRight 15 = .ok (.invokevirtual 29, 3) := by decide +kernel
theorem d_DI_isRight_18 : decode b_DI_isRight 18 = .ok (.putfield 7, 3) := by decide +kernel
theorem d_DI_isRight_21 : decode b_DI_isRight 21 = .ok (.aload_n 0, 1) := by decide +kernel
theorem d_DI_isRight_22 : decode b_DI_isRight 22 = .ok (.getfield 18, 3) := by decide +kernel
theorem d_DI_isRight_25 : decode b_DI_isRight 25 = .ok (.iconst 0, 1) := by decide +kernel
theorem d_DI_isRight_26 : decode b_DI_isRight 26 = .ok (.invokevirtual 33, 3) := by decide +kernel
theorem d_DI_isRight_29 : decode b_DI_isRight 29 = .ok (.ldc2_w 37, 3) := by decide +kernel
theorem d_DI_isRight_32 : decode b_DI_isRight 32 = .ok (.lcmp, 1) := by decide +kernel
theorem d_DI_isRight_33 : decode b_DI_isRight 33 = .ok (.ifCond .ne (42), 3) := by decide +kernel
theorem d_DI_isRight_75 : decode b_DI_isRight 75 = .ok (.iconst 0, 1) := by decide +kernel
theorem d_DI_isRight_76 : decode b_DI_isRight 76 = .ok (.ireturn, 1) := by decide +kernel
theorem d_FO_loadFrom_0 : decode b_FO_loadFrom 0 = .ok (.aload_n 1, 1) := by decide +kernel
theorem d_FO_loadFrom_1 : decode b_FO_loadFrom 1 = .ok (.iconst 0, 1) := by decide +kernel
theorem d_FO_loadFrom_2 : decode b_FO_loadFrom 2 = .ok (.aload_n 0, 1) := by decide +kernel
theorem d_FO_loadFrom_3 : decode b_FO_loadFrom 3 = .ok (.getfield 9, 3) := by decide +kernel
theorem d_FO_loadFrom_6 : decode b_FO_loadFrom 6 = .ok (.iconst 0, 1) := by decide +kernel
theorem d_FO_loadFrom_7 : decode b_FO_loadFrom 7 = .ok (.aload_n 1, 1) := by decide +kernel
theorem d_FO_loadFrom_8 : decode b_FO_loadFrom 8 = .ok (.arraylength, 1) := by decide +kernel
theorem d_FO_loadFrom_9 : decode b_FO_loadFrom 9 = .ok (.aload_n 0, 1) := by decide +kernel
theorem d_FO_loadFrom_10 : decode b_FO_loadFrom 10 = .ok (.getfield 9, 3) := by decide +kernel
theorem d_FO_loadFrom_13 : decode b_FO_loadFrom 13 = .ok (.arraylength, 1) := by decide +kernel
theorem d_FO_loadFrom_14 : decode b_FO_loadFrom 14 = .ok (.invokestatic 78, 3) := by decide +kernel
theorem d_FO_loadFrom_17 : decode b_FO_loadFrom 17 = .ok (.invokestatic 84, 3) := by decide +kernel
theorem d_FO_loadFrom_20 : decode b_FO_loadFrom 20 = .ok (.aload_n 0, 1) := by decide +kernel
theorem d_FO_loadFrom_21 : decode b_FO_loadFrom 21 = .ok (.getfield 20, 3) := by decide +kernel
theorem d_FO_loadFrom_24 : decode b_FO_loadFrom 24 = .ok (.iload_n 2, 1) := by decide +kernel
theorem d_FO_loadFrom_25 : decode b_FO_loadFrom 25 = .ok (.invokevirtual 90, 3) := by decide +kernel
theorem d_FO_loadFrom_28 : decode b_FO_loadFrom 28 = .ok (.ifCond .ne (5), 3) := by decide +kernel
theorem d_FO_loadFrom_31 : decode b_FO_loadFrom 31 = .ok (.iconst (-1), 1) := by decide +kernel
theorem d_FO_loadFrom_32 : decode b_FO_loadFrom 32 = .ok (.ireturn, 1) := by decide +kernel
theorem d_GL_load_0 : decode b_GL_load 0 = .ok (.aload_n 0, 1) := by decide +kernel
theorem d_GL_load_1 : decode b_GL_load 1 = .ok (.getfield 24, 3) := by decide +kernel
theorem d_GL_load_4 : decode b_GL_load 4 = .ok (.aload_n 0, 1) := by decide +kernel
theorem d_GL_load_5 : decode b_GL_load 5 = .ok (.getfield 9, 3) := by decide +kernel
theorem d_GL_load_8 : decode b_GL_load 8 = .ok (.aload_n 0, 1) := by decide +kernel
theorem d_GL_load_9 : decode b_GL_load 9 = .ok (.getfield 13, 3) := by decide +kernel
theorem d_GL_load_12 : decode b_GL_load 12 = .ok (.iload_n 1, 1) := by decide +kernel
theorem d_GL_load_13 : decode b_GL_load 13 = .ok (.aload_n 0, 1) := by decide +kernel
theorem d_GL_load_14 : decode b_GL_load 14 = .ok (.getfield 34, 3) := by decide +kernel
theorem d_GL_load_17 : decode b_GL_load 17 = .ok (.invokevirtual 80, 3) := by decide +kernel
theorem d_GL_load_20 : decode b_GL_load 20 = .ok (.istore_n 2, 1) := by decide +kernel
theorem d_GL_load_21 : decode b_GL_load 21 = .ok (.iload_n 2, 1) := by decide +kernel
theorem d_GL_load_22 : decode b_GL_load 22 = .ok (.ifCond .le (26), 3) := by decide +kernel
theorem d_GL_load_48 : decode b_GL_load 48 = .ok (.iload_n 2, 1) := by decide +kernel
theorem d_GL_load_49 : decode b_GL_load 49 = .ok (.ireturn, 1) := by decide +kernel
section SM
variable {p : Program} {l : Launch} {e : Env} {R : Room} {s : State} {m : MethodId} {args : Array Value} {below : List Frame} {meth : Method} {c : Code} {H : Heap} {locs : List Loc} {cells slots : Nat} {Q : State → Prop} {pc : Nat} {ls : Array Slot} {rest : List Value}
theorem lv_ci {x y : Int32} (h : x = y) (k : W p l e R s m args below meth c H locs cells slots Q (F0 m pc ls (.int y :: rest))) : W p l e R s m args below meth c H locs cells slots Q (F0 m pc ls (.int x :: rest)) := by subst h; exact k
theorem lv_cl {x y : Int64} (h : x = y) (k : W p l e R s m args below meth c H locs cells slots Q (F0 m pc ls (.long y :: rest))) : W p l e R s m args below meth c H locs cells slots Q (F0 m pc ls (.long x :: rest)) := by subst h; exact k
end SM
theorem tw_inS {c1 c2 : Cond} {own : String} {i : Nat} {y : MethodName} (h1 : Cond.methodLink own i y ∈ tw_T) (h2 : Cond.static y ∈ tw_T) (h4 : Cond.initialized own ∈ tw_T) (h : c2 ∈ tw_T) : GoodIn (c1 :: tw_T) (wsS own i y (c2 :: tw_T)) := fun w hw => by
  have h9 : w ∈ tw_T := by
    simp only [wsS, List.cons_append, List.nil_append, List.mem_cons] at hw
    rcases hw with rfl | rfl | rfl | rfl | h5 <;> assumption
  exact ⟨List.mem_cons_of_mem _ h9, good_of_word (tw_good h9)⟩
end
section
/-! Methods that throw, and the law's own catch: rows of mine over the library's laws (ctorThrowS, outOfThrown, leaveThrown). -/
section TH1
variable {e : Env} {s : State} {f : JFrame} {a : Addr}
/-- the search for a handler, the tables moving with it -/
def th_Finds (e : Env) (s : State) (f : JFrame) (a : Addr) (h : Handler) (s' : State) : Prop :=
  ∀ (Q : Handler → Pre) (E : CtlPost) (d : Bool) (acts : List Action), wp (findHandler f a) Q E e d acts s ↔ Q h d acts s'
theorem th_go {x : ExceptionTableEntry} {t : List ExceptionTableEntry} {cT : ClassId} {vm' : Vm} {cell : Cell} (hx : covers x f.pc = true) (h0 : x.catchType ≠ 0)
    (hg : (Jvm.resolveClass f.method.cls x.catchType).Gives e.toSetting s.vm (.ok cT) vm') (hsz : vm'.classes.size ≤ s.vm.classes.size)
    (hcell : s.heap[a]? = some cell) (hobj : ∀ k, cell.vm ≠ .statics k) (hk : ∃ k, vm'.classes[cell.cls]? = some k) (hc : ∃ k, vm'.classes[cT]? = some k) (hfit : vm'.assignable cell.cls cT = true)
    {Q : Handler → Pre} {E : CtlPost} {d : Bool} {acts : List Action} :
    wp (findHandler.go f a (x :: t)) Q E e d acts s ↔ Q (.found x.handlerPc) d acts (s.setVm vm') := by
  obtain ⟨ha, ht⟩ := hg.op (op := VmOp.resolveClass f.method.cls x.catchType) rfl
  simp only [covers] at hx
  simp [findHandler.go, hx, h0, ha, ht, hsz, hcell, hobj, hk, hc, hfit, VmOp.dirties, VmOp.acts]
theorem th_step {s' : State} {r : List Frame} {pc : Nat} (hfind : th_Finds e s f a (.found pc) s') :
    (stepThrowing e s a (.java f :: r)).Is (s'.setFrames (.java { f with pc := pc, stack := [.ref a] } :: r)) [] := by
  simp only [stepThrowing, searchFrame, vmDo]
  generalize hr : Sem.go _ e false [] s = res
  obtain ⟨as, rfl, ha⟩ := Sem.eq_ok_of hr (a := Handler.found pc) (s' := s') (acts' := []) (by simp [hfind _ _ _ _])
  exact ⟨rfl, ha⟩
end TH1
section TH2
variable {p : Program} {l : Launch} {e : Env} {R : Room} {s : State} {m : MethodId} {args : Array Value} {below : List Frame} {meth : Method} {c : Code} {T : State} {locs : List Loc} {cells slots : Nat}
/-- the first entry of the method's own table takes it: its class is resolved, now or before -/
theorem th_catch (X : Stand p l e R s m args below meth c T locs cells slots) {x : Addr} {g : JFrame} (hg : g.method = m) {own nm : String} (hown : s.vm.findClass own = some m.cls)
    {ent : ExceptionTableEntry} {rest : List ExceptionTableEntry} (htab : c.exceptionTable.toList = ent :: rest) (hcov : covers ent g.pc = true) (h0 : ent.catchType ≠ 0)
    (hlink : (Cond.classLink own ent.catchType nm).before args s = true) {cell : Cell} {cT : ClassId} (hcell : T.heap[x]? = some cell) (hobj : cell.vm.isStatics = false)
    (hcT : s.vm.findClass nm = some cT) (hasg : s.vm.assignable cell.cls cT = true) :
    ∃ vm', Stand p l e R s m args below meth c (T.setVm vm') locs cells slots ∧
      ∀ target, Steps p.tables e below ((T.setVm vm').setTop { g with pc := ent.handlerPc, stack := [.ref x] }) target → Steps p.tables e below ((T.setTop g).pushFrame (.throwing x)) target := by
  have hpl : e.platform.magicAccessors = ({} : Platform).magicAccessors := by rw [X.admits.platform]
  obtain ⟨c', hc', hcl⟩ := Cond.classLink_spec hown hlink e.platform hpl
  cases hcT.symm.trans hc'
  obtain ⟨dk, _, _, kt, hd, _, _, _, _, hkt, _, hopen⟩ := hcl.here
  obtain ⟨ks, hks⟩ := Vm.classAt_of_assignable hasg ⟨kt, hkt⟩
  have hcl₀ := X.warmed.classLinks hcl
  have hW' : s.WarmedH (T.vm.noted m.cls ent.catchType (.cls cT)) := X.warmed.noted hd hopen (State.rightAt_cls hcl)
  obtain ⟨ks', hks', -⟩ := hW'.alike.2.2 _ _ hks
  obtain ⟨kt', hkt', -⟩ := hW'.alike.2.2 _ _ hkt
  have h1 : (T.vm.noted m.cls ent.catchType (Resolved.cls cT)).assignable cell.cls cT = true := by rw [hW'.alike.assignable]; exact hasg
  refine ⟨_, X.noted hW', fun target hrest => ?_⟩
  have h : At T g.method c below := by rw [hg]; exact X.here
  obtain ⟨hgo, hw⟩ := h.throwing x
  have hm' : T.vm.method? g.method = some meth := by rw [hg]; exact X.method'
  have hfind : th_Finds e ((T.setTop g).pushFrame (.throwing x)) g x (.found ent.handlerPc) (((T.setTop g).pushFrame (.throwing x)).setVm (T.vm.noted m.cls ent.catchType (.cls cT))) := by
    intro Q E d acts
    rw [Jvm.W.findHandler_eq (meth := meth) (code := c) (by rw [Stand.throwing_vm]; exact hm') X.code, htab]
    exact th_go (cT := cT) (cell := cell) hcov h0 (by rw [Stand.throwing_vm, hg]; exact resolveClass_links e.toSetting hcl₀) (by rw [Stand.throwing_vm]; simp [Vm.noted]) (by rw [Stand.throwing_heap]; exact hcell) (VmData.ne_statics_of hobj) ⟨ks', hks'⟩ ⟨kt', hkt'⟩ h1
  refine Steps.head hgo hw ?_
  rw [stepThread_throwing (frames_entered h.top _), (th_step (s := (T.setTop g).pushFrame (.throwing x)) hfind).1]
  obtain ⟨g₀, hg0⟩ := Option.isSome_iff_exists.mp h.top
  obtain ⟨r, hr⟩ := State.topJava?_eq_some.mp hg0
  have hr' : (T.setVm (T.vm.noted m.cls ent.catchType (.cls cT))).frames = .java g₀ :: r := hr
  rw [State.setTop_of_frames _ hr'] at hrest
  have e1 : ((((T.setTop g).pushFrame (.throwing x)).setVm (T.vm.noted m.cls ent.catchType (.cls cT))).setFrames (.java { g with pc := ent.handlerPc, stack := [.ref x] } :: T.frames.tail)) = (T.setVm (T.vm.noted m.cls ent.catchType (.cls cT))).setFrames (.java { g with pc := ent.handlerPc, stack := [.ref x] } :: r) := by
    rw [State.pushFrame, State.setTop_of_frames _ hr, State.setFrames_setFrames, hr]
    show ((T.setVm (T.vm.noted m.cls ent.catchType (.cls cT))).setFrames _).setFrames _ = _
    rw [State.setFrames_setFrames]
    rfl
  rw [e1]
  exact hrest
/-- what a method leaves that throws a new object of the class X -/
def th_End (X : String) (mc ms : Nat) (st : State) (o : Outcome) (t : State) : Prop :=
  ∃ (b : Addr) (cell : Cell), o = .threw b ∧ t.heap[b]? = some cell ∧ cell.vm.isStatics = false ∧ st.vm.findClass X = some cell.cls ∧ st.WarmedH t.vm ∧ st.sameButNew ({ t with vm := st.vm } : State) [] mc ms
/-- the contract of a method that throws -/
def th_Met (l : Launch) (y : MethodName) (ws : List Cond) (rm : Room) (Pc : Array Value → State → Prop) (X : String) (mc ms : Nat) : Prop :=
  MetFree l y (headSpec ws rm) Pc (fun _ _ _ _ _ => True) (fun _ st o t => th_End X mc ms st o t)
def th_Q (below : List Frame) (X : String) (mc ms : Nat) (s : State) : State → Prop := fun t =>
  ∃ o, t.status = .running ∧ Ended t below o ∧ th_End X mc ms s o t
theorem th_ofW {y : MethodName} {ws ws' : List Cond} {rm : Room} {Pc : Array Value → State → Prop} {Xc : String} {mc ms : Nat} {cc : ByteArray} {maxL : Nat} {ret : Option FieldType}
    (hy : plainName y.cls = true) (hw : ws = Cond.code y cc maxL ret :: ws')
    (body : ∀ p e s m args below meth c s₁, BodyLoose p l y (headSpec ws rm) cc maxL ret e s m args below meth c s₁ → c.maxLocals = maxL → Pc args s →
      W p l e (headSpec ws rm).room s m args below meth c s.heap [] 0 0 (th_Q below Xc mc ms s) (entryFrame m args maxL)) : th_Met l y ws rm Pc Xc mc ms := by
  refine MetFree.of_bodyS (code := cc) (maxLocals := maxL) (ret := ret) hy ?_ ?_
  · intro args s m h hn
    obtain ⟨meth, c, h1, h2, h3, h4, h5, h6, -, -⟩ := Cond.code_spec hn (atoms_spec (ws := ws) h _ (by rw [hw]; exact List.mem_cons_self))
    exact ⟨meth, c, h1, h2, h3, h4, h5, h6⟩
  · intro p e s m args below meth c s₁ B hml hP _
    have hh0 : s₁.heap = s.heap := by rw [B.state]; rfl
    obtain ⟨t, a1, o, b1, b2, b3⟩ := body p e s m args below meth c s₁ B hml hP s₁ hh0 (Stand.of_body B)
    exact ⟨t, o, a1, b1, b2, b3⟩
/-- 'invokevirtual' of a method that throws: back in the caller, the note over its frame -/
theorem th_callV (X : Stand p l e R s m args below meth c T locs cells slots) (hexec : p.tables.exec = Jvm.exec) {own C Xc : String} {index maxL mc ms n : Nat} {y : MethodName} {bytes : ByteArray} {ret : Option FieldType} {ws : List Cond} {rm : Room} {Pc : Array Value → State → Prop}
    (hown : s.vm.findClass own = some m.cls) (hM : th_Met l y ws rm Pc Xc mc ms) (cw : CallW R s args own C index y bytes maxL ret ws rm mc ms n)
    {b : Addr} {As rest : List Value} (hp : PreV s T.heap C b Pc As) {g : JFrame} (hg : g.method = m) (hn : As.length = n) (hsize : g.locals.size = c.maxLocals)
    (hstack : g.stack = As.reverse ++ .ref b :: rest) (hW : 2 * g.monitorRoom + (rest.map fun v => v.category).sum ≤ 8) (hdg : decode c.code g.pc = .ok (.invokevirtual index, 3)) (hf : cells + mc ≤ R.cells ∧ slots + ms ≤ R.slots) :
    ∃ (x : Addr) (cell : Cell) (T' : State), Stand p l e R s m args below meth c T' locs (cells + mc) (slots + ms) ∧ T'.heap[x]? = some cell ∧ cell.vm.isStatics = false ∧ s.vm.findClass Xc = some cell.cls ∧
      T.sameButNew (T'.setVm T.vm) [] mc ms ∧ Steps p.tables e below (T.setTop g) ((T'.setTop { g with stack := rest }).pushFrame (.throwing x)) := by
  obtain ⟨⟨hrc, hrs, hfr, hlo, hws, hcw, hcode, hini, hy, hlen, hl⟩, hin, hse⟩ := cw
  obtain ⟨hbl, ⟨cellB, hcB, hoB, hclB⟩, hPc⟩ := hp
  obtain ⟨mk, methM, hnamed, hmethM, hstM, habM⟩ := Cond.instanceMethod_spec hin
  obtain ⟨methM', cM, hmethM', hcM, -, hlM, -, -, -, hsigM⟩ := Cond.code_spec hnamed hcode
  cases hmethM.symm.trans hmethM'
  obtain ⟨c2, r2, m2, q1, q2, q3, q4, kP, hkP, hkPi⟩ := Cond.selects_spec hse
  cases hclB.symm.trans q1
  cases (State.methodFound?_of_named hnamed hy).symm.trans q2
  cases hnamed.symm.trans q3
  have hselP : selectMethod e.platform s.vm cellB.cls mk = .method mk := by rw [Launch.admits_selectMethod X.admits]; exact q4
  obtain ⟨vm₁, X₁, hstep₁⟩ := X.invokevirtual hexec hown hl hnamed hmethM hstM hkP hkPi hy (a := b) (cell := cellB) hcB
    (fun z h => by rw [h] at hoB; cases hoB) hselP hmethM habM hkP hkPi (g := g) hg (argsL := As) (rest := rest) (hn.trans (hlen _ hsigM)) hstack hdg
  have hnamed₁ := X₁.named hnamed
  have hinit₁ : (Cond.initialized y.cls).before args (T.setVm vm₁) = true := word_at X₁.warmed (Or.inl (by first | rfl | simp [Cond.onTables, Cond.keeps, Cond.steady])) hini
  obtain ⟨kY, hkY, -⟩ := className_of_methodNamed hnamed₁
  have hinitY : kY.init = .initialized := Cond.initialized_spec (findClass_of_methodNamed hnamed₁) hkY hinit₁
  have h : At (T.setVm vm₁) ({ g with stack := rest } : JFrame).method c below := by
    show At (T.setVm vm₁) g.method c below
    rw [hg]; exact X₁.here
  have happ : (headSpec ws rm).appliesLoose y e.platform ((T.setVm vm₁).calling { g with stack := rest } mk (Value.ref b :: As).toArray) = true :=
    Spec.appliesLoose_calling (g := { g with stack := rest }) h hdg hnamed₁ hkY hinitY
      (X₁.room_calling (g := { g with stack := rest }) (R' := rm) hsize (show (T.setVm vm₁).vm.method? mk = some methM by
        have q := X₁.warmed.alike.method? (m := mk)
        rw [q]; exact hmethM) hcM hfr (by rw [hlM]; show 2 * g.monitorRoom + (rest.map fun v => v.category).sum + (maxL + 11) + rm.locals ≤ R.locals; omega) (by rw [hrc]; exact hf.1) (by rw [hrs]; exact hf.2))
      (atoms_intro fun w hw => hws w hw _ _ X₁.warmed)
  obtain ⟨mid, hmid⟩ := h.above
  have hfr2 : ((T.setVm vm₁).setTop { g with stack := rest }).frames = (.java { g with stack := rest } :: mid) ++ below := by rw [State.frames_setTop' _ h.top, hmid]; rfl
  obtain ⟨o, s₂, hsteps, -, hend, hq⟩ := Steps.callFree hM p X.admits X.cas X.clock (acts := []) hfr2 happ (hbl _ _ { g with stack := rest } mk (hPc (T.setVm vm₁) rfl X₁.warmed)) trivial
  obtain ⟨x, cell, rfl, hcell, hobj, hcls, hWm, hsame⟩ := hq
  rw [State.frames_setTop' _ h.top] at hend
  have htail : (T.setVm vm₁).frames.tail = below := X₁.tail
  rw [htail] at hend
  obtain ⟨T', X', hW', hsame', rfl⟩ := X₁.outOfThrown (g := { g with stack := rest }) hg hend hWm hsame
  refine ⟨x, cell, T', by simpa using X', ?_, hobj, ?_, hsame'.setVm T.vm, hstep₁ _ fun acts => by rw [doInvoke_state]; exact hsteps⟩
  · rw [← Stand.throwing_heap T' { g with stack := rest } x]; exact hcell
  · have q : ((T.setVm vm₁).calling { g with stack := rest } mk (Value.ref b :: As).toArray).vm.findClass Xc = s.vm.findClass Xc := X₁.warmed.alike.findClass Xc _
    rw [← q]; exact hcls
/-- where nothing of the old heap may have changed: cell by cell -/
theorem th_same {T T' : State} {mc ms : Nat} (h : T.sameButNew (T'.setVm T.vm) [] mc ms) : T.heap.size ≤ T'.heap.size ∧ ∀ q : Nat, q < T.heap.size → T'.heap[q]? = T.heap[q]? := by
  obtain ⟨-, h2, -, -, -, h6⟩ := h
  refine ⟨h2, fun q hq => ?_⟩
  have hc : T.heap[q]? = some T.heap[q] := Array.getElem?_eq_getElem hq
  obtain ⟨c', g1, g2, g3, g4⟩ := h6 q _ hc
  have g1' : T'.heap[q]? = some c' := g1
  rw [g1', hc]
  congr 1
  have e : c'.slots = (T.heap[q]).slots := by
    apply Array.ext_getElem?
    intro i
    exact g4 i (by simp)
  rw [g2, e]
end TH2
section TH3
variable {p : Program} {l : Launch} {e : Env} {R : Room} {s : State} {m : MethodId} {args : Array Value} {below : List Frame} {meth : Method} {c : Code} {H : Heap} {locs : List Loc} {cells slots : Nat} {Q : State → Prop}
variable {own C Xc : String} {index maxL mc ms n nL pc : Nat} {y : MethodName} {bytes cc : ByteArray} {ret : Option FieldType} {ws Ts : List Cond} {rm : Room} {Pc : Array Value → State → Prop} {b : Addr} {As rest : List Value} {ls : Array Slot}
/-- a call of a method that throws, no handler here: out of this method too -/
theorem th_passV (S : CallFix p m c cc nL s args Ts own) (hM : th_Met l y ws rm Pc Xc mc ms) (cw : CallW R s args own C index y bytes maxL ret ws rm mc ms n) (hp : PreV s s.heap C b Pc As)
    (hn : As.length = n) (hsize : ls.size = nL) (hW : (rest.map fun v => v.category).sum ≤ 8) (hdg : decode cc pc = .ok (.invokevirtual index, 3)) (hf : mc ≤ R.cells ∧ ms ≤ R.slots)
    (hnoh : c.exceptionTable.isEmpty = true) (hlocks : meth.locks = false) :
    W p l e R s m args below meth c s.heap [] 0 0 (th_Q below Xc mc ms s) (F0 m pc ls (As.reverse ++ .ref b :: rest)) := by
  obtain ⟨hx, hb, hml, ho, -⟩ := S
  intro T hT X
  obtain ⟨x, cell, T', X', hcell, hobj, hcls, hsame, hst⟩ := th_callV X hx ho hM cw (by rw [hT]; exact hp) (g := F0 m pc ls (As.reverse ++ .ref b :: rest)) rfl hn (by rw [hml]; exact hsize) (rest := rest) rfl (by show 2 * 0 + _ ≤ 8; omega) (by rw [hb]; exact hdg) (by rw [Nat.zero_add, Nat.zero_add]; exact hf)
  have hnil : c.exceptionTable.toList = [] := by
    have := hnoh
    simpa using this
  obtain ⟨h1, h2, h3, h4, h5⟩ := X'.leaveThrown x (g := F0 m pc ls rest) rfl rfl rfl (by rw [hnil]; intro z hz; cases hz) hlocks
  refine ⟨_, hst.trans h1, .threw x, h2, h3, x, cell, rfl, hcell, hobj, hcls, h4, ?_⟩
  simpa using h5
/-- a call of a method that throws, taken by the first entry of the caller's own table -/
theorem th_takeV (S : CallFix p m c cc nL s args Ts own) (hM : th_Met l y ws rm Pc Xc mc ms) (cw : CallW R s args own C index y bytes maxL ret ws rm mc ms n) (hp : PreV s H C b Pc As)
    (hn : As.length = n) (hsize : ls.size = nL) (hW : (rest.map fun v => v.category).sum ≤ 8) (hdg : decode cc pc = .ok (.invokevirtual index, 3)) (hf : cells + mc ≤ R.cells ∧ slots + ms ≤ R.slots)
    {ent : ExceptionTableEntry} {ents : List ExceptionTableEntry} (htab : c.exceptionTable.toList = ent :: ents) (hcov : covers ent pc = true) (h0 : ent.catchType ≠ 0) (hlink : (Cond.classLink own ent.catchType Xc).before args s = true)
    (kk : ∀ (x : Nat) (H1 : Heap), H.size ≤ H1.size → (∀ q : Nat, q < H.size → H1[q]? = H[q]?) → W p l e R s m args below meth c H1 locs (cells + mc) (slots + ms) Q (F0 m ent.handlerPc ls [.ref x])) :
    W p l e R s m args below meth c H locs cells slots Q (F0 m pc ls (As.reverse ++ .ref b :: rest)) := by
  obtain ⟨hx, hb, hml, ho, -⟩ := S
  intro T hT X
  obtain ⟨x, cell, T', X', hcell, hobj, hcls, hsame, hst⟩ := th_callV X hx ho hM cw (by rw [hT]; exact hp) (g := F0 m pc ls (As.reverse ++ .ref b :: rest)) rfl hn (by rw [hml]; exact hsize) (rest := rest) rfl (by show 2 * 0 + _ ≤ 8; omega) (by rw [hb]; exact hdg) hf
  obtain ⟨z1, z2⟩ := th_same hsame
  obtain ⟨vm', X2, hst2⟩ := th_catch X' (g := F0 m pc ls rest) rfl ho htab hcov h0 hlink hcell hobj hcls (va_asg _ _)
  obtain ⟨t, a1, b1⟩ := kk x T'.heap (by rw [← hT]; exact z1) (by rw [← hT]; exact z2) (T'.setVm vm') rfl X2
  exact ⟨t, hst.trans (hst2 t a1), b1⟩
/-- 'throw new X("..")' at a method's begin, nothing written yet, no handler -/
theorem th_throwS (hexec : p.tables.exec = Jvm.exec) (htr : e.platform.stackTraces = false) (hb : c.code = cc) (hml : c.maxLocals = ls.size) (hown : s.vm.findClass own = some m.cls) {names : List String} {inew ildc ic q : Nat} {tx : String}
    (hcls : Bundle.fit Xc = true) (hnames : ∀ n ∈ names, Bundle.fit n = true) (h : ∀ a ∈ Bundle.ownAtoms own ic Xc names, a.before args s = true)
    (hcl : (Cond.classLink own inew Xc).before args s = true) (hini : (Cond.initialized Xc).before args s = true) (hZ : vk_R own ildc tx q s)
    (hnoh : c.exceptionTable.isEmpty = true) (hlocks : meth.locks = false)
    (d0 : decode cc pc = .ok (.new inew, 3)) (d3 : decode cc (pc + 3) = .ok (.dup, 1)) (d4 : decode cc (pc + 4) = .ok (.ldc ildc, 2)) (d6 : decode cc (pc + 6) = .ok (.invokespecial ic, 3)) (d9 : decode cc (pc + 9) = .ok (.athrow, 1))
    (hRframes : names.length + 3 < R.frames) (hRlocals : 1 + (rest.map fun v => v.category).sum + (13 * (names.length + 1) + 42) ≤ R.locals) (hRc : 1 ≤ R.cells) (hRs : 6 ≤ R.slots) :
    W p l e R s m args below meth c s.heap [] 0 0 (th_Q below Xc 1 6 s) (F0 m pc ls rest) := by
  have hins : (Cond.instantiable Xc 6).before args s = true := h _ (by simp [Bundle.ownAtoms])
  refine W.newc hexec hb hown hcl hins hini rfl d0 (by omega) (by omega) fun cC kC h1 h2 h3 h4 => ?_
  refine lv_dup hexec hb d3 rfl ?_
  refine va_ldcS hexec hb hown hZ d4 ?_
  intro T hT X
  have hcell : T.heap[s.heap.size]? = some (freshCell cC kC) := by rw [hT]; simp [freshCell]
  obtain ⟨U, u1, u2, u3, u4, u5, ce, u6, u7⟩ := X.ctorThrowS hexec htr hown hcls hnames h (fun z hz => by cases hz) h1 h2 hcell (Nat.le_refl _) (msg := .ref q) rfl
    (g := F0 m (pc + 6) ls (.ref q :: .ref s.heap.size :: .ref s.heap.size :: rest)) rfl (by rw [hml]) rfl rfl (rest := rest) rfl (by rw [hb]; exact d6) (by rw [hb]; exact d9)
    (by
      have hnil : c.exceptionTable.toList = [] := by
        have := hnoh
        simpa using this
      rw [hnil]; intro z hz; cases hz) hRframes (by show 2 * 0 + _ + _ ≤ _; simp only [List.map_cons, List.sum_cons]; show 2 * 0 + (1 + _) + _ ≤ _; omega) hlocks
  refine ⟨U, u1, .threw s.heap.size, u2, u3, s.heap.size, ce, rfl, u6, by rw [u7.vm]; rfl, u7.cls, u4, ?_⟩
  simpa using u5
end TH3
section TH4
variable {p : Program} {l : Launch} {e : Env} {R : Room} {s : State} {m : MethodId} {args : Array Value} {below : List Frame} {meth : Method} {c : Code} {H : Heap} {locs : List Loc} {cells slots : Nat}
variable {own : String} {index maxL mc ms n nL : Nat} {y : MethodName} {bytes cc : ByteArray} {ret : Option FieldType} {hh : List (Nat × Nat × Nat × Nat)} {ws ws' Ts : List Cond} {rm : Room} {Pc : Array Value → State → Prop} {Qc : Array Value → State → Outcome → State → Prop} {free : Addr → Prop} {As rest : List Value} {g : JFrame}
/-- 'invokestatic' of a method with an exception table, that returns -/
theorem th_runSW (S : CallFix p m c cc nL s args Ts own) (hM : Met l y ws rm Pc Qc mc ms free) (hG : GoodIn Ts ws) (hw : ws = Cond.codeWith y bytes maxL ret hh :: ws') (hrc : rm.cells = mc) (hrs : rm.slots = ms)
    (hl : (Cond.methodLink own index y).before args s = true) (hst : (Cond.static y).before args s = true) (hini : (Cond.initialized y.cls).before args s = true)
    (hy : y.cls ≠ "java/lang/invoke/MethodHandle" ∧ y.cls ≠ "java/lang/invoke/VarHandle") (hpar : (parseMethodDescriptor y.desc).map (fun d => d.parameters.length) = some n) (hR : rm.frames + 1 ≤ R.frames ∧ 8 + (maxL + 11) + rm.locals ≤ R.locals)
    (hp : PreS s H Pc As) (hg : g.method = m) (hn : As.length = n) (hsize : g.locals.size = nL) (hstack : g.stack = As.reverse ++ rest) (hW : 2 * g.monitorRoom + (rest.map fun v => v.category).sum ≤ 8) (hdg : decode cc g.pc = .ok (.invokestatic index, 3)) (hf : cells + mc ≤ R.cells ∧ slots + ms ≤ R.slots) :
    va_Run p l e R s m args below meth c H locs cells slots mc ms g rest (Qc As.toArray) (free) := by
  obtain ⟨hx, hb, hml, ho, hts⟩ := S
  have hcw : Cond.codeWith y bytes maxL ret hh ∈ ws := by rw [hw]; exact List.mem_cons_self
  have hcode := hts _ (hG _ hcw).1
  have hK : Back l R p e below s args y 3 8 (PreOf R mc ms Pc) (PostOf Qc mc ms free) := va_backW (hh := hh) (bytes := bytes) (maxL := maxL) (ret := ret) hM hp.1 hrc hrs hR.1 hR.2 (pay_in hts hG) hcw (fun a' U hW => word_at hW (Or.inl (by first | rfl | simp [Cond.onTables, Cond.keeps, Cond.steady])) hini)
  intro T hT X
  obtain ⟨mk, methM, cM, hnamed, hmethM, -, -, -, -, -, -, hsigM⟩ := Cond.codeWith_spec hcode
  have hstatic : methM.isStatic = true := Cond.static_spec hnamed hmethM hst
  obtain ⟨kP, hkP, -⟩ := className_of_methodNamed hnamed
  have hinitP : kP.init = .initialized := Cond.initialized_spec (findClass_of_methodNamed hnamed) hkP hini
  have hlen : As.length = methM.sig.parameters.length := by
    rw [hsigM] at hpar
    exact hn.trans (Option.some.inj hpar).symm
  obtain ⟨vm₁, X₁, hstep₁⟩ := X.invokestatic hx ho hl hnamed hmethM hstatic hkP hinitP hy (g := g) hg (argsL := As) (rest := rest) hlen hstack (by rw [hb]; exact hdg)
  obtain ⟨v, ⟨U', l2, c2, s2⟩, X', ⟨g', mk', t, L, e1, e2, hq, h1, hL, h2, h3⟩, hsteps⟩ := hK m meth c ⟨T.setVm vm₁, locs, cells, slots⟩ { g with stack := rest } (.invokestatic index) mk As.toArray X₁ hg (hsize.trans hml.symm) (by rw [hb]; exact hdg) hW (X₁.named hnamed) ⟨hf.1, hf.2, hp.2 (T.setVm vm₁) hT X₁.warmed⟩
  dsimp only [Pt.U, Pt.locs, Pt.cells, Pt.slots] at X' e1 e2 h1 h2 h3 hsteps
  subst h1; subst h2; subst h3
  exact ⟨v, (T.setVm vm₁).calling g' mk' As.toArray, t, U', L, hT, X', hL, e1, e2, hq, fun target h => hstep₁ _ fun acts => by rw [doInvoke_state]; exact hsteps.trans h⟩
end TH4
end
section
/-! what a 'throw new X("..")' asks of the machine, and how it stays true from the law's start on -/
abbrev th_nm : List String := ["java/lang/RuntimeException", "java/lang/Exception"]
def th_okb (X : String) (a : Cond) : Bool := goodWord a || (match a with
  | .castable p q => p == X && q == X
  | .declares _ => true
  | .laysStatic _ _ _ => true
  | .isRef (.static c n d) => c == "java/lang/Throwable" && ((n == "UNASSIGNED_STACK" && d == "[Ljava/lang/StackTraceElement;") || (n == "SUPPRESSED_SENTINEL" && d == "Ljava/util/List;"))
  | _ => false)
theorem th_okb_spec {X : String} {a : Cond} (h : th_okb X a = true) : goodWord a = true ∨ a = .castable X X ∨ (∃ x, a = .declares x) ∨ (∃ x y z, a = .laysStatic x y z) ∨ a = .isRef (.static "java/lang/Throwable" "UNASSIGNED_STACK" "[Ljava/lang/StackTraceElement;") ∨ a = .isRef (.static "java/lang/Throwable" "SUPPRESSED_SENTINEL" "Ljava/util/List;") := by
  unfold th_okb at h
  rw [Bool.or_eq_true] at h
  rcases h with h | h
  · exact Or.inl h
  · right
    split at h
    · simp only [Bool.and_eq_true, beq_iff_eq] at h
      obtain ⟨rfl, rfl⟩ := h
      exact Or.inl rfl
    · exact Or.inr (Or.inl ⟨_, rfl⟩)
    · exact Or.inr (Or.inr (Or.inl ⟨_, _, _, rfl⟩))
    · simp only [Bool.and_eq_true, Bool.or_eq_true, beq_iff_eq] at h
      obtain ⟨rfl, ⟨rfl, rfl⟩ | ⟨rfl, rfl⟩⟩ := h
      · exact Or.inr (Or.inr (Or.inr (Or.inl rfl)))
      · exact Or.inr (Or.inr (Or.inr (Or.inr rfl)))
    · cases h
theorem th_isRef {A A' : Array Value} {s U : State} {C n d : String} (hl : (Cond.laysStatic C n d).before A s = true) (hini : (Cond.initialized C).before A s = true) (h : (Cond.isRef (.static C n d)).before A s = true) (hW : s.WarmedH U.vm) (hH : ∀ q : Nat, q < s.heap.size → U.heap[q]? = s.heap[q]?) : (Cond.isRef (.static C n d)).before A' U = true := by
  have z := va_Zqof (A := fun _ => False) hl hini h (fun _ _ h => h)
  have z2 := (va_Zq.moved hW.alike z).kept (H1 := U.heap) (fun a ha _ => hH a ha)
  rcases z2 with ⟨cf, kf, fi, f, a, cell, h1, h2, h3, h4, h5, h6, h7, -⟩ | ⟨t, cf, kf, fi, f, a, cell, h1, h2, h3, h4, h5, h6, h7, -⟩ <;>
    simp [Cond.before, Cond.holds, Cond.value, Term.eval, State.fieldNamed?, h1, h2, h4, h5, h6, h7]
/-- what the throw of a new X in the class own asks -/
def th_Own (own : String) (ic : Nat) (X : String) (U : State) : Prop := ∀ (A : Array Value), ∀ a ∈ Bundle.ownAtoms own ic X th_nm, a.before A U = true
theorem th_own {own X : String} {ic : Nat} {A0 : Array Value} {s U : State} (h : ∀ a ∈ Bundle.ownAtoms own ic X th_nm, a.before A0 s = true) (hk : (Bundle.ownAtoms own ic X th_nm).all (th_okb X) = true) (hW : s.WarmedH U.vm) (hH : ∀ q : Nat, q < s.heap.size → U.heap[q]? = s.heap[q]?) : th_Own own ic X U := by
  intro A a ha
  have h0 := h a ha
  rcases th_okb_spec (List.all_eq_true.mp hk a ha) with g | rfl | ⟨x, rfl⟩ | ⟨x, y, z, rfl⟩ | rfl | rfl
  · exact word_at hW (good_of_word g) h0
  · exact va_Nw.use rfl (va_Nw.warmC hW (va_Nw.of rfl h0))
  · exact va_Nw.use rfl (va_Nw.warmD hW (va_Nw.of rfl h0))
  · have h1 : (Cond.laysStatic x y z).before A0 (s.setVm U.vm) = true := Cond.holds_shifted (State.Shifted.of_warmed hW) _ [] rfl h0
    have e1 : (s.setVm U.vm).fieldFound? x y z = U.fieldFound? x y z := rfl
    have e2 : (s.setVm U.vm).vm = U.vm := rfl
    simp only [Cond.before, Cond.holds, Cond.value, e1, e2] at h1 ⊢
    cases hc : U.vm.findClass x with
    | none => simp [hc] at h1
    | some c =>
      cases hf : U.fieldFound? x y z with
      | none => simp [hc, hf] at h1
      | some r =>
        obtain ⟨c', k, i, f⟩ := r
        simp only [hc, hf] at h1 ⊢
        cases hk : k.statics with
        | none => simp [hk] at h1
        | some a =>
          have e3 : (s.setVm U.vm).heap[a]? = s.heap[a]? := rfl
          simp only [hk, Option.bind_some, e3] at h1 ⊢
          have hlt : a < s.heap.size := by
            cases hh : s.heap[a]? with
            | none => simp [hh] at h1
            | some cell => exact (Array.getElem?_eq_some_iff.mp hh).1
          rw [hH a hlt]
          exact h1
  · exact th_isRef (h _ (by simp [Bundle.ownAtoms, Bundle.throwableAtoms, Bundle.tN, Bundle.steD, Bundle.listD])) (h _ (by simp [Bundle.ownAtoms, Bundle.throwableAtoms, Bundle.tN, Bundle.steD, Bundle.listD])) h0 hW hH
  · exact th_isRef (h _ (by simp [Bundle.ownAtoms, Bundle.throwableAtoms, Bundle.tN, Bundle.steD, Bundle.listD])) (h _ (by simp [Bundle.ownAtoms, Bundle.throwableAtoms, Bundle.tN, Bundle.steD, Bundle.listD])) h0 hW hH
theorem th_Own.to {own X : String} {ic : Nat} {s U : State} (h : th_Own own ic X s) (hk : (Bundle.ownAtoms own ic X th_nm).all (th_okb X) = true) (hW : s.WarmedH U.vm) (hH : ∀ q : Nat, q < s.heap.size → U.heap[q]? = s.heap[q]?) : th_Own own ic X U := th_own (h #[]) hk hW hH
abbrev X_io : String := "java/lang/IndexOutOfBoundsException"
abbrev X_ia : String := "java/lang/IllegalArgumentException"
abbrev X_is : String := "java/lang/IllegalStateException"
theorem th_k_io : (Bundle.ownAtoms "GlyphLines" 64 X_io th_nm).all (th_okb X_io) = true := by decide +kernel
theorem th_k_ia : (Bundle.ownAtoms "GlyphLines" 71 X_ia th_nm).all (th_okb X_ia) = true := by decide +kernel
theorem th_k_is : (Bundle.ownAtoms "GlyphLines" 161 X_is th_nm).all (th_okb X_is) = true := by decide +kernel
/-- the words that the throws of the class ask, together; and its texts -/
def th_All (U : State) : Prop := th_Own "GlyphLines" 64 X_io U ∧ th_Own "GlyphLines" 71 X_ia U ∧ th_Own "GlyphLines" 161 X_is U ∧ (∃ q, vk_R "GlyphLines" 62 "no such byte" q U) ∧ (∃ q, vk_R "GlyphLines" 72 "fewer than no bytes" q U) ∧ (∃ q, vk_R "GlyphLines" 159 "there is no font" q U) ∧ (∃ q, vk_R "GlyphLines" 151 "no such row" q U)
theorem th_All.to {s U : State} (h : th_All s) (hW : s.WarmedH U.vm) (hH : ∀ q : Nat, q < s.heap.size → U.heap[q]? = s.heap[q]?) : th_All U := by
  obtain ⟨h1, h2, h3, ⟨q4, h4⟩, ⟨q5, h5⟩, ⟨q6, h6⟩, ⟨q7, h7⟩⟩ := h
  exact ⟨h1.to th_k_io hW hH, h2.to th_k_ia hW hH, h3.to th_k_is hW hH, ⟨q4, vk_R.warm hW h4⟩, ⟨q5, vk_R.warm hW h5⟩, ⟨q6, vk_R.warm hW h6⟩, ⟨q7, vk_R.warm hW h7⟩⟩
theorem th_All.call {U : State} {g : JFrame} {mk : MethodId} {a : Array Value} (h : th_All U) : th_All (U.calling g mk a) := h.to (State.WarmedH.refl U) (fun _ _ => rfl)
end
section
set_option maxHeartbeats 4000000 in
set_option maxRecDepth 100000 in
/-- GlyphLines$Span.<init> -/
theorem c_SP_init (l : Launch) (dC : Nat → ClassId) (dI : Nat → Nat → Nat) (h0 qa : Nat) (sz : Nat) : Met l y_SP_init s_SP_init ({ frames := 8, cells := 0, slots := 0, locals := 200 }) (va_Pc [.ref h0, .ref qa] (fun U => U.heap.size = sz ∧ va_P (dC, dI) cls_ [(h0, .inr (0, [.null, .int 0, .int 0, .int 0]))] U.heap ∧ va_K (dC, dI) cls_ [] U ∧ va_D (fun _ => True) [(h0, .inr (0, [.null, .int 0, .int 0, .int 0]))])) (va_Qv (fun _ : Unit => True) (fun (_ : Unit) (t : State) => va_P (dC, dI) cls_ [(h0, .inr (0, [.ref qa, .int 0, .int 0, .int 0]))] t.heap ∧ va_K (dC, dI) cls_ [] t ∧ va_D (va_A [(h0, .inr (0, [.null, .int 0, .int 0, .int 0]))] sz) [(h0, .inr (0, [.ref qa, .int 0, .int 0, .int 0]))]) (va_A [(h0, .inr (0, [.null, .int 0, .int 0, .int 0]))] sz)) 0 0 (va_A [(h0, .inr (0, [.null, .int 0, .int 0, .int 0]))] sz) := by
  refine Met.ofW (cc := b_SP_init) (maxL := 2) (ret := none) (by decide) rfl ?_
  intro p e s m args below meth c s₁ B hml hv
  obtain ⟨rfl, hsz, hP, hK, hD0⟩ := hv
  have hx := B.exec
  have hb := B.bytes
  have hr := B.returns
  have hts := atoms_spec (ws := s_SP_init) B.pre
  have hown : s.vm.findClass R_SP = some m.cls := findClass_of_methodNamed B.named
  have hlocks := B.notSynchronized
  have hin : meth.name = "<init>" := (name_of_methodNamed B.named B.method).1
  subst hsz
  have hD := hD0.self (sz := s.heap.size)
  generalize hAe : va_A [(h0, .inr (0, [.null, .int 0, .int 0, .int 0]))] s.heap.size = A at hD ⊢
  have hA : ∀ q : Nat, s.heap.size ≤ q → A q := fun q h => by rw [← hAe]; exact Or.inr h
  have hS : va_S A s.heap s.heap [] := va_S.rf
  have hP : va_P (dC, dI) cls_ [(h0, .inr (0, [.null, .int 0, .int 0, .int 0]))] s.heap := hP
  have hl := lv_entry ([.ref h0, .ref qa]) (n := 2) (Nat.le_of_ble_eq_true rfl)
  rw [lg_entry_eq]
  generalize (lg_sl ([.ref h0, .ref qa]) ++ List.replicate (2 - (lg_sl ([.ref h0, .ref qa])).length) Slot.unset).toArray = ls at hl ⊢
  have hl : lv_has ls 2 [(0, .ref h0), (1, .ref qa)] := hl
  refine lv_aload_n hx hb d_SP_init_0 rfl (lv_at hl 0 rfl) ?_
  refine W.objInit hx hb hown (hts _ (List.mem_cons_of_mem _ w_47)) (hts _ (List.mem_cons_of_mem _ w_28)) (hts _ (List.mem_cons_of_mem _ w_29)) rfl (by rw [hml]; exact hl.1) rfl d_SP_init_1 (Nat.le_of_ble_eq_true rfl) (Nat.le_of_ble_eq_true rfl) ?_
  refine W.eq (g2 := F0 m 4 ls []) rfl ?_
  refine lv_aload_n hx hb d_SP_init_4 rfl (lv_at hl 0 rfl) ?_
  refine lv_iconst (v := 0) hx hb d_SP_init_5 (by decide) ?_
  refine va_put (D := (dC, dI)) (ci := 0) (v := .int 0) (ty := .int) (C := R_SP) (T := F_SP) (N := 4) hx hb hts in_SP t_SP t_SP_ok n_SP hown hK hP hD hS 0 rfl rfl 1 (by decide) (hts _ (List.mem_cons_of_mem _ w_49)) (fun _ h9 => h9) rfl  (by decide +kernel) rfl rfl (Nat.le_of_ble_eq_true rfl) d_SP_init_6 (fun H locs hP hD hS => ?_)
  have hP : va_P (dC, dI) cls_ [(h0, .inr (0, [.null, .int 0, .int 0, .int 0]))] H := hP
  have hD : va_D A [(h0, .inr (0, [.null, .int 0, .int 0, .int 0]))] := hD
  refine lv_aload_n hx hb d_SP_init_9 rfl (lv_at hl 0 rfl) ?_
  refine lv_iconst (v := 0) hx hb d_SP_init_10 (by decide) ?_
  refine va_put (D := (dC, dI)) (ci := 0) (v := .int 0) (ty := .int) (C := R_SP) (T := F_SP) (N := 4) hx hb hts in_SP t_SP t_SP_ok n_SP hown hK hP hD hS 0 rfl rfl 2 (by decide) (hts _ (List.mem_cons_of_mem _ w_51)) (fun _ h9 => h9) rfl  (by decide +kernel) rfl rfl (Nat.le_of_ble_eq_true rfl) d_SP_init_11 (fun H locs hP hD hS => ?_)
  have hP : va_P (dC, dI) cls_ [(h0, .inr (0, [.null, .int 0, .int 0, .int 0]))] H := hP
  have hD : va_D A [(h0, .inr (0, [.null, .int 0, .int 0, .int 0]))] := hD
  refine lv_aload_n hx hb d_SP_init_14 rfl (lv_at hl 0 rfl) ?_
  refine lv_iconst (v := 0) hx hb d_SP_init_15 (by decide) ?_
  refine va_put (D := (dC, dI)) (ci := 0) (v := .int 0) (ty := .boolean) (C := R_SP) (T := F_SP) (N := 4) hx hb hts in_SP t_SP t_SP_ok n_SP hown hK hP hD hS 0 rfl rfl 3 (by decide) (hts _ (List.mem_cons_of_mem _ w_55)) (fun _ h9 => h9) rfl  (by decide +kernel) rfl rfl (Nat.le_of_ble_eq_true rfl) d_SP_init_16 (fun H locs hP hD hS => ?_)
  have hP : va_P (dC, dI) cls_ [(h0, .inr (0, [.null, .int 0, .int 0, .int 0]))] H := hP
  have hD : va_D A [(h0, .inr (0, [.null, .int 0, .int 0, .int 0]))] := hD
  refine lv_aload_n hx hb d_SP_init_19 rfl (lv_at hl 0 rfl) ?_
  refine lv_aload_n hx hb d_SP_init_20 rfl (lv_at hl 1 rfl) ?_
  refine va_putF (D := (dC, dI)) (ci := 0) (v := .ref qa) (ty := .array .int) (C := R_SP) (T := F_SP) (N := 4) hx hb hts in_SP t_SP t_SP_ok n_SP hown hK hP hD hS 0 rfl rfl 0 (by decide) (hts _ (List.mem_cons_of_mem _ w_48)) (fun _ h9 => h9) rfl hin rfl (by decide +kernel) rfl rfl (Nat.le_of_ble_eq_true rfl) d_SP_init_21 (fun H locs hP hD hS => ?_)
  have hP : va_P (dC, dI) cls_ [(h0, .inr (0, [.ref qa, .int 0, .int 0, .int 0]))] H := hP
  have hD : va_D A [(h0, .inr (0, [.ref qa, .int 0, .int 0, .int 0]))] := hD
  refine W.widen (k := 0) (n := 0) (Nat.le_of_ble_eq_true rfl) (Nat.le_of_ble_eq_true rfl) ?_
  have hP9 := hP.sub (ws' := [(h0, .inr (0, [.ref qa, .int 0, .int 0, .int 0]))]) [0] rfl
  have hD9 := hD.sub (ws' := [(h0, .inr (0, [.ref qa, .int 0, .int 0, .int 0]))]) [0] (by decide) rfl
  have hK9 := hK.sub (tys' := []) [] rfl
  exact W.vret hx hb hr (fun t ht hW => ⟨⟨(), rfl, trivial, by rw [ht]; exact hP9, va_K.moved hW.alike hK9, hD9⟩, hS.F ht⟩) hS.2.2 d_SP_init_24
set_option maxHeartbeats 4000000 in
set_option maxRecDepth 100000 in
/-- GlyphLines$CharacterMap.<init> -/
theorem c_CM_init (l : Launch) (dC : Nat → ClassId) (dI : Nat → Nat → Nat) (h0 qa : Nat) (sz : Nat) : Met l y_CM_init s_CM_init ({ frames := 10, cells := 1, slots := 4, locals := 300 }) (va_Pc [.ref h0, .ref qa] (fun U => U.heap.size = sz ∧ va_P (dC, dI) cls_ [(h0, .inr (1, [.null, .int 0, .int 0]))] U.heap ∧ va_K (dC, dI) cls_ [] U ∧ va_D (fun _ => True) [(h0, .inr (1, [.null, .int 0, .int 0]))])) (va_Qv (fun _ : Unit => True) (fun (_ : Unit) (t : State) => True) (va_A [(h0, .inr (1, [.null, .int 0, .int 0]))] sz)) 1 4 (va_A [(h0, .inr (1, [.null, .int 0, .int 0]))] sz) := by
  refine Met.ofW (cc := b_CM_init) (maxL := 2) (ret := none) (by decide) rfl ?_
  intro p e s m args below meth c s₁ B hml hv
  obtain ⟨rfl, hsz, hP, hK, hD0⟩ := hv
  have hx := B.exec
  have hb := B.bytes
  have hr := B.returns
  have hts := atoms_spec (ws := s_CM_init) B.pre
  have hown : s.vm.findClass R_CM = some m.cls := findClass_of_methodNamed B.named
  have hlocks := B.notSynchronized
  have hin : meth.name = "<init>" := (name_of_methodNamed B.named B.method).1
  subst hsz
  have hD := hD0.self (sz := s.heap.size)
  generalize hAe : va_A [(h0, .inr (1, [.null, .int 0, .int 0]))] s.heap.size = A at hD ⊢
  have hA : ∀ q : Nat, s.heap.size ≤ q → A q := fun q h => by rw [← hAe]; exact Or.inr h
  have hS : va_S A s.heap s.heap [] := va_S.rf
  have hP : va_P (dC, dI) cls_ [(h0, .inr (1, [.null, .int 0, .int 0]))] s.heap := hP
  have hl := lv_entry ([.ref h0, .ref qa]) (n := 2) (Nat.le_of_ble_eq_true rfl)
  rw [lg_entry_eq]
  generalize (lg_sl ([.ref h0, .ref qa]) ++ List.replicate (2 - (lg_sl ([.ref h0, .ref qa])).length) Slot.unset).toArray = ls at hl ⊢
  have hl : lv_has ls 2 [(0, .ref h0), (1, .ref qa)] := hl
  refine lv_aload_n hx hb d_CM_init_0 rfl (lv_at hl 0 rfl) ?_
  refine W.objInit hx hb hown (hts _ (List.mem_cons_of_mem _ w_86)) (hts _ (List.mem_cons_of_mem _ w_28)) (hts _ (List.mem_cons_of_mem _ w_29)) rfl (by rw [hml]; exact hl.1) rfl d_CM_init_1 (Nat.le_of_ble_eq_true rfl) (Nat.le_of_ble_eq_true rfl) ?_
  refine W.eq (g2 := F0 m 4 ls []) rfl ?_
  refine lv_aload_n hx hb d_CM_init_4 rfl (lv_at hl 0 rfl) ?_
  refine lv_iconst (v := 0) hx hb d_CM_init_5 (by decide) ?_
  refine va_put (D := (dC, dI)) (ci := 1) (v := .int 0) (ty := .int) (C := R_CM) (T := F_CM) (N := 3) hx hb hts in_CM t_CM t_CM_ok n_CM hown hK hP hD hS 0 rfl rfl 1 (by decide) (hts _ (List.mem_cons_of_mem _ w_91)) (fun _ h9 => h9) rfl  (by decide +kernel) rfl rfl (Nat.le_of_ble_eq_true rfl) d_CM_init_6 (fun H locs hP hD hS => ?_)
  have hP : va_P (dC, dI) cls_ [(h0, .inr (1, [.null, .int 0, .int 0]))] H := hP
  have hD : va_D A [(h0, .inr (1, [.null, .int 0, .int 0]))] := hD
  refine lv_aload_n hx hb d_CM_init_9 rfl (lv_at hl 0 rfl) ?_
  refine lv_iconst (v := 0) hx hb d_CM_init_10 (by decide) ?_
  refine va_put (D := (dC, dI)) (ci := 1) (v := .int 0) (ty := .int) (C := R_CM) (T := F_CM) (N := 3) hx hb hts in_CM t_CM t_CM_ok n_CM hown hK hP hD hS 0 rfl rfl 2 (by decide) (hts _ (List.mem_cons_of_mem _ w_92)) (fun _ h9 => h9) rfl  (by decide +kernel) rfl rfl (Nat.le_of_ble_eq_true rfl) d_CM_init_11 (fun H locs hP hD hS => ?_)
  have hP : va_P (dC, dI) cls_ [(h0, .inr (1, [.null, .int 0, .int 0]))] H := hP
  have hD : va_D A [(h0, .inr (1, [.null, .int 0, .int 0]))] := hD
  refine lv_aload_n hx hb d_CM_init_14 rfl (lv_at hl 0 rfl) ?_
  refine va_new (ci := 0) (fs := [.null, .int 0, .int 0, .int 0]) (C := R_SP) (T := F_SP) (N := 4) hx hb hts in_SP t_SP t_SP_ok hown (hts _ (List.mem_cons_of_mem _ w_87)) (hts _ (List.mem_cons_of_mem _ w_43)) (hts _ (List.mem_cons_of_mem _ w_4)) hK hP hD hS hA rfl (fun j hj => by rcases (show j = 0 ∨ j = 1 ∨ j = 2 ∨ j = 3 by omega) with rfl | rfl | rfl | rfl <;> rfl) (Nat.le_of_ble_eq_true rfl) (Nat.le_of_ble_eq_true rfl) d_CM_init_15 (fun q1 H hP hD hS => ?_)
  have hP : va_P (dC, dI) cls_ [(h0, .inr (1, [.null, .int 0, .int 0])), (q1, .inr (0, [.null, .int 0, .int 0, .int 0]))] H := hP
  have hD : va_D A [(h0, .inr (1, [.null, .int 0, .int 0])), (q1, .inr (0, [.null, .int 0, .int 0, .int 0]))] := hD
  refine lv_dup hx hb d_CM_init_18 rfl ?_
  refine lv_aload_n hx hb d_CM_init_19 rfl (lv_at hl 1 rfl) ?_
  have hPc := hP.sub (ws' := [(q1, .inr (0, [.null, .int 0, .int 0, .int 0]))]) [1] rfl
  have hDc := hD.sub (ws' := [(q1, .inr (0, [.null, .int 0, .int 0, .int 0]))]) [1] (by decide) rfl
  have hKc := hK.sub (tys' := []) [] rfl
  have hFc := va_free (wc := [(q1, .inr (0, [.null, .int 0, .int 0, .int 0]))]) hD hS hA [1] rfl
  refine va_callv (va_runI (As := [.ref qa]) (rest := [.ref q1, .ref h0]) ⟨hx, hb, hml, hown, hts⟩ (c_SP_init l dC dI q1 qa H.size) (cwI 1 hts (tw_in w_46) rfl rfl rfl (hts _ (List.mem_cons_of_mem _ w_4)) (hts _ (List.mem_cons_of_mem _ w_88)) (hts _ (List.mem_cons_of_mem _ w_45)) rfl (by decide +kernel) ⟨Nat.le_of_ble_eq_true rfl, Nat.le_of_ble_eq_true rfl⟩) ⟨fun a U g mk q => by obtain ⟨q0, q1, qP, qK, qD⟩ := q; exact ⟨q0, q1, qP, va_K.moved (u := U) (U := U.calling g mk a) (Vm.Alike.refl U.vm) qK, qD⟩, fun U hU hW => ⟨rfl, by rw [hU], by rw [hU]; exact hPc, va_K.moved hW.alike hKc, hDc.weaken (fun _ _ _ _ => trivial)⟩⟩ rfl rfl hl.1 rfl (lv_room (Nat.le_of_ble_eq_true rfl)) d_CM_init_20 ⟨Nat.le_of_ble_eq_true rfl, Nat.le_of_ble_eq_true rfl⟩) hS (fun q _ h => hFc q h) hFc (fun u t H1 locs ht hvm hw hB hz1 hk1 hS => ?_)
  obtain ⟨hP1, hK1, hD1⟩ := hB
  rw [ht] at hP1
  have hK1 := va_K.moved hvm.symm hK1
  obtain ⟨hP, hD⟩ := va_join (wr := [(h0, .inr (1, [.null, .int 0, .int 0]))]) (w1 := [(q1, .inr (0, [.ref qa, .int 0, .int 0, .int 0]))]) hP hD [1] [0] rfl rfl (by decide) (by decide) hk1 hFc hP1 hD1
  have hK := (hK.sub (tys' := []) [] rfl).app hK1
  generalize H1 = H at hP hS ⊢
  have hP : va_P (dC, dI) cls_ [(h0, .inr (1, [.null, .int 0, .int 0])), (q1, .inr (0, [.ref qa, .int 0, .int 0, .int 0]))] H := hP
  have hD : va_D A [(h0, .inr (1, [.null, .int 0, .int 0])), (q1, .inr (0, [.ref qa, .int 0, .int 0, .int 0]))] := hD
  have hK : va_K (dC, dI) cls_ [] s := hK
  refine va_putF (D := (dC, dI)) (ci := 1) (v := .ref q1) (ty := .object "GlyphLines$Span") (C := R_CM) (T := F_CM) (N := 3) hx hb hts in_CM t_CM t_CM_ok n_CM hown hK hP hD hS 0 rfl rfl 0 (by decide) (hts _ (List.mem_cons_of_mem _ w_89)) (fun _ h9 => h9) rfl hin rfl (by decide +kernel) rfl rfl (Nat.le_of_ble_eq_true rfl) d_CM_init_23 (fun H locs hP hD hS => ?_)
  have hP : va_P (dC, dI) cls_ [(h0, .inr (1, [.ref q1, .int 0, .int 0])), (q1, .inr (0, [.ref qa, .int 0, .int 0, .int 0]))] H := hP
  have hD : va_D A [(h0, .inr (1, [.ref q1, .int 0, .int 0])), (q1, .inr (0, [.ref qa, .int 0, .int 0, .int 0]))] := hD
  refine W.widen (k := 1) (n := 4) (Nat.le_of_ble_eq_true rfl) (Nat.le_of_ble_eq_true rfl) ?_
  exact W.vret hx hb hr (fun t ht hW => ⟨⟨(), rfl, trivial, trivial⟩, hS.F ht⟩) hS.2.2 d_CM_init_26
set_option maxHeartbeats 4000000 in
set_option maxRecDepth 100000 in
/-- GlyphLines$Pairs.<init> -/
theorem c_PA_init (l : Launch) (dC : Nat → ClassId) (dI : Nat → Nat → Nat) (h0 qa : Nat) (sz : Nat) : Met l y_PA_init s_PA_init ({ frames := 10, cells := 1, slots := 4, locals := 300 }) (va_Pc [.ref h0, .ref qa] (fun U => U.heap.size = sz ∧ va_P (dC, dI) cls_ [(h0, .inr (3, [.null, .int 0]))] U.heap ∧ va_K (dC, dI) cls_ [] U ∧ va_D (fun _ => True) [(h0, .inr (3, [.null, .int 0]))])) (va_Qv (fun _ : Unit => True) (fun (_ : Unit) (t : State) => True) (va_A [(h0, .inr (3, [.null, .int 0]))] sz)) 1 4 (va_A [(h0, .inr (3, [.null, .int 0]))] sz) := by
  refine Met.ofW (cc := b_PA_init) (maxL := 2) (ret := none) (by decide) rfl ?_
  intro p e s m args below meth c s₁ B hml hv
  obtain ⟨rfl, hsz, hP, hK, hD0⟩ := hv
  have hx := B.exec
  have hb := B.bytes
  have hr := B.returns
  have hts := atoms_spec (ws := s_PA_init) B.pre
  have hown : s.vm.findClass R_PA = some m.cls := findClass_of_methodNamed B.named
  have hlocks := B.notSynchronized
  have hin : meth.name = "<init>" := (name_of_methodNamed B.named B.method).1
  subst hsz
  have hD := hD0.self (sz := s.heap.size)
  generalize hAe : va_A [(h0, .inr (3, [.null, .int 0]))] s.heap.size = A at hD ⊢
  have hA : ∀ q : Nat, s.heap.size ≤ q → A q := fun q h => by rw [← hAe]; exact Or.inr h
  have hS : va_S A s.heap s.heap [] := va_S.rf
  have hP : va_P (dC, dI) cls_ [(h0, .inr (3, [.null, .int 0]))] s.heap := hP
  have hl := lv_entry ([.ref h0, .ref qa]) (n := 2) (Nat.le_of_ble_eq_true rfl)
  rw [lg_entry_eq]
  generalize (lg_sl ([.ref h0, .ref qa]) ++ List.replicate (2 - (lg_sl ([.ref h0, .ref qa])).length) Slot.unset).toArray = ls at hl ⊢
  have hl : lv_has ls 2 [(0, .ref h0), (1, .ref qa)] := hl
  refine lv_aload_n hx hb d_PA_init_0 rfl (lv_at hl 0 rfl) ?_
  refine W.objInit hx hb hown (hts _ (List.mem_cons_of_mem _ w_105)) (hts _ (List.mem_cons_of_mem _ w_28)) (hts _ (List.mem_cons_of_mem _ w_29)) rfl (by rw [hml]; exact hl.1) rfl d_PA_init_1 (Nat.le_of_ble_eq_true rfl) (Nat.le_of_ble_eq_true rfl) ?_
  refine W.eq (g2 := F0 m 4 ls []) rfl ?_
  refine lv_aload_n hx hb d_PA_init_4 rfl (lv_at hl 0 rfl) ?_
  refine lv_iconst (v := 0) hx hb d_PA_init_5 (by decide) ?_
  refine va_put (D := (dC, dI)) (ci := 3) (v := .int 0) (ty := .int) (C := R_PA) (T := F_PA) (N := 2) hx hb hts in_PA t_PA t_PA_ok n_PA hown hK hP hD hS 0 rfl rfl 1 (by decide) (hts _ (List.mem_cons_of_mem _ w_110)) (fun _ h9 => h9) rfl  (by decide +kernel) rfl rfl (Nat.le_of_ble_eq_true rfl) d_PA_init_6 (fun H locs hP hD hS => ?_)
  have hP : va_P (dC, dI) cls_ [(h0, .inr (3, [.null, .int 0]))] H := hP
  have hD : va_D A [(h0, .inr (3, [.null, .int 0]))] := hD
  refine lv_aload_n hx hb d_PA_init_9 rfl (lv_at hl 0 rfl) ?_
  refine va_new (ci := 0) (fs := [.null, .int 0, .int 0, .int 0]) (C := R_SP) (T := F_SP) (N := 4) hx hb hts in_SP t_SP t_SP_ok hown (hts _ (List.mem_cons_of_mem _ w_106)) (hts _ (List.mem_cons_of_mem _ w_43)) (hts _ (List.mem_cons_of_mem _ w_4)) hK hP hD hS hA rfl (fun j hj => by rcases (show j = 0 ∨ j = 1 ∨ j = 2 ∨ j = 3 by omega) with rfl | rfl | rfl | rfl <;> rfl) (Nat.le_of_ble_eq_true rfl) (Nat.le_of_ble_eq_true rfl) d_PA_init_10 (fun q2 H hP hD hS => ?_)
  have hP : va_P (dC, dI) cls_ [(h0, .inr (3, [.null, .int 0])), (q2, .inr (0, [.null, .int 0, .int 0, .int 0]))] H := hP
  have hD : va_D A [(h0, .inr (3, [.null, .int 0])), (q2, .inr (0, [.null, .int 0, .int 0, .int 0]))] := hD
  refine lv_dup hx hb d_PA_init_13 rfl ?_
  refine lv_aload_n hx hb d_PA_init_14 rfl (lv_at hl 1 rfl) ?_
  have hPc := hP.sub (ws' := [(q2, .inr (0, [.null, .int 0, .int 0, .int 0]))]) [1] rfl
  have hDc := hD.sub (ws' := [(q2, .inr (0, [.null, .int 0, .int 0, .int 0]))]) [1] (by decide) rfl
  have hKc := hK.sub (tys' := []) [] rfl
  have hFc := va_free (wc := [(q2, .inr (0, [.null, .int 0, .int 0, .int 0]))]) hD hS hA [1] rfl
  refine va_callv (va_runI (As := [.ref qa]) (rest := [.ref q2, .ref h0]) ⟨hx, hb, hml, hown, hts⟩ (c_SP_init l dC dI q2 qa H.size) (cwI 1 hts (tw_in w_46) rfl rfl rfl (hts _ (List.mem_cons_of_mem _ w_4)) (hts _ (List.mem_cons_of_mem _ w_107)) (hts _ (List.mem_cons_of_mem _ w_45)) rfl (by decide +kernel) ⟨Nat.le_of_ble_eq_true rfl, Nat.le_of_ble_eq_true rfl⟩) ⟨fun a U g mk q => by obtain ⟨q0, q1, qP, qK, qD⟩ := q; exact ⟨q0, q1, qP, va_K.moved (u := U) (U := U.calling g mk a) (Vm.Alike.refl U.vm) qK, qD⟩, fun U hU hW => ⟨rfl, by rw [hU], by rw [hU]; exact hPc, va_K.moved hW.alike hKc, hDc.weaken (fun _ _ _ _ => trivial)⟩⟩ rfl rfl hl.1 rfl (lv_room (Nat.le_of_ble_eq_true rfl)) d_PA_init_15 ⟨Nat.le_of_ble_eq_true rfl, Nat.le_of_ble_eq_true rfl⟩) hS (fun q _ h => hFc q h) hFc (fun u t H1 locs ht hvm hw hB hz1 hk1 hS => ?_)
  obtain ⟨hP1, hK1, hD1⟩ := hB
  rw [ht] at hP1
  have hK1 := va_K.moved hvm.symm hK1
  obtain ⟨hP, hD⟩ := va_join (wr := [(h0, .inr (3, [.null, .int 0]))]) (w1 := [(q2, .inr (0, [.ref qa, .int 0, .int 0, .int 0]))]) hP hD [1] [0] rfl rfl (by decide) (by decide) hk1 hFc hP1 hD1
  have hK := (hK.sub (tys' := []) [] rfl).app hK1
  generalize H1 = H at hP hS ⊢
  have hP : va_P (dC, dI) cls_ [(h0, .inr (3, [.null, .int 0])), (q2, .inr (0, [.ref qa, .int 0, .int 0, .int 0]))] H := hP
  have hD : va_D A [(h0, .inr (3, [.null, .int 0])), (q2, .inr (0, [.ref qa, .int 0, .int 0, .int 0]))] := hD
  have hK : va_K (dC, dI) cls_ [] s := hK
  refine va_putF (D := (dC, dI)) (ci := 3) (v := .ref q2) (ty := .object "GlyphLines$Span") (C := R_PA) (T := F_PA) (N := 2) hx hb hts in_PA t_PA t_PA_ok n_PA hown hK hP hD hS 0 rfl rfl 0 (by decide) (hts _ (List.mem_cons_of_mem _ w_108)) (fun _ h9 => h9) rfl hin rfl (by decide +kernel) rfl rfl (Nat.le_of_ble_eq_true rfl) d_PA_init_18 (fun H locs hP hD hS => ?_)
  have hP : va_P (dC, dI) cls_ [(h0, .inr (3, [.ref q2, .int 0])), (q2, .inr (0, [.ref qa, .int 0, .int 0, .int 0]))] H := hP
  have hD : va_D A [(h0, .inr (3, [.ref q2, .int 0])), (q2, .inr (0, [.ref qa, .int 0, .int 0, .int 0]))] := hD
  refine W.widen (k := 1) (n := 4) (Nat.le_of_ble_eq_true rfl) (Nat.le_of_ble_eq_true rfl) ?_
  exact W.vret hx hb hr (fun t ht hW => ⟨⟨(), rfl, trivial, trivial⟩, hS.F ht⟩) hS.2.2 d_PA_init_21
set_option maxHeartbeats 4000000 in
set_option maxRecDepth 100000 in
/-- GlyphLines$Directory.<init> -/
theorem c_DI_init (l : Launch) (dC : Nat → ClassId) (dI : Nat → Nat → Nat) (h0 qa : Nat) (sz : Nat) : Met l y_DI_init s_DI_init ({ frames := 10, cells := 2, slots := 8, locals := 300 }) (va_Pc [.ref h0, .ref qa] (fun U => U.heap.size = sz ∧ va_P (dC, dI) cls_ [(h0, .inr (2, [.null, .null, .int 0]))] U.heap ∧ va_K (dC, dI) cls_ [] U ∧ va_D (fun _ => True) [(h0, .inr (2, [.null, .null, .int 0]))])) (va_Qv (fun _ : Unit => True) (fun (_ : Unit) (t : State) => ∃ q1 q2, va_P (dC, dI) cls_ [(h0, .inr (2, [.ref q1, .ref q2, .int 0])), (q1, .inr (0, [.ref qa, .int 0, .int 0, .int 0]))] t.heap ∧ va_K (dC, dI) cls_ [] t ∧ va_D (va_A [(h0, .inr (2, [.null, .null, .int 0]))] sz) [(h0, .inr (2, [.ref q1, .ref q2, .int 0])), (q1, .inr (0, [.ref qa, .int 0, .int 0, .int 0]))]) (va_A [(h0, .inr (2, [.null, .null, .int 0]))] sz)) 2 8 (va_A [(h0, .inr (2, [.null, .null, .int 0]))] sz) := by
  refine Met.ofW (cc := b_DI_init) (maxL := 2) (ret := none) (by decide) rfl ?_
  intro p e s m args below meth c s₁ B hml hv
  obtain ⟨rfl, hsz, hP, hK, hD0⟩ := hv
  have hx := B.exec
  have hb := B.bytes
  have hr := B.returns
  have hts := atoms_spec (ws := s_DI_init) B.pre
  have hown : s.vm.findClass R_DI = some m.cls := findClass_of_methodNamed B.named
  have hlocks := B.notSynchronized
  have hin : meth.name = "<init>" := (name_of_methodNamed B.named B.method).1
  subst hsz
  have hD := hD0.self (sz := s.heap.size)
  generalize hAe : va_A [(h0, .inr (2, [.null, .null, .int 0]))] s.heap.size = A at hD ⊢
  have hA : ∀ q : Nat, s.heap.size ≤ q → A q := fun q h => by rw [← hAe]; exact Or.inr h
  have hS : va_S A s.heap s.heap [] := va_S.rf
  have hP : va_P (dC, dI) cls_ [(h0, .inr (2, [.null, .null, .int 0]))] s.heap := hP
  have hl := lv_entry ([.ref h0, .ref qa]) (n := 2) (Nat.le_of_ble_eq_true rfl)
  rw [lg_entry_eq]
  generalize (lg_sl ([.ref h0, .ref qa]) ++ List.replicate (2 - (lg_sl ([.ref h0, .ref qa])).length) Slot.unset).toArray = ls at hl ⊢
  have hl : lv_has ls 2 [(0, .ref h0), (1, .ref qa)] := hl
  refine lv_aload_n hx hb d_DI_init_0 rfl (lv_at hl 0 rfl) ?_
  refine W.objInit hx hb hown (hts _ (List.mem_cons_of_mem _ w_41)) (hts _ (List.mem_cons_of_mem _ w_28)) (hts _ (List.mem_cons_of_mem _ w_29)) rfl (by rw [hml]; exact hl.1) rfl d_DI_init_1 (Nat.le_of_ble_eq_true rfl) (Nat.le_of_ble_eq_true rfl) ?_
  refine W.eq (g2 := F0 m 4 ls []) rfl ?_
  refine lv_aload_n hx hb d_DI_init_4 rfl (lv_at hl 0 rfl) ?_
  refine lv_iconst (v := 0) hx hb d_DI_init_5 (by decide) ?_
  refine va_put (D := (dC, dI)) (ci := 2) (v := .int 0) (ty := .int) (C := R_DI) (T := F_DI) (N := 3) hx hb hts in_DI t_DI t_DI_ok n_DI hown hK hP hD hS 0 rfl rfl 2 (by decide) (hts _ (List.mem_cons_of_mem _ w_71)) (fun _ h9 => h9) rfl  (by decide +kernel) rfl rfl (Nat.le_of_ble_eq_true rfl) d_DI_init_6 (fun H locs hP hD hS => ?_)
  have hP : va_P (dC, dI) cls_ [(h0, .inr (2, [.null, .null, .int 0]))] H := hP
  have hD : va_D A [(h0, .inr (2, [.null, .null, .int 0]))] := hD
  refine lv_aload_n hx hb d_DI_init_9 rfl (lv_at hl 0 rfl) ?_
  refine va_new (ci := 0) (fs := [.null, .int 0, .int 0, .int 0]) (C := R_SP) (T := F_SP) (N := 4) hx hb hts in_SP t_SP t_SP_ok hown (hts _ (List.mem_cons_of_mem _ w_42)) (hts _ (List.mem_cons_of_mem _ w_43)) (hts _ (List.mem_cons_of_mem _ w_4)) hK hP hD hS hA rfl (fun j hj => by rcases (show j = 0 ∨ j = 1 ∨ j = 2 ∨ j = 3 by omega) with rfl | rfl | rfl | rfl <;> rfl) (Nat.le_of_ble_eq_true rfl) (Nat.le_of_ble_eq_true rfl) d_DI_init_10 (fun q3 H hP hD hS => ?_)
  have hP : va_P (dC, dI) cls_ [(h0, .inr (2, [.null, .null, .int 0])), (q3, .inr (0, [.null, .int 0, .int 0, .int 0]))] H := hP
  have hD : va_D A [(h0, .inr (2, [.null, .null, .int 0])), (q3, .inr (0, [.null, .int 0, .int 0, .int 0]))] := hD
  refine lv_dup hx hb d_DI_init_13 rfl ?_
  refine lv_aload_n hx hb d_DI_init_14 rfl (lv_at hl 1 rfl) ?_
  have hPc := hP.sub (ws' := [(q3, .inr (0, [.null, .int 0, .int 0, .int 0]))]) [1] rfl
  have hDc := hD.sub (ws' := [(q3, .inr (0, [.null, .int 0, .int 0, .int 0]))]) [1] (by decide) rfl
  have hKc := hK.sub (tys' := []) [] rfl
  have hFc := va_free (wc := [(q3, .inr (0, [.null, .int 0, .int 0, .int 0]))]) hD hS hA [1] rfl
  refine va_callv (va_runI (As := [.ref qa]) (rest := [.ref q3, .ref h0]) ⟨hx, hb, hml, hown, hts⟩ (c_SP_init l dC dI q3 qa H.size) (cwI 1 hts (tw_in w_46) rfl rfl rfl (hts _ (List.mem_cons_of_mem _ w_4)) (hts _ (List.mem_cons_of_mem _ w_44)) (hts _ (List.mem_cons_of_mem _ w_45)) rfl (by decide +kernel) ⟨Nat.le_of_ble_eq_true rfl, Nat.le_of_ble_eq_true rfl⟩) ⟨fun a U g mk q => by obtain ⟨q0, q1, qP, qK, qD⟩ := q; exact ⟨q0, q1, qP, va_K.moved (u := U) (U := U.calling g mk a) (Vm.Alike.refl U.vm) qK, qD⟩, fun U hU hW => ⟨rfl, by rw [hU], by rw [hU]; exact hPc, va_K.moved hW.alike hKc, hDc.weaken (fun _ _ _ _ => trivial)⟩⟩ rfl rfl hl.1 rfl (lv_room (Nat.le_of_ble_eq_true rfl)) d_DI_init_15 ⟨Nat.le_of_ble_eq_true rfl, Nat.le_of_ble_eq_true rfl⟩) hS (fun q _ h => hFc q h) hFc (fun u t H1 locs ht hvm hw hB hz1 hk1 hS => ?_)
  obtain ⟨hP1, hK1, hD1⟩ := hB
  rw [ht] at hP1
  have hK1 := va_K.moved hvm.symm hK1
  obtain ⟨hP, hD⟩ := va_join (wr := [(h0, .inr (2, [.null, .null, .int 0]))]) (w1 := [(q3, .inr (0, [.ref qa, .int 0, .int 0, .int 0]))]) hP hD [1] [0] rfl rfl (by decide) (by decide) hk1 hFc hP1 hD1
  have hK := (hK.sub (tys' := []) [] rfl).app hK1
  generalize H1 = H at hP hS ⊢
  have hP : va_P (dC, dI) cls_ [(h0, .inr (2, [.null, .null, .int 0])), (q3, .inr (0, [.ref qa, .int 0, .int 0, .int 0]))] H := hP
  have hD : va_D A [(h0, .inr (2, [.null, .null, .int 0])), (q3, .inr (0, [.ref qa, .int 0, .int 0, .int 0]))] := hD
  have hK : va_K (dC, dI) cls_ [] s := hK
  refine va_putF (D := (dC, dI)) (ci := 2) (v := .ref q3) (ty := .object "GlyphLines$Span") (C := R_DI) (T := F_DI) (N := 3) hx hb hts in_DI t_DI t_DI_ok n_DI hown hK hP hD hS 0 rfl rfl 0 (by decide) (hts _ (List.mem_cons_of_mem _ w_69)) (fun _ h9 => h9) rfl hin rfl (by decide +kernel) rfl rfl (Nat.le_of_ble_eq_true rfl) d_DI_init_18 (fun H locs hP hD hS => ?_)
  have hP : va_P (dC, dI) cls_ [(h0, .inr (2, [.ref q3, .null, .int 0])), (q3, .inr (0, [.ref qa, .int 0, .int 0, .int 0]))] H := hP
  have hD : va_D A [(h0, .inr (2, [.ref q3, .null, .int 0])), (q3, .inr (0, [.ref qa, .int 0, .int 0, .int 0]))] := hD
  refine lv_aload_n hx hb d_DI_init_21 rfl (lv_at hl 0 rfl) ?_
  refine va_new (ci := 0) (fs := [.null, .int 0, .int 0, .int 0]) (C := R_SP) (T := F_SP) (N := 4) hx hb hts in_SP t_SP t_SP_ok hown (hts _ (List.mem_cons_of_mem _ w_42)) (hts _ (List.mem_cons_of_mem _ w_43)) (hts _ (List.mem_cons_of_mem _ w_4)) hK hP hD hS hA rfl (fun j hj => by rcases (show j = 0 ∨ j = 1 ∨ j = 2 ∨ j = 3 by omega) with rfl | rfl | rfl | rfl <;> rfl) (Nat.le_of_ble_eq_true rfl) (Nat.le_of_ble_eq_true rfl) d_DI_init_22 (fun q4 H hP hD hS => ?_)
  have hP : va_P (dC, dI) cls_ [(h0, .inr (2, [.ref q3, .null, .int 0])), (q3, .inr (0, [.ref qa, .int 0, .int 0, .int 0])), (q4, .inr (0, [.null, .int 0, .int 0, .int 0]))] H := hP
  have hD : va_D A [(h0, .inr (2, [.ref q3, .null, .int 0])), (q3, .inr (0, [.ref qa, .int 0, .int 0, .int 0])), (q4, .inr (0, [.null, .int 0, .int 0, .int 0]))] := hD
  refine lv_dup hx hb d_DI_init_25 rfl ?_
  refine lv_aload_n hx hb d_DI_init_26 rfl (lv_at hl 1 rfl) ?_
  have hPc := hP.sub (ws' := [(q4, .inr (0, [.null, .int 0, .int 0, .int 0]))]) [2] rfl
  have hDc := hD.sub (ws' := [(q4, .inr (0, [.null, .int 0, .int 0, .int 0]))]) [2] (by decide) rfl
  have hKc := hK.sub (tys' := []) [] rfl
  have hFc := va_free (wc := [(q4, .inr (0, [.null, .int 0, .int 0, .int 0]))]) hD hS hA [2] rfl
  refine va_callv (va_runI (As := [.ref qa]) (rest := [.ref q4, .ref h0]) ⟨hx, hb, hml, hown, hts⟩ (c_SP_init l dC dI q4 qa H.size) (cwI 1 hts (tw_in w_46) rfl rfl rfl (hts _ (List.mem_cons_of_mem _ w_4)) (hts _ (List.mem_cons_of_mem _ w_44)) (hts _ (List.mem_cons_of_mem _ w_45)) rfl (by decide +kernel) ⟨Nat.le_of_ble_eq_true rfl, Nat.le_of_ble_eq_true rfl⟩) ⟨fun a U g mk q => by obtain ⟨q0, q1, qP, qK, qD⟩ := q; exact ⟨q0, q1, qP, va_K.moved (u := U) (U := U.calling g mk a) (Vm.Alike.refl U.vm) qK, qD⟩, fun U hU hW => ⟨rfl, by rw [hU], by rw [hU]; exact hPc, va_K.moved hW.alike hKc, hDc.weaken (fun _ _ _ _ => trivial)⟩⟩ rfl rfl hl.1 rfl (lv_room (Nat.le_of_ble_eq_true rfl)) d_DI_init_27 ⟨Nat.le_of_ble_eq_true rfl, Nat.le_of_ble_eq_true rfl⟩) hS (fun q _ h => hFc q h) hFc (fun u t H1 locs ht hvm hw hB hz1 hk1 hS => ?_)
  obtain ⟨hP1, hK1, hD1⟩ := hB
  rw [ht] at hP1
  have hK1 := va_K.moved hvm.symm hK1
  obtain ⟨hP, hD⟩ := va_join (wr := [(h0, .inr (2, [.ref q3, .null, .int 0])), (q3, .inr (0, [.ref qa, .int 0, .int 0, .int 0]))]) (w1 := [(q4, .inr (0, [.ref qa, .int 0, .int 0, .int 0]))]) hP hD [2] [0, 1] rfl rfl (by decide) (by decide) hk1 hFc hP1 hD1
  have hK := (hK.sub (tys' := []) [] rfl).app hK1
  generalize H1 = H at hP hS ⊢
  have hP : va_P (dC, dI) cls_ [(h0, .inr (2, [.ref q3, .null, .int 0])), (q3, .inr (0, [.ref qa, .int 0, .int 0, .int 0])), (q4, .inr (0, [.ref qa, .int 0, .int 0, .int 0]))] H := hP
  have hD : va_D A [(h0, .inr (2, [.ref q3, .null, .int 0])), (q3, .inr (0, [.ref qa, .int 0, .int 0, .int 0])), (q4, .inr (0, [.ref qa, .int 0, .int 0, .int 0]))] := hD
  have hK : va_K (dC, dI) cls_ [] s := hK
  refine va_putF (D := (dC, dI)) (ci := 2) (v := .ref q4) (ty := .object "GlyphLines$Span") (C := R_DI) (T := F_DI) (N := 3) hx hb hts in_DI t_DI t_DI_ok n_DI hown hK hP hD hS 0 rfl rfl 1 (by decide) (hts _ (List.mem_cons_of_mem _ w_70)) (fun _ h9 => h9) rfl hin rfl (by decide +kernel) rfl rfl (Nat.le_of_ble_eq_true rfl) d_DI_init_30 (fun H locs hP hD hS => ?_)
  have hP : va_P (dC, dI) cls_ [(h0, .inr (2, [.ref q3, .ref q4, .int 0])), (q3, .inr (0, [.ref qa, .int 0, .int 0, .int 0])), (q4, .inr (0, [.ref qa, .int 0, .int 0, .int 0]))] H := hP
  have hD : va_D A [(h0, .inr (2, [.ref q3, .ref q4, .int 0])), (q3, .inr (0, [.ref qa, .int 0, .int 0, .int 0])), (q4, .inr (0, [.ref qa, .int 0, .int 0, .int 0]))] := hD
  refine W.widen (k := 2) (n := 8) (Nat.le_of_ble_eq_true rfl) (Nat.le_of_ble_eq_true rfl) ?_
  have hP9 := hP.sub (ws' := [(h0, .inr (2, [.ref q3, .ref q4, .int 0])), (q3, .inr (0, [.ref qa, .int 0, .int 0, .int 0]))]) [0, 1] rfl
  have hD9 := hD.sub (ws' := [(h0, .inr (2, [.ref q3, .ref q4, .int 0])), (q3, .inr (0, [.ref qa, .int 0, .int 0, .int 0]))]) [0, 1] (by decide) rfl
  have hK9 := hK.sub (tys' := []) [] rfl
  exact W.vret hx hb hr (fun t ht hW => ⟨⟨(), rfl, trivial, q3, q4, by rw [ht]; exact hP9, va_K.moved hW.alike hK9, hD9⟩, hS.F ht⟩) hS.2.2 d_DI_init_33
end
section
set_option maxHeartbeats 4000000 in
set_option maxRecDepth 100000 in
/-- GlyphLines$Font.<init> -/
theorem c_FO_init (l : Launch) (dC : Nat → ClassId) (dI : Nat → Nat → Nat) (h0 : Nat) (sz : Nat) : Met l y_FO_init s_FO_init ({ frames := 12, cells := 18, slots := 1263, locals := 400 }) (va_Pc [.ref h0] (fun U => U.heap.size = sz ∧ va_P (dC, dI) cls_ [(h0, .inr (4, [.null, .null, .null, .null, .null, .null, .null, .null, .null, .null, .null, .int 0, .int 0, .int 0, .int 0]))] U.heap ∧ va_K (dC, dI) cls_ [] U ∧ va_D (fun _ => True) [(h0, .inr (4, [.null, .null, .null, .null, .null, .null, .null, .null, .null, .null, .null, .int 0, .int 0, .int 0, .int 0]))] ∧ va_AO "GlyphLines$Span" U)) (va_Qv (fun _ : Unit => True) (fun (_ : Unit) (t : State) => ∃ f0 f1 f2 f3 f4 f5 f6 f7 f8 f9 f10 qw qt cA, va_P (dC, dI) cls_ [(h0, .inr (4, [.ref f0, .ref f1, .ref f2, .ref f3, .ref f4, .ref f5, .ref f6, .ref f7, .ref f8, .ref f9, .ref f10, .int 64, .int 0, .int 0, .int 0])), (f0, .inl (cA, 1200, .inl (fun _ => 0))), (f1, .inr (2, [.ref qw, .ref qt, .int 0])), (qw, .inr (0, [.ref f0, .int 0, .int 0, .int 0]))] t.heap ∧ va_K (dC, dI) cls_ [(cA, .int)] t ∧ va_D (va_A [(h0, .inr (4, [.null, .null, .null, .null, .null, .null, .null, .null, .null, .null, .null, .int 0, .int 0, .int 0, .int 0]))] sz) [(h0, .inr (4, [.ref f0, .ref f1, .ref f2, .ref f3, .ref f4, .ref f5, .ref f6, .ref f7, .ref f8, .ref f9, .ref f10, .int 64, .int 0, .int 0, .int 0])), (f0, .inl (cA, 1200, .inl (fun _ => 0))), (f1, .inr (2, [.ref qw, .ref qt, .int 0])), (qw, .inr (0, [.ref f0, .int 0, .int 0, .int 0]))]) (va_A [(h0, .inr (4, [.null, .null, .null, .null, .null, .null, .null, .null, .null, .null, .null, .int 0, .int 0, .int 0, .int 0]))] sz)) 18 1263 (va_A [(h0, .inr (4, [.null, .null, .null, .null, .null, .null, .null, .null, .null, .null, .null, .int 0, .int 0, .int 0, .int 0]))] sz) := by
  refine Met.ofW (cc := b_FO_init) (maxL := 1) (ret := none) (by decide) rfl ?_
  intro p e s m args below meth c s₁ B hml hv
  obtain ⟨rfl, hsz, hP, hK, hD0, hO⟩ := hv
  have hx := B.exec
  have hb := B.bytes
  have hr := B.returns
  have hts := atoms_spec (ws := s_FO_init) B.pre
  have hown : s.vm.findClass R_FO = some m.cls := findClass_of_methodNamed B.named
  have hlocks := B.notSynchronized
  have hin : meth.name = "<init>" := (name_of_methodNamed B.named B.method).1
  subst hsz
  have hD := hD0.self (sz := s.heap.size)
  generalize hAe : va_A [(h0, .inr (4, [.null, .null, .null, .null, .null, .null, .null, .null, .null, .null, .null, .int 0, .int 0, .int 0, .int 0]))] s.heap.size = A at hD ⊢
  have hA : ∀ q : Nat, s.heap.size ≤ q → A q := fun q h => by rw [← hAe]; exact Or.inr h
  have hS : va_S A s.heap s.heap [] := va_S.rf
  have hP : va_P (dC, dI) cls_ [(h0, .inr (4, [.null, .null, .null, .null, .null, .null, .null, .null, .null, .null, .null, .int 0, .int 0, .int 0, .int 0]))] s.heap := hP
  have hl := lv_entry ([.ref h0]) (n := 1) (Nat.le_of_ble_eq_true rfl)
  rw [lg_entry_eq]
  generalize (lg_sl ([.ref h0]) ++ List.replicate (1 - (lg_sl ([.ref h0])).length) Slot.unset).toArray = ls at hl ⊢
  have hl : lv_has ls 1 [(0, .ref h0)] := hl
  refine lv_aload_n hx hb d_FO_init_0 rfl (lv_at hl 0 rfl) ?_
  refine W.objInit hx hb hown (hts _ (List.mem_cons_of_mem _ w_35)) (hts _ (List.mem_cons_of_mem _ w_28)) (hts _ (List.mem_cons_of_mem _ w_29)) rfl (by rw [hml]; exact hl.1) rfl d_FO_init_1 (Nat.le_of_ble_eq_true rfl) (Nat.le_of_ble_eq_true rfl) ?_
  refine W.eq (g2 := F0 m 4 ls []) rfl ?_
  refine lv_aload_n hx hb d_FO_init_4 rfl (lv_at hl 0 rfl) ?_
  refine lv_sipush (v := 1200) hx hb d_FO_init_5 (by decide) ?_
  refine va_newa (atype := .int) (a0 := (1200, .inl (fun _ => 0))) (ty := .int) (N' := 1200) hx hb (hts _ (List.mem_cons_of_mem _ w_68)) rfl hK hP hD hS hA (fun _ => rfl) (by decide +kernel) (by decide +kernel) (by decide +kernel) (Nat.le_of_ble_eq_true rfl) (Nat.le_of_ble_eq_true rfl) d_FO_init_8 (fun q5 cA6 H hK hP hD hS => ?_)
  have hP : va_P (dC, dI) cls_ [(h0, .inr (4, [.null, .null, .null, .null, .null, .null, .null, .null, .null, .null, .null, .int 0, .int 0, .int 0, .int 0])), (q5, .inl (cA6, 1200, .inl (fun _ => 0)))] H := hP
  have hD : va_D A [(h0, .inr (4, [.null, .null, .null, .null, .null, .null, .null, .null, .null, .null, .null, .int 0, .int 0, .int 0, .int 0])), (q5, .inl (cA6, 1200, .inl (fun _ => 0)))] := hD
  have hK : va_K (dC, dI) cls_ [(cA6, .int)] s := hK
  refine va_putF (D := (dC, dI)) (ci := 4) (v := .ref q5) (ty := .array .int) (C := R_FO) (T := F_FO) (N := 15) hx hb hts in_FO t_FO t_FO_ok n_FO hown hK hP hD hS 0 rfl rfl 0 (by decide) (hts _ (List.mem_cons_of_mem _ w_117)) (fun _ h9 => h9) rfl hin rfl (by decide +kernel) rfl rfl (Nat.le_of_ble_eq_true rfl) d_FO_init_10 (fun H locs hP hD hS => ?_)
  have hP : va_P (dC, dI) cls_ [(h0, .inr (4, [.ref q5, .null, .null, .null, .null, .null, .null, .null, .null, .null, .null, .int 0, .int 0, .int 0, .int 0])), (q5, .inl (cA6, 1200, .inl (fun _ => 0)))] H := hP
  have hD : va_D A [(h0, .inr (4, [.ref q5, .null, .null, .null, .null, .null, .null, .null, .null, .null, .null, .int 0, .int 0, .int 0, .int 0])), (q5, .inl (cA6, 1200, .inl (fun _ => 0)))] := hD
  refine lv_aload_n hx hb d_FO_init_13 rfl (lv_at hl 0 rfl) ?_
  refine va_new (ci := 2) (fs := [.null, .null, .int 0]) (C := R_DI) (T := F_DI) (N := 3) hx hb hts in_DI t_DI t_DI_ok hown (hts _ (List.mem_cons_of_mem _ w_36)) (hts _ (List.mem_cons_of_mem _ w_37)) (hts _ (List.mem_cons_of_mem _ w_3)) hK hP hD hS hA rfl (fun j hj => by rcases (show j = 0 ∨ j = 1 ∨ j = 2 by omega) with rfl | rfl | rfl <;> rfl) (Nat.le_of_ble_eq_true rfl) (Nat.le_of_ble_eq_true rfl) d_FO_init_14 (fun q7 H hP hD hS => ?_)
  have hP : va_P (dC, dI) cls_ [(h0, .inr (4, [.ref q5, .null, .null, .null, .null, .null, .null, .null, .null, .null, .null, .int 0, .int 0, .int 0, .int 0])), (q5, .inl (cA6, 1200, .inl (fun _ => 0))), (q7, .inr (2, [.null, .null, .int 0]))] H := hP
  have hD : va_D A [(h0, .inr (4, [.ref q5, .null, .null, .null, .null, .null, .null, .null, .null, .null, .null, .int 0, .int 0, .int 0, .int 0])), (q5, .inl (cA6, 1200, .inl (fun _ => 0))), (q7, .inr (2, [.null, .null, .int 0]))] := hD
  refine lv_dup hx hb d_FO_init_17 rfl ?_
  refine lv_aload_n hx hb d_FO_init_18 rfl (lv_at hl 0 rfl) ?_
  refine va_get (D := (dC, dI)) (ci := 4) (v := .ref q5) (C := R_FO) (T := F_FO) (N := 15) hx hb hts in_FO hown hK hP 0 rfl rfl 0 (by decide) (hts _ (List.mem_cons_of_mem _ w_117)) (fun _ h9 => h9) rfl d_FO_init_19 ?_
  have hPc := hP.sub (ws' := [(q7, .inr (2, [.null, .null, .int 0]))]) [2] rfl
  have hDc := hD.sub (ws' := [(q7, .inr (2, [.null, .null, .int 0]))]) [2] (by decide) rfl
  have hKc := hK.sub (tys' := []) [] rfl
  have hFc := va_free (wc := [(q7, .inr (2, [.null, .null, .int 0]))]) hD hS hA [2] rfl
  refine va_callv (va_runI (As := [.ref q5]) (rest := [.ref q7, .ref h0]) ⟨hx, hb, hml, hown, hts⟩ (c_DI_init l dC dI q7 q5 H.size) (cwI 1 hts (tw_in w_40) rfl rfl rfl (hts _ (List.mem_cons_of_mem _ w_3)) (hts _ (List.mem_cons_of_mem _ w_38)) (hts _ (List.mem_cons_of_mem _ w_39)) rfl (by decide +kernel) ⟨Nat.le_of_ble_eq_true rfl, Nat.le_of_ble_eq_true rfl⟩) ⟨fun a U g mk q => by obtain ⟨q0, q1, qP, qK, qD⟩ := q; exact ⟨q0, q1, qP, va_K.moved (u := U) (U := U.calling g mk a) (Vm.Alike.refl U.vm) qK, qD⟩, fun U hU hW => ⟨rfl, by rw [hU], by rw [hU]; exact hPc, va_K.moved hW.alike hKc, hDc.weaken (fun _ _ _ _ => trivial)⟩⟩ rfl rfl hl.1 rfl (lv_room (Nat.le_of_ble_eq_true rfl)) d_FO_init_22 ⟨Nat.le_of_ble_eq_true rfl, Nat.le_of_ble_eq_true rfl⟩) hS (fun q _ h => hFc q h) hFc (fun u t H1 locs ht hvm hw hB hz1 hk1 hS => ?_)
  obtain ⟨q8, q9, hP1, hK1, hD1⟩ := hB
  rw [ht] at hP1
  have hK1 := va_K.moved hvm.symm hK1
  obtain ⟨hP, hD⟩ := va_join (wr := [(h0, .inr (4, [.ref q5, .null, .null, .null, .null, .null, .null, .null, .null, .null, .null, .int 0, .int 0, .int 0, .int 0])), (q5, .inl (cA6, 1200, .inl (fun _ => 0)))]) (w1 := [(q7, .inr (2, [.ref q8, .ref q9, .int 0])), (q8, .inr (0, [.ref q5, .int 0, .int 0, .int 0]))]) hP hD [2] [0, 1] rfl rfl (by decide) (by decide) hk1 hFc hP1 hD1
  have hK := (hK.sub (tys' := [(cA6, .int)]) [0] rfl).app hK1
  generalize H1 = H at hP hS ⊢
  have hP : va_P (dC, dI) cls_ [(h0, .inr (4, [.ref q5, .null, .null, .null, .null, .null, .null, .null, .null, .null, .null, .int 0, .int 0, .int 0, .int 0])), (q5, .inl (cA6, 1200, .inl (fun _ => 0))), (q7, .inr (2, [.ref q8, .ref q9, .int 0])), (q8, .inr (0, [.ref q5, .int 0, .int 0, .int 0]))] H := hP
  have hD : va_D A [(h0, .inr (4, [.ref q5, .null, .null, .null, .null, .null, .null, .null, .null, .null, .null, .int 0, .int 0, .int 0, .int 0])), (q5, .inl (cA6, 1200, .inl (fun _ => 0))), (q7, .inr (2, [.ref q8, .ref q9, .int 0])), (q8, .inr (0, [.ref q5, .int 0, .int 0, .int 0]))] := hD
  have hK : va_K (dC, dI) cls_ [(cA6, .int)] s := hK
  refine va_putF (D := (dC, dI)) (ci := 4) (v := .ref q7) (ty := .object "GlyphLines$Directory") (C := R_FO) (T := F_FO) (N := 15) hx hb hts in_FO t_FO t_FO_ok n_FO hown hK hP hD hS 0 rfl rfl 1 (by decide) (hts _ (List.mem_cons_of_mem _ w_118)) (fun _ h9 => h9) rfl hin rfl (by decide +kernel) rfl rfl (Nat.le_of_ble_eq_true rfl) d_FO_init_25 (fun H locs hP hD hS => ?_)
  have hP : va_P (dC, dI) cls_ [(h0, .inr (4, [.ref q5, .ref q7, .null, .null, .null, .null, .null, .null, .null, .null, .null, .int 0, .int 0, .int 0, .int 0])), (q5, .inl (cA6, 1200, .inl (fun _ => 0))), (q7, .inr (2, [.ref q8, .ref q9, .int 0])), (q8, .inr (0, [.ref q5, .int 0, .int 0, .int 0]))] H := hP
  have hD : va_D A [(h0, .inr (4, [.ref q5, .ref q7, .null, .null, .null, .null, .null, .null, .null, .null, .null, .int 0, .int 0, .int 0, .int 0])), (q5, .inl (cA6, 1200, .inl (fun _ => 0))), (q7, .inr (2, [.ref q8, .ref q9, .int 0])), (q8, .inr (0, [.ref q5, .int 0, .int 0, .int 0]))] := hD
  refine lv_aload_n hx hb d_FO_init_28 rfl (lv_at hl 0 rfl) ?_
  refine va_new (ci := 0) (fs := [.null, .int 0, .int 0, .int 0]) (C := R_SP) (T := F_SP) (N := 4) hx hb hts in_SP t_SP t_SP_ok hown (hts _ (List.mem_cons_of_mem _ w_79)) (hts _ (List.mem_cons_of_mem _ w_43)) (hts _ (List.mem_cons_of_mem _ w_4)) hK hP hD hS hA rfl (fun j hj => by rcases (show j = 0 ∨ j = 1 ∨ j = 2 ∨ j = 3 by omega) with rfl | rfl | rfl | rfl <;> rfl) (Nat.le_of_ble_eq_true rfl) (Nat.le_of_ble_eq_true rfl) d_FO_init_29 (fun q10 H hP hD hS => ?_)
  have hP : va_P (dC, dI) cls_ [(h0, .inr (4, [.ref q5, .ref q7, .null, .null, .null, .null, .null, .null, .null, .null, .null, .int 0, .int 0, .int 0, .int 0])), (q5, .inl (cA6, 1200, .inl (fun _ => 0))), (q7, .inr (2, [.ref q8, .ref q9, .int 0])), (q8, .inr (0, [.ref q5, .int 0, .int 0, .int 0])), (q10, .inr (0, [.null, .int 0, .int 0, .int 0]))] H := hP
  have hD : va_D A [(h0, .inr (4, [.ref q5, .ref q7, .null, .null, .null, .null, .null, .null, .null, .null, .null, .int 0, .int 0, .int 0, .int 0])), (q5, .inl (cA6, 1200, .inl (fun _ => 0))), (q7, .inr (2, [.ref q8, .ref q9, .int 0])), (q8, .inr (0, [.ref q5, .int 0, .int 0, .int 0])), (q10, .inr (0, [.null, .int 0, .int 0, .int 0]))] := hD
  refine lv_dup hx hb d_FO_init_32 rfl ?_
  refine lv_aload_n hx hb d_FO_init_33 rfl (lv_at hl 0 rfl) ?_
  refine va_get (D := (dC, dI)) (ci := 4) (v := .ref q5) (C := R_FO) (T := F_FO) (N := 15) hx hb hts in_FO hown hK hP 0 rfl rfl 0 (by decide) (hts _ (List.mem_cons_of_mem _ w_117)) (fun _ h9 => h9) rfl d_FO_init_34 ?_
  have hPc := hP.sub (ws' := [(q10, .inr (0, [.null, .int 0, .int 0, .int 0]))]) [4] rfl
  have hDc := hD.sub (ws' := [(q10, .inr (0, [.null, .int 0, .int 0, .int 0]))]) [4] (by decide) rfl
  have hKc := hK.sub (tys' := []) [] rfl
  have hFc := va_free (wc := [(q10, .inr (0, [.null, .int 0, .int 0, .int 0]))]) hD hS hA [4] rfl
  refine va_callv (va_runI (As := [.ref q5]) (rest := [.ref q10, .ref h0]) ⟨hx, hb, hml, hown, hts⟩ (c_SP_init l dC dI q10 q5 H.size) (cwI 1 hts (tw_in w_46) rfl rfl rfl (hts _ (List.mem_cons_of_mem _ w_4)) (hts _ (List.mem_cons_of_mem _ w_80)) (hts _ (List.mem_cons_of_mem _ w_45)) rfl (by decide +kernel) ⟨Nat.le_of_ble_eq_true rfl, Nat.le_of_ble_eq_true rfl⟩) ⟨fun a U g mk q => by obtain ⟨q0, q1, qP, qK, qD⟩ := q; exact ⟨q0, q1, qP, va_K.moved (u := U) (U := U.calling g mk a) (Vm.Alike.refl U.vm) qK, qD⟩, fun U hU hW => ⟨rfl, by rw [hU], by rw [hU]; exact hPc, va_K.moved hW.alike hKc, hDc.weaken (fun _ _ _ _ => trivial)⟩⟩ rfl rfl hl.1 rfl (lv_room (Nat.le_of_ble_eq_true rfl)) d_FO_init_37 ⟨Nat.le_of_ble_eq_true rfl, Nat.le_of_ble_eq_true rfl⟩) hS (fun q _ h => hFc q h) hFc (fun u t H1 locs ht hvm hw hB hz1 hk1 hS => ?_)
  obtain ⟨hP1, hK1, hD1⟩ := hB
  rw [ht] at hP1
  have hK1 := va_K.moved hvm.symm hK1
  obtain ⟨hP, hD⟩ := va_join (wr := [(h0, .inr (4, [.ref q5, .ref q7, .null, .null, .null, .null, .null, .null, .null, .null, .null, .int 0, .int 0, .int 0, .int 0])), (q5, .inl (cA6, 1200, .inl (fun _ => 0))), (q7, .inr (2, [.ref q8, .ref q9, .int 0])), (q8, .inr (0, [.ref q5, .int 0, .int 0, .int 0]))]) (w1 := [(q10, .inr (0, [.ref q5, .int 0, .int 0, .int 0]))]) hP hD [4] [0, 1, 2, 3] rfl rfl (by decide) (by decide) hk1 hFc hP1 hD1
  have hK := (hK.sub (tys' := [(cA6, .int)]) [0] rfl).app hK1
  generalize H1 = H at hP hS ⊢
  have hP : va_P (dC, dI) cls_ [(h0, .inr (4, [.ref q5, .ref q7, .null, .null, .null, .null, .null, .null, .null, .null, .null, .int 0, .int 0, .int 0, .int 0])), (q5, .inl (cA6, 1200, .inl (fun _ => 0))), (q7, .inr (2, [.ref q8, .ref q9, .int 0])), (q8, .inr (0, [.ref q5, .int 0, .int 0, .int 0])), (q10, .inr (0, [.ref q5, .int 0, .int 0, .int 0]))] H := hP
  have hD : va_D A [(h0, .inr (4, [.ref q5, .ref q7, .null, .null, .null, .null, .null, .null, .null, .null, .null, .int 0, .int 0, .int 0, .int 0])), (q5, .inl (cA6, 1200, .inl (fun _ => 0))), (q7, .inr (2, [.ref q8, .ref q9, .int 0])), (q8, .inr (0, [.ref q5, .int 0, .int 0, .int 0])), (q10, .inr (0, [.ref q5, .int 0, .int 0, .int 0]))] := hD
  have hK : va_K (dC, dI) cls_ [(cA6, .int)] s := hK
  refine va_putF (D := (dC, dI)) (ci := 4) (v := .ref q10) (ty := .object "GlyphLines$Span") (C := R_FO) (T := F_FO) (N := 15) hx hb hts in_FO t_FO t_FO_ok n_FO hown hK hP hD hS 0 rfl rfl 2 (by decide) (hts _ (List.mem_cons_of_mem _ w_119)) (fun _ h9 => h9) rfl hin rfl (by decide +kernel) rfl rfl (Nat.le_of_ble_eq_true rfl) d_FO_init_40 (fun H locs hP hD hS => ?_)
  have hP : va_P (dC, dI) cls_ [(h0, .inr (4, [.ref q5, .ref q7, .ref q10, .null, .null, .null, .null, .null, .null, .null, .null, .int 0, .int 0, .int 0, .int 0])), (q5, .inl (cA6, 1200, .inl (fun _ => 0))), (q7, .inr (2, [.ref q8, .ref q9, .int 0])), (q8, .inr (0, [.ref q5, .int 0, .int 0, .int 0])), (q10, .inr (0, [.ref q5, .int 0, .int 0, .int 0]))] H := hP
  have hD : va_D A [(h0, .inr (4, [.ref q5, .ref q7, .ref q10, .null, .null, .null, .null, .null, .null, .null, .null, .int 0, .int 0, .int 0, .int 0])), (q5, .inl (cA6, 1200, .inl (fun _ => 0))), (q7, .inr (2, [.ref q8, .ref q9, .int 0])), (q8, .inr (0, [.ref q5, .int 0, .int 0, .int 0])), (q10, .inr (0, [.ref q5, .int 0, .int 0, .int 0]))] := hD
  refine lv_aload_n hx hb d_FO_init_43 rfl (lv_at hl 0 rfl) ?_
  refine va_new (ci := 0) (fs := [.null, .int 0, .int 0, .int 0]) (C := R_SP) (T := F_SP) (N := 4) hx hb hts in_SP t_SP t_SP_ok hown (hts _ (List.mem_cons_of_mem _ w_79)) (hts _ (List.mem_cons_of_mem _ w_43)) (hts _ (List.mem_cons_of_mem _ w_4)) hK hP hD hS hA rfl (fun j hj => by rcases (show j = 0 ∨ j = 1 ∨ j = 2 ∨ j = 3 by omega) with rfl | rfl | rfl | rfl <;> rfl) (Nat.le_of_ble_eq_true rfl) (Nat.le_of_ble_eq_true rfl) d_FO_init_44 (fun q11 H hP hD hS => ?_)
  have hP : va_P (dC, dI) cls_ [(h0, .inr (4, [.ref q5, .ref q7, .ref q10, .null, .null, .null, .null, .null, .null, .null, .null, .int 0, .int 0, .int 0, .int 0])), (q5, .inl (cA6, 1200, .inl (fun _ => 0))), (q7, .inr (2, [.ref q8, .ref q9, .int 0])), (q8, .inr (0, [.ref q5, .int 0, .int 0, .int 0])), (q10, .inr (0, [.ref q5, .int 0, .int 0, .int 0])), (q11, .inr (0, [.null, .int 0, .int 0, .int 0]))] H := hP
  have hD : va_D A [(h0, .inr (4, [.ref q5, .ref q7, .ref q10, .null, .null, .null, .null, .null, .null, .null, .null, .int 0, .int 0, .int 0, .int 0])), (q5, .inl (cA6, 1200, .inl (fun _ => 0))), (q7, .inr (2, [.ref q8, .ref q9, .int 0])), (q8, .inr (0, [.ref q5, .int 0, .int 0, .int 0])), (q10, .inr (0, [.ref q5, .int 0, .int 0, .int 0])), (q11, .inr (0, [.null, .int 0, .int 0, .int 0]))] := hD
  refine lv_dup hx hb d_FO_init_47 rfl ?_
  refine lv_aload_n hx hb d_FO_init_48 rfl (lv_at hl 0 rfl) ?_
  refine va_get (D := (dC, dI)) (ci := 4) (v := .ref q5) (C := R_FO) (T := F_FO) (N := 15) hx hb hts in_FO hown hK hP 0 rfl rfl 0 (by decide) (hts _ (List.mem_cons_of_mem _ w_117)) (fun _ h9 => h9) rfl d_FO_init_49 ?_
  have hPc := hP.sub (ws' := [(q11, .inr (0, [.null, .int 0, .int 0, .int 0]))]) [5] rfl
  have hDc := hD.sub (ws' := [(q11, .inr (0, [.null, .int 0, .int 0, .int 0]))]) [5] (by decide) rfl
  have hKc := hK.sub (tys' := []) [] rfl
  have hFc := va_free (wc := [(q11, .inr (0, [.null, .int 0, .int 0, .int 0]))]) hD hS hA [5] rfl
  refine va_callv (va_runI (As := [.ref q5]) (rest := [.ref q11, .ref h0]) ⟨hx, hb, hml, hown, hts⟩ (c_SP_init l dC dI q11 q5 H.size) (cwI 1 hts (tw_in w_46) rfl rfl rfl (hts _ (List.mem_cons_of_mem _ w_4)) (hts _ (List.mem_cons_of_mem _ w_80)) (hts _ (List.mem_cons_of_mem _ w_45)) rfl (by decide +kernel) ⟨Nat.le_of_ble_eq_true rfl, Nat.le_of_ble_eq_true rfl⟩) ⟨fun a U g mk q => by obtain ⟨q0, q1, qP, qK, qD⟩ := q; exact ⟨q0, q1, qP, va_K.moved (u := U) (U := U.calling g mk a) (Vm.Alike.refl U.vm) qK, qD⟩, fun U hU hW => ⟨rfl, by rw [hU], by rw [hU]; exact hPc, va_K.moved hW.alike hKc, hDc.weaken (fun _ _ _ _ => trivial)⟩⟩ rfl rfl hl.1 rfl (lv_room (Nat.le_of_ble_eq_true rfl)) d_FO_init_52 ⟨Nat.le_of_ble_eq_true rfl, Nat.le_of_ble_eq_true rfl⟩) hS (fun q _ h => hFc q h) hFc (fun u t H1 locs ht hvm hw hB hz1 hk1 hS => ?_)
  obtain ⟨hP1, hK1, hD1⟩ := hB
  rw [ht] at hP1
  have hK1 := va_K.moved hvm.symm hK1
  obtain ⟨hP, hD⟩ := va_join (wr := [(h0, .inr (4, [.ref q5, .ref q7, .ref q10, .null, .null, .null, .null, .null, .null, .null, .null, .int 0, .int 0, .int 0, .int 0])), (q5, .inl (cA6, 1200, .inl (fun _ => 0))), (q7, .inr (2, [.ref q8, .ref q9, .int 0])), (q8, .inr (0, [.ref q5, .int 0, .int 0, .int 0])), (q10, .inr (0, [.ref q5, .int 0, .int 0, .int 0]))]) (w1 := [(q11, .inr (0, [.ref q5, .int 0, .int 0, .int 0]))]) hP hD [5] [0, 1, 2, 3, 4] rfl rfl (by decide) (by decide) hk1 hFc hP1 hD1
  have hK := (hK.sub (tys' := [(cA6, .int)]) [0] rfl).app hK1
  generalize H1 = H at hP hS ⊢
  have hP : va_P (dC, dI) cls_ [(h0, .inr (4, [.ref q5, .ref q7, .ref q10, .null, .null, .null, .null, .null, .null, .null, .null, .int 0, .int 0, .int 0, .int 0])), (q5, .inl (cA6, 1200, .inl (fun _ => 0))), (q7, .inr (2, [.ref q8, .ref q9, .int 0])), (q8, .inr (0, [.ref q5, .int 0, .int 0, .int 0])), (q10, .inr (0, [.ref q5, .int 0, .int 0, .int 0])), (q11, .inr (0, [.ref q5, .int 0, .int 0, .int 0]))] H := hP
  have hD : va_D A [(h0, .inr (4, [.ref q5, .ref q7, .ref q10, .null, .null, .null, .null, .null, .null, .null, .null, .int 0, .int 0, .int 0, .int 0])), (q5, .inl (cA6, 1200, .inl (fun _ => 0))), (q7, .inr (2, [.ref q8, .ref q9, .int 0])), (q8, .inr (0, [.ref q5, .int 0, .int 0, .int 0])), (q10, .inr (0, [.ref q5, .int 0, .int 0, .int 0])), (q11, .inr (0, [.ref q5, .int 0, .int 0, .int 0]))] := hD
  have hK : va_K (dC, dI) cls_ [(cA6, .int)] s := hK
  refine va_putF (D := (dC, dI)) (ci := 4) (v := .ref q11) (ty := .object "GlyphLines$Span") (C := R_FO) (T := F_FO) (N := 15) hx hb hts in_FO t_FO t_FO_ok n_FO hown hK hP hD hS 0 rfl rfl 3 (by decide) (hts _ (List.mem_cons_of_mem _ w_120)) (fun _ h9 => h9) rfl hin rfl (by decide +kernel) rfl rfl (Nat.le_of_ble_eq_true rfl) d_FO_init_55 (fun H locs hP hD hS => ?_)
  have hP : va_P (dC, dI) cls_ [(h0, .inr (4, [.ref q5, .ref q7, .ref q10, .ref q11, .null, .null, .null, .null, .null, .null, .null, .int 0, .int 0, .int 0, .int 0])), (q5, .inl (cA6, 1200, .inl (fun _ => 0))), (q7, .inr (2, [.ref q8, .ref q9, .int 0])), (q8, .inr (0, [.ref q5, .int 0, .int 0, .int 0])), (q10, .inr (0, [.ref q5, .int 0, .int 0, .int 0])), (q11, .inr (0, [.ref q5, .int 0, .int 0, .int 0]))] H := hP
  have hD : va_D A [(h0, .inr (4, [.ref q5, .ref q7, .ref q10, .ref q11, .null, .null, .null, .null, .null, .null, .null, .int 0, .int 0, .int 0, .int 0])), (q5, .inl (cA6, 1200, .inl (fun _ => 0))), (q7, .inr (2, [.ref q8, .ref q9, .int 0])), (q8, .inr (0, [.ref q5, .int 0, .int 0, .int 0])), (q10, .inr (0, [.ref q5, .int 0, .int 0, .int 0])), (q11, .inr (0, [.ref q5, .int 0, .int 0, .int 0]))] := hD
  refine lv_aload_n hx hb d_FO_init_58 rfl (lv_at hl 0 rfl) ?_
  refine va_new (ci := 0) (fs := [.null, .int 0, .int 0, .int 0]) (C := R_SP) (T := F_SP) (N := 4) hx hb hts in_SP t_SP t_SP_ok hown (hts _ (List.mem_cons_of_mem _ w_79)) (hts _ (List.mem_cons_of_mem _ w_43)) (hts _ (List.mem_cons_of_mem _ w_4)) hK hP hD hS hA rfl (fun j hj => by rcases (show j = 0 ∨ j = 1 ∨ j = 2 ∨ j = 3 by omega) with rfl | rfl | rfl | rfl <;> rfl) (Nat.le_of_ble_eq_true rfl) (Nat.le_of_ble_eq_true rfl) d_FO_init_59 (fun q12 H hP hD hS => ?_)
  have hP : va_P (dC, dI) cls_ [(h0, .inr (4, [.ref q5, .ref q7, .ref q10, .ref q11, .null, .null, .null, .null, .null, .null, .null, .int 0, .int 0, .int 0, .int 0])), (q5, .inl (cA6, 1200, .inl (fun _ => 0))), (q7, .inr (2, [.ref q8, .ref q9, .int 0])), (q8, .inr (0, [.ref q5, .int 0, .int 0, .int 0])), (q10, .inr (0, [.ref q5, .int 0, .int 0, .int 0])), (q11, .inr (0, [.ref q5, .int 0, .int 0, .int 0])), (q12, .inr (0, [.null, .int 0, .int 0, .int 0]))] H := hP
  have hD : va_D A [(h0, .inr (4, [.ref q5, .ref q7, .ref q10, .ref q11, .null, .null, .null, .null, .null, .null, .null, .int 0, .int 0, .int 0, .int 0])), (q5, .inl (cA6, 1200, .inl (fun _ => 0))), (q7, .inr (2, [.ref q8, .ref q9, .int 0])), (q8, .inr (0, [.ref q5, .int 0, .int 0, .int 0])), (q10, .inr (0, [.ref q5, .int 0, .int 0, .int 0])), (q11, .inr (0, [.ref q5, .int 0, .int 0, .int 0])), (q12, .inr (0, [.null, .int 0, .int 0, .int 0]))] := hD
  refine lv_dup hx hb d_FO_init_62 rfl ?_
  refine lv_aload_n hx hb d_FO_init_63 rfl (lv_at hl 0 rfl) ?_
  refine va_get (D := (dC, dI)) (ci := 4) (v := .ref q5) (C := R_FO) (T := F_FO) (N := 15) hx hb hts in_FO hown hK hP 0 rfl rfl 0 (by decide) (hts _ (List.mem_cons_of_mem _ w_117)) (fun _ h9 => h9) rfl d_FO_init_64 ?_
  have hPc := hP.sub (ws' := [(q12, .inr (0, [.null, .int 0, .int 0, .int 0]))]) [6] rfl
  have hDc := hD.sub (ws' := [(q12, .inr (0, [.null, .int 0, .int 0, .int 0]))]) [6] (by decide) rfl
  have hKc := hK.sub (tys' := []) [] rfl
  have hFc := va_free (wc := [(q12, .inr (0, [.null, .int 0, .int 0, .int 0]))]) hD hS hA [6] rfl
  refine va_callv (va_runI (As := [.ref q5]) (rest := [.ref q12, .ref h0]) ⟨hx, hb, hml, hown, hts⟩ (c_SP_init l dC dI q12 q5 H.size) (cwI 1 hts (tw_in w_46) rfl rfl rfl (hts _ (List.mem_cons_of_mem _ w_4)) (hts _ (List.mem_cons_of_mem _ w_80)) (hts _ (List.mem_cons_of_mem _ w_45)) rfl (by decide +kernel) ⟨Nat.le_of_ble_eq_true rfl, Nat.le_of_ble_eq_true rfl⟩) ⟨fun a U g mk q => by obtain ⟨q0, q1, qP, qK, qD⟩ := q; exact ⟨q0, q1, qP, va_K.moved (u := U) (U := U.calling g mk a) (Vm.Alike.refl U.vm) qK, qD⟩, fun U hU hW => ⟨rfl, by rw [hU], by rw [hU]; exact hPc, va_K.moved hW.alike hKc, hDc.weaken (fun _ _ _ _ => trivial)⟩⟩ rfl rfl hl.1 rfl (lv_room (Nat.le_of_ble_eq_true rfl)) d_FO_init_67 ⟨Nat.le_of_ble_eq_true rfl, Nat.le_of_ble_eq_true rfl⟩) hS (fun q _ h => hFc q h) hFc (fun u t H1 locs ht hvm hw hB hz1 hk1 hS => ?_)
  obtain ⟨hP1, hK1, hD1⟩ := hB
  rw [ht] at hP1
  have hK1 := va_K.moved hvm.symm hK1
  obtain ⟨hP, hD⟩ := va_join (wr := [(h0, .inr (4, [.ref q5, .ref q7, .ref q10, .ref q11, .null, .null, .null, .null, .null, .null, .null, .int 0, .int 0, .int 0, .int 0])), (q5, .inl (cA6, 1200, .inl (fun _ => 0))), (q7, .inr (2, [.ref q8, .ref q9, .int 0])), (q8, .inr (0, [.ref q5, .int 0, .int 0, .int 0])), (q10, .inr (0, [.ref q5, .int 0, .int 0, .int 0])), (q11, .inr (0, [.ref q5, .int 0, .int 0, .int 0]))]) (w1 := [(q12, .inr (0, [.ref q5, .int 0, .int 0, .int 0]))]) hP hD [6] [0, 1, 2, 3, 4, 5] rfl rfl (by decide) (by decide) hk1 hFc hP1 hD1
  have hK := (hK.sub (tys' := [(cA6, .int)]) [0] rfl).app hK1
  generalize H1 = H at hP hS ⊢
  have hP : va_P (dC, dI) cls_ [(h0, .inr (4, [.ref q5, .ref q7, .ref q10, .ref q11, .null, .null, .null, .null, .null, .null, .null, .int 0, .int 0, .int 0, .int 0])), (q5, .inl (cA6, 1200, .inl (fun _ => 0))), (q7, .inr (2, [.ref q8, .ref q9, .int 0])), (q8, .inr (0, [.ref q5, .int 0, .int 0, .int 0])), (q10, .inr (0, [.ref q5, .int 0, .int 0, .int 0])), (q11, .inr (0, [.ref q5, .int 0, .int 0, .int 0])), (q12, .inr (0, [.ref q5, .int 0, .int 0, .int 0]))] H := hP
  have hD : va_D A [(h0, .inr (4, [.ref q5, .ref q7, .ref q10, .ref q11, .null, .null, .null, .null, .null, .null, .null, .int 0, .int 0, .int 0, .int 0])), (q5, .inl (cA6, 1200, .inl (fun _ => 0))), (q7, .inr (2, [.ref q8, .ref q9, .int 0])), (q8, .inr (0, [.ref q5, .int 0, .int 0, .int 0])), (q10, .inr (0, [.ref q5, .int 0, .int 0, .int 0])), (q11, .inr (0, [.ref q5, .int 0, .int 0, .int 0])), (q12, .inr (0, [.ref q5, .int 0, .int 0, .int 0]))] := hD
  have hK : va_K (dC, dI) cls_ [(cA6, .int)] s := hK
  refine va_putF (D := (dC, dI)) (ci := 4) (v := .ref q12) (ty := .object "GlyphLines$Span") (C := R_FO) (T := F_FO) (N := 15) hx hb hts in_FO t_FO t_FO_ok n_FO hown hK hP hD hS 0 rfl rfl 4 (by decide) (hts _ (List.mem_cons_of_mem _ w_121)) (fun _ h9 => h9) rfl hin rfl (by decide +kernel) rfl rfl (Nat.le_of_ble_eq_true rfl) d_FO_init_70 (fun H locs hP hD hS => ?_)
  have hP : va_P (dC, dI) cls_ [(h0, .inr (4, [.ref q5, .ref q7, .ref q10, .ref q11, .ref q12, .null, .null, .null, .null, .null, .null, .int 0, .int 0, .int 0, .int 0])), (q5, .inl (cA6, 1200, .inl (fun _ => 0))), (q7, .inr (2, [.ref q8, .ref q9, .int 0])), (q8, .inr (0, [.ref q5, .int 0, .int 0, .int 0])), (q10, .inr (0, [.ref q5, .int 0, .int 0, .int 0])), (q11, .inr (0, [.ref q5, .int 0, .int 0, .int 0])), (q12, .inr (0, [.ref q5, .int 0, .int 0, .int 0]))] H := hP
  have hD : va_D A [(h0, .inr (4, [.ref q5, .ref q7, .ref q10, .ref q11, .ref q12, .null, .null, .null, .null, .null, .null, .int 0, .int 0, .int 0, .int 0])), (q5, .inl (cA6, 1200, .inl (fun _ => 0))), (q7, .inr (2, [.ref q8, .ref q9, .int 0])), (q8, .inr (0, [.ref q5, .int 0, .int 0, .int 0])), (q10, .inr (0, [.ref q5, .int 0, .int 0, .int 0])), (q11, .inr (0, [.ref q5, .int 0, .int 0, .int 0])), (q12, .inr (0, [.ref q5, .int 0, .int 0, .int 0]))] := hD
  refine lv_aload_n hx hb d_FO_init_73 rfl (lv_at hl 0 rfl) ?_
  refine va_new (ci := 0) (fs := [.null, .int 0, .int 0, .int 0]) (C := R_SP) (T := F_SP) (N := 4) hx hb hts in_SP t_SP t_SP_ok hown (hts _ (List.mem_cons_of_mem _ w_79)) (hts _ (List.mem_cons_of_mem _ w_43)) (hts _ (List.mem_cons_of_mem _ w_4)) hK hP hD hS hA rfl (fun j hj => by rcases (show j = 0 ∨ j = 1 ∨ j = 2 ∨ j = 3 by omega) with rfl | rfl | rfl | rfl <;> rfl) (Nat.le_of_ble_eq_true rfl) (Nat.le_of_ble_eq_true rfl) d_FO_init_74 (fun q13 H hP hD hS => ?_)
  have hP : va_P (dC, dI) cls_ [(h0, .inr (4, [.ref q5, .ref q7, .ref q10, .ref q11, .ref q12, .null, .null, .null, .null, .null, .null, .int 0, .int 0, .int 0, .int 0])), (q5, .inl (cA6, 1200, .inl (fun _ => 0))), (q7, .inr (2, [.ref q8, .ref q9, .int 0])), (q8, .inr (0, [.ref q5, .int 0, .int 0, .int 0])), (q10, .inr (0, [.ref q5, .int 0, .int 0, .int 0])), (q11, .inr (0, [.ref q5, .int 0, .int 0, .int 0])), (q12, .inr (0, [.ref q5, .int 0, .int 0, .int 0])), (q13, .inr (0, [.null, .int 0, .int 0, .int 0]))] H := hP
  have hD : va_D A [(h0, .inr (4, [.ref q5, .ref q7, .ref q10, .ref q11, .ref q12, .null, .null, .null, .null, .null, .null, .int 0, .int 0, .int 0, .int 0])), (q5, .inl (cA6, 1200, .inl (fun _ => 0))), (q7, .inr (2, [.ref q8, .ref q9, .int 0])), (q8, .inr (0, [.ref q5, .int 0, .int 0, .int 0])), (q10, .inr (0, [.ref q5, .int 0, .int 0, .int 0])), (q11, .inr (0, [.ref q5, .int 0, .int 0, .int 0])), (q12, .inr (0, [.ref q5, .int 0, .int 0, .int 0])), (q13, .inr (0, [.null, .int 0, .int 0, .int 0]))] := hD
  refine lv_dup hx hb d_FO_init_77 rfl ?_
  refine lv_aload_n hx hb d_FO_init_78 rfl (lv_at hl 0 rfl) ?_
  refine va_get (D := (dC, dI)) (ci := 4) (v := .ref q5) (C := R_FO) (T := F_FO) (N := 15) hx hb hts in_FO hown hK hP 0 rfl rfl 0 (by decide) (hts _ (List.mem_cons_of_mem _ w_117)) (fun _ h9 => h9) rfl d_FO_init_79 ?_
  have hPc := hP.sub (ws' := [(q13, .inr (0, [.null, .int 0, .int 0, .int 0]))]) [7] rfl
  have hDc := hD.sub (ws' := [(q13, .inr (0, [.null, .int 0, .int 0, .int 0]))]) [7] (by decide) rfl
  have hKc := hK.sub (tys' := []) [] rfl
  have hFc := va_free (wc := [(q13, .inr (0, [.null, .int 0, .int 0, .int 0]))]) hD hS hA [7] rfl
  refine va_callv (va_runI (As := [.ref q5]) (rest := [.ref q13, .ref h0]) ⟨hx, hb, hml, hown, hts⟩ (c_SP_init l dC dI q13 q5 H.size) (cwI 1 hts (tw_in w_46) rfl rfl rfl (hts _ (List.mem_cons_of_mem _ w_4)) (hts _ (List.mem_cons_of_mem _ w_80)) (hts _ (List.mem_cons_of_mem _ w_45)) rfl (by decide +kernel) ⟨Nat.le_of_ble_eq_true rfl, Nat.le_of_ble_eq_true rfl⟩) ⟨fun a U g mk q => by obtain ⟨q0, q1, qP, qK, qD⟩ := q; exact ⟨q0, q1, qP, va_K.moved (u := U) (U := U.calling g mk a) (Vm.Alike.refl U.vm) qK, qD⟩, fun U hU hW => ⟨rfl, by rw [hU], by rw [hU]; exact hPc, va_K.moved hW.alike hKc, hDc.weaken (fun _ _ _ _ => trivial)⟩⟩ rfl rfl hl.1 rfl (lv_room (Nat.le_of_ble_eq_true rfl)) d_FO_init_82 ⟨Nat.le_of_ble_eq_true rfl, Nat.le_of_ble_eq_true rfl⟩) hS (fun q _ h => hFc q h) hFc (fun u t H1 locs ht hvm hw hB hz1 hk1 hS => ?_)
  obtain ⟨hP1, hK1, hD1⟩ := hB
  rw [ht] at hP1
  have hK1 := va_K.moved hvm.symm hK1
  obtain ⟨hP, hD⟩ := va_join (wr := [(h0, .inr (4, [.ref q5, .ref q7, .ref q10, .ref q11, .ref q12, .null, .null, .null, .null, .null, .null, .int 0, .int 0, .int 0, .int 0])), (q5, .inl (cA6, 1200, .inl (fun _ => 0))), (q7, .inr (2, [.ref q8, .ref q9, .int 0])), (q8, .inr (0, [.ref q5, .int 0, .int 0, .int 0])), (q10, .inr (0, [.ref q5, .int 0, .int 0, .int 0])), (q11, .inr (0, [.ref q5, .int 0, .int 0, .int 0])), (q12, .inr (0, [.ref q5, .int 0, .int 0, .int 0]))]) (w1 := [(q13, .inr (0, [.ref q5, .int 0, .int 0, .int 0]))]) hP hD [7] [0, 1, 2, 3, 4, 5, 6] rfl rfl (by decide) (by decide) hk1 hFc hP1 hD1
  have hK := (hK.sub (tys' := [(cA6, .int)]) [0] rfl).app hK1
  generalize H1 = H at hP hS ⊢
  have hP : va_P (dC, dI) cls_ [(h0, .inr (4, [.ref q5, .ref q7, .ref q10, .ref q11, .ref q12, .null, .null, .null, .null, .null, .null, .int 0, .int 0, .int 0, .int 0])), (q5, .inl (cA6, 1200, .inl (fun _ => 0))), (q7, .inr (2, [.ref q8, .ref q9, .int 0])), (q8, .inr (0, [.ref q5, .int 0, .int 0, .int 0])), (q10, .inr (0, [.ref q5, .int 0, .int 0, .int 0])), (q11, .inr (0, [.ref q5, .int 0, .int 0, .int 0])), (q12, .inr (0, [.ref q5, .int 0, .int 0, .int 0])), (q13, .inr (0, [.ref q5, .int 0, .int 0, .int 0]))] H := hP
  have hD : va_D A [(h0, .inr (4, [.ref q5, .ref q7, .ref q10, .ref q11, .ref q12, .null, .null, .null, .null, .null, .null, .int 0, .int 0, .int 0, .int 0])), (q5, .inl (cA6, 1200, .inl (fun _ => 0))), (q7, .inr (2, [.ref q8, .ref q9, .int 0])), (q8, .inr (0, [.ref q5, .int 0, .int 0, .int 0])), (q10, .inr (0, [.ref q5, .int 0, .int 0, .int 0])), (q11, .inr (0, [.ref q5, .int 0, .int 0, .int 0])), (q12, .inr (0, [.ref q5, .int 0, .int 0, .int 0])), (q13, .inr (0, [.ref q5, .int 0, .int 0, .int 0]))] := hD
  have hK : va_K (dC, dI) cls_ [(cA6, .int)] s := hK
  refine va_putF (D := (dC, dI)) (ci := 4) (v := .ref q13) (ty := .object "GlyphLines$Span") (C := R_FO) (T := F_FO) (N := 15) hx hb hts in_FO t_FO t_FO_ok n_FO hown hK hP hD hS 0 rfl rfl 5 (by decide) (hts _ (List.mem_cons_of_mem _ w_122)) (fun _ h9 => h9) rfl hin rfl (by decide +kernel) rfl rfl (Nat.le_of_ble_eq_true rfl) d_FO_init_85 (fun H locs hP hD hS => ?_)
  have hP : va_P (dC, dI) cls_ [(h0, .inr (4, [.ref q5, .ref q7, .ref q10, .ref q11, .ref q12, .ref q13, .null, .null, .null, .null, .null, .int 0, .int 0, .int 0, .int 0])), (q5, .inl (cA6, 1200, .inl (fun _ => 0))), (q7, .inr (2, [.ref q8, .ref q9, .int 0])), (q8, .inr (0, [.ref q5, .int 0, .int 0, .int 0])), (q10, .inr (0, [.ref q5, .int 0, .int 0, .int 0])), (q11, .inr (0, [.ref q5, .int 0, .int 0, .int 0])), (q12, .inr (0, [.ref q5, .int 0, .int 0, .int 0])), (q13, .inr (0, [.ref q5, .int 0, .int 0, .int 0]))] H := hP
  have hD : va_D A [(h0, .inr (4, [.ref q5, .ref q7, .ref q10, .ref q11, .ref q12, .ref q13, .null, .null, .null, .null, .null, .int 0, .int 0, .int 0, .int 0])), (q5, .inl (cA6, 1200, .inl (fun _ => 0))), (q7, .inr (2, [.ref q8, .ref q9, .int 0])), (q8, .inr (0, [.ref q5, .int 0, .int 0, .int 0])), (q10, .inr (0, [.ref q5, .int 0, .int 0, .int 0])), (q11, .inr (0, [.ref q5, .int 0, .int 0, .int 0])), (q12, .inr (0, [.ref q5, .int 0, .int 0, .int 0])), (q13, .inr (0, [.ref q5, .int 0, .int 0, .int 0]))] := hD
  refine lv_aload_n hx hb d_FO_init_88 rfl (lv_at hl 0 rfl) ?_
  refine va_new (ci := 0) (fs := [.null, .int 0, .int 0, .int 0]) (C := R_SP) (T := F_SP) (N := 4) hx hb hts in_SP t_SP t_SP_ok hown (hts _ (List.mem_cons_of_mem _ w_79)) (hts _ (List.mem_cons_of_mem _ w_43)) (hts _ (List.mem_cons_of_mem _ w_4)) hK hP hD hS hA rfl (fun j hj => by rcases (show j = 0 ∨ j = 1 ∨ j = 2 ∨ j = 3 by omega) with rfl | rfl | rfl | rfl <;> rfl) (Nat.le_of_ble_eq_true rfl) (Nat.le_of_ble_eq_true rfl) d_FO_init_89 (fun q14 H hP hD hS => ?_)
  have hP : va_P (dC, dI) cls_ [(h0, .inr (4, [.ref q5, .ref q7, .ref q10, .ref q11, .ref q12, .ref q13, .null, .null, .null, .null, .null, .int 0, .int 0, .int 0, .int 0])), (q5, .inl (cA6, 1200, .inl (fun _ => 0))), (q7, .inr (2, [.ref q8, .ref q9, .int 0])), (q8, .inr (0, [.ref q5, .int 0, .int 0, .int 0])), (q10, .inr (0, [.ref q5, .int 0, .int 0, .int 0])), (q11, .inr (0, [.ref q5, .int 0, .int 0, .int 0])), (q12, .inr (0, [.ref q5, .int 0, .int 0, .int 0])), (q13, .inr (0, [.ref q5, .int 0, .int 0, .int 0])), (q14, .inr (0, [.null, .int 0, .int 0, .int 0]))] H := hP
  have hD : va_D A [(h0, .inr (4, [.ref q5, .ref q7, .ref q10, .ref q11, .ref q12, .ref q13, .null, .null, .null, .null, .null, .int 0, .int 0, .int 0, .int 0])), (q5, .inl (cA6, 1200, .inl (fun _ => 0))), (q7, .inr (2, [.ref q8, .ref q9, .int 0])), (q8, .inr (0, [.ref q5, .int 0, .int 0, .int 0])), (q10, .inr (0, [.ref q5, .int 0, .int 0, .int 0])), (q11, .inr (0, [.ref q5, .int 0, .int 0, .int 0])), (q12, .inr (0, [.ref q5, .int 0, .int 0, .int 0])), (q13, .inr (0, [.ref q5, .int 0, .int 0, .int 0])), (q14, .inr (0, [.null, .int 0, .int 0, .int 0]))] := hD
  refine lv_dup hx hb d_FO_init_92 rfl ?_
  refine lv_aload_n hx hb d_FO_init_93 rfl (lv_at hl 0 rfl) ?_
  refine va_get (D := (dC, dI)) (ci := 4) (v := .ref q5) (C := R_FO) (T := F_FO) (N := 15) hx hb hts in_FO hown hK hP 0 rfl rfl 0 (by decide) (hts _ (List.mem_cons_of_mem _ w_117)) (fun _ h9 => h9) rfl d_FO_init_94 ?_
  have hPc := hP.sub (ws' := [(q14, .inr (0, [.null, .int 0, .int 0, .int 0]))]) [8] rfl
  have hDc := hD.sub (ws' := [(q14, .inr (0, [.null, .int 0, .int 0, .int 0]))]) [8] (by decide) rfl
  have hKc := hK.sub (tys' := []) [] rfl
  have hFc := va_free (wc := [(q14, .inr (0, [.null, .int 0, .int 0, .int 0]))]) hD hS hA [8] rfl
  refine va_callv (va_runI (As := [.ref q5]) (rest := [.ref q14, .ref h0]) ⟨hx, hb, hml, hown, hts⟩ (c_SP_init l dC dI q14 q5 H.size) (cwI 1 hts (tw_in w_46) rfl rfl rfl (hts _ (List.mem_cons_of_mem _ w_4)) (hts _ (List.mem_cons_of_mem _ w_80)) (hts _ (List.mem_cons_of_mem _ w_45)) rfl (by decide +kernel) ⟨Nat.le_of_ble_eq_true rfl, Nat.le_of_ble_eq_true rfl⟩) ⟨fun a U g mk q => by obtain ⟨q0, q1, qP, qK, qD⟩ := q; exact ⟨q0, q1, qP, va_K.moved (u := U) (U := U.calling g mk a) (Vm.Alike.refl U.vm) qK, qD⟩, fun U hU hW => ⟨rfl, by rw [hU], by rw [hU]; exact hPc, va_K.moved hW.alike hKc, hDc.weaken (fun _ _ _ _ => trivial)⟩⟩ rfl rfl hl.1 rfl (lv_room (Nat.le_of_ble_eq_true rfl)) d_FO_init_97 ⟨Nat.le_of_ble_eq_true rfl, Nat.le_of_ble_eq_true rfl⟩) hS (fun q _ h => hFc q h) hFc (fun u t H1 locs ht hvm hw hB hz1 hk1 hS => ?_)
  obtain ⟨hP1, hK1, hD1⟩ := hB
  rw [ht] at hP1
  have hK1 := va_K.moved hvm.symm hK1
  obtain ⟨hP, hD⟩ := va_join (wr := [(h0, .inr (4, [.ref q5, .ref q7, .ref q10, .ref q11, .ref q12, .ref q13, .null, .null, .null, .null, .null, .int 0, .int 0, .int 0, .int 0])), (q5, .inl (cA6, 1200, .inl (fun _ => 0))), (q7, .inr (2, [.ref q8, .ref q9, .int 0])), (q8, .inr (0, [.ref q5, .int 0, .int 0, .int 0])), (q10, .inr (0, [.ref q5, .int 0, .int 0, .int 0])), (q11, .inr (0, [.ref q5, .int 0, .int 0, .int 0])), (q12, .inr (0, [.ref q5, .int 0, .int 0, .int 0])), (q13, .inr (0, [.ref q5, .int 0, .int 0, .int 0]))]) (w1 := [(q14, .inr (0, [.ref q5, .int 0, .int 0, .int 0]))]) hP hD [8] [0, 1, 2, 3, 4, 5, 6, 7] rfl rfl (by decide) (by decide) hk1 hFc hP1 hD1
  have hK := (hK.sub (tys' := [(cA6, .int)]) [0] rfl).app hK1
  generalize H1 = H at hP hS ⊢
  have hP : va_P (dC, dI) cls_ [(h0, .inr (4, [.ref q5, .ref q7, .ref q10, .ref q11, .ref q12, .ref q13, .null, .null, .null, .null, .null, .int 0, .int 0, .int 0, .int 0])), (q5, .inl (cA6, 1200, .inl (fun _ => 0))), (q7, .inr (2, [.ref q8, .ref q9, .int 0])), (q8, .inr (0, [.ref q5, .int 0, .int 0, .int 0])), (q10, .inr (0, [.ref q5, .int 0, .int 0, .int 0])), (q11, .inr (0, [.ref q5, .int 0, .int 0, .int 0])), (q12, .inr (0, [.ref q5, .int 0, .int 0, .int 0])), (q13, .inr (0, [.ref q5, .int 0, .int 0, .int 0])), (q14, .inr (0, [.ref q5, .int 0, .int 0, .int 0]))] H := hP
  have hD : va_D A [(h0, .inr (4, [.ref q5, .ref q7, .ref q10, .ref q11, .ref q12, .ref q13, .null, .null, .null, .null, .null, .int 0, .int 0, .int 0, .int 0])), (q5, .inl (cA6, 1200, .inl (fun _ => 0))), (q7, .inr (2, [.ref q8, .ref q9, .int 0])), (q8, .inr (0, [.ref q5, .int 0, .int 0, .int 0])), (q10, .inr (0, [.ref q5, .int 0, .int 0, .int 0])), (q11, .inr (0, [.ref q5, .int 0, .int 0, .int 0])), (q12, .inr (0, [.ref q5, .int 0, .int 0, .int 0])), (q13, .inr (0, [.ref q5, .int 0, .int 0, .int 0])), (q14, .inr (0, [.ref q5, .int 0, .int 0, .int 0]))] := hD
  have hK : va_K (dC, dI) cls_ [(cA6, .int)] s := hK
  refine va_putF (D := (dC, dI)) (ci := 4) (v := .ref q14) (ty := .object "GlyphLines$Span") (C := R_FO) (T := F_FO) (N := 15) hx hb hts in_FO t_FO t_FO_ok n_FO hown hK hP hD hS 0 rfl rfl 6 (by decide) (hts _ (List.mem_cons_of_mem _ w_123)) (fun _ h9 => h9) rfl hin rfl (by decide +kernel) rfl rfl (Nat.le_of_ble_eq_true rfl) d_FO_init_100 (fun H locs hP hD hS => ?_)
  have hP : va_P (dC, dI) cls_ [(h0, .inr (4, [.ref q5, .ref q7, .ref q10, .ref q11, .ref q12, .ref q13, .ref q14, .null, .null, .null, .null, .int 0, .int 0, .int 0, .int 0])), (q5, .inl (cA6, 1200, .inl (fun _ => 0))), (q7, .inr (2, [.ref q8, .ref q9, .int 0])), (q8, .inr (0, [.ref q5, .int 0, .int 0, .int 0])), (q10, .inr (0, [.ref q5, .int 0, .int 0, .int 0])), (q11, .inr (0, [.ref q5, .int 0, .int 0, .int 0])), (q12, .inr (0, [.ref q5, .int 0, .int 0, .int 0])), (q13, .inr (0, [.ref q5, .int 0, .int 0, .int 0])), (q14, .inr (0, [.ref q5, .int 0, .int 0, .int 0]))] H := hP
  have hD : va_D A [(h0, .inr (4, [.ref q5, .ref q7, .ref q10, .ref q11, .ref q12, .ref q13, .ref q14, .null, .null, .null, .null, .int 0, .int 0, .int 0, .int 0])), (q5, .inl (cA6, 1200, .inl (fun _ => 0))), (q7, .inr (2, [.ref q8, .ref q9, .int 0])), (q8, .inr (0, [.ref q5, .int 0, .int 0, .int 0])), (q10, .inr (0, [.ref q5, .int 0, .int 0, .int 0])), (q11, .inr (0, [.ref q5, .int 0, .int 0, .int 0])), (q12, .inr (0, [.ref q5, .int 0, .int 0, .int 0])), (q13, .inr (0, [.ref q5, .int 0, .int 0, .int 0])), (q14, .inr (0, [.ref q5, .int 0, .int 0, .int 0]))] := hD
  refine lv_aload_n hx hb d_FO_init_103 rfl (lv_at hl 0 rfl) ?_
  refine va_new (ci := 0) (fs := [.null, .int 0, .int 0, .int 0]) (C := R_SP) (T := F_SP) (N := 4) hx hb hts in_SP t_SP t_SP_ok hown (hts _ (List.mem_cons_of_mem _ w_79)) (hts _ (List.mem_cons_of_mem _ w_43)) (hts _ (List.mem_cons_of_mem _ w_4)) hK hP hD hS hA rfl (fun j hj => by rcases (show j = 0 ∨ j = 1 ∨ j = 2 ∨ j = 3 by omega) with rfl | rfl | rfl | rfl <;> rfl) (Nat.le_of_ble_eq_true rfl) (Nat.le_of_ble_eq_true rfl) d_FO_init_104 (fun q15 H hP hD hS => ?_)
  have hP : va_P (dC, dI) cls_ [(h0, .inr (4, [.ref q5, .ref q7, .ref q10, .ref q11, .ref q12, .ref q13, .ref q14, .null, .null, .null, .null, .int 0, .int 0, .int 0, .int 0])), (q5, .inl (cA6, 1200, .inl (fun _ => 0))), (q7, .inr (2, [.ref q8, .ref q9, .int 0])), (q8, .inr (0, [.ref q5, .int 0, .int 0, .int 0])), (q10, .inr (0, [.ref q5, .int 0, .int 0, .int 0])), (q11, .inr (0, [.ref q5, .int 0, .int 0, .int 0])), (q12, .inr (0, [.ref q5, .int 0, .int 0, .int 0])), (q13, .inr (0, [.ref q5, .int 0, .int 0, .int 0])), (q14, .inr (0, [.ref q5, .int 0, .int 0, .int 0])), (q15, .inr (0, [.null, .int 0, .int 0, .int 0]))] H := hP
  have hD : va_D A [(h0, .inr (4, [.ref q5, .ref q7, .ref q10, .ref q11, .ref q12, .ref q13, .ref q14, .null, .null, .null, .null, .int 0, .int 0, .int 0, .int 0])), (q5, .inl (cA6, 1200, .inl (fun _ => 0))), (q7, .inr (2, [.ref q8, .ref q9, .int 0])), (q8, .inr (0, [.ref q5, .int 0, .int 0, .int 0])), (q10, .inr (0, [.ref q5, .int 0, .int 0, .int 0])), (q11, .inr (0, [.ref q5, .int 0, .int 0, .int 0])), (q12, .inr (0, [.ref q5, .int 0, .int 0, .int 0])), (q13, .inr (0, [.ref q5, .int 0, .int 0, .int 0])), (q14, .inr (0, [.ref q5, .int 0, .int 0, .int 0])), (q15, .inr (0, [.null, .int 0, .int 0, .int 0]))] := hD
  refine lv_dup hx hb d_FO_init_107 rfl ?_
  refine lv_aload_n hx hb d_FO_init_108 rfl (lv_at hl 0 rfl) ?_
  refine va_get (D := (dC, dI)) (ci := 4) (v := .ref q5) (C := R_FO) (T := F_FO) (N := 15) hx hb hts in_FO hown hK hP 0 rfl rfl 0 (by decide) (hts _ (List.mem_cons_of_mem _ w_117)) (fun _ h9 => h9) rfl d_FO_init_109 ?_
  have hPc := hP.sub (ws' := [(q15, .inr (0, [.null, .int 0, .int 0, .int 0]))]) [9] rfl
  have hDc := hD.sub (ws' := [(q15, .inr (0, [.null, .int 0, .int 0, .int 0]))]) [9] (by decide) rfl
  have hKc := hK.sub (tys' := []) [] rfl
  have hFc := va_free (wc := [(q15, .inr (0, [.null, .int 0, .int 0, .int 0]))]) hD hS hA [9] rfl
  refine va_callv (va_runI (As := [.ref q5]) (rest := [.ref q15, .ref h0]) ⟨hx, hb, hml, hown, hts⟩ (c_SP_init l dC dI q15 q5 H.size) (cwI 1 hts (tw_in w_46) rfl rfl rfl (hts _ (List.mem_cons_of_mem _ w_4)) (hts _ (List.mem_cons_of_mem _ w_80)) (hts _ (List.mem_cons_of_mem _ w_45)) rfl (by decide +kernel) ⟨Nat.le_of_ble_eq_true rfl, Nat.le_of_ble_eq_true rfl⟩) ⟨fun a U g mk q => by obtain ⟨q0, q1, qP, qK, qD⟩ := q; exact ⟨q0, q1, qP, va_K.moved (u := U) (U := U.calling g mk a) (Vm.Alike.refl U.vm) qK, qD⟩, fun U hU hW => ⟨rfl, by rw [hU], by rw [hU]; exact hPc, va_K.moved hW.alike hKc, hDc.weaken (fun _ _ _ _ => trivial)⟩⟩ rfl rfl hl.1 rfl (lv_room (Nat.le_of_ble_eq_true rfl)) d_FO_init_112 ⟨Nat.le_of_ble_eq_true rfl, Nat.le_of_ble_eq_true rfl⟩) hS (fun q _ h => hFc q h) hFc (fun u t H1 locs ht hvm hw hB hz1 hk1 hS => ?_)
  obtain ⟨hP1, hK1, hD1⟩ := hB
  rw [ht] at hP1
  have hK1 := va_K.moved hvm.symm hK1
  obtain ⟨hP, hD⟩ := va_join (wr := [(h0, .inr (4, [.ref q5, .ref q7, .ref q10, .ref q11, .ref q12, .ref q13, .ref q14, .null, .null, .null, .null, .int 0, .int 0, .int 0, .int 0])), (q5, .inl (cA6, 1200, .inl (fun _ => 0))), (q7, .inr (2, [.ref q8, .ref q9, .int 0])), (q8, .inr (0, [.ref q5, .int 0, .int 0, .int 0])), (q10, .inr (0, [.ref q5, .int 0, .int 0, .int 0])), (q11, .inr (0, [.ref q5, .int 0, .int 0, .int 0])), (q12, .inr (0, [.ref q5, .int 0, .int 0, .int 0])), (q13, .inr (0, [.ref q5, .int 0, .int 0, .int 0])), (q14, .inr (0, [.ref q5, .int 0, .int 0, .int 0]))]) (w1 := [(q15, .inr (0, [.ref q5, .int 0, .int 0, .int 0]))]) hP hD [9] [0, 1, 2, 3, 4, 5, 6, 7, 8] rfl rfl (by decide) (by decide) hk1 hFc hP1 hD1
  have hK := (hK.sub (tys' := [(cA6, .int)]) [0] rfl).app hK1
  generalize H1 = H at hP hS ⊢
  have hP : va_P (dC, dI) cls_ [(h0, .inr (4, [.ref q5, .ref q7, .ref q10, .ref q11, .ref q12, .ref q13, .ref q14, .null, .null, .null, .null, .int 0, .int 0, .int 0, .int 0])), (q5, .inl (cA6, 1200, .inl (fun _ => 0))), (q7, .inr (2, [.ref q8, .ref q9, .int 0])), (q8, .inr (0, [.ref q5, .int 0, .int 0, .int 0])), (q10, .inr (0, [.ref q5, .int 0, .int 0, .int 0])), (q11, .inr (0, [.ref q5, .int 0, .int 0, .int 0])), (q12, .inr (0, [.ref q5, .int 0, .int 0, .int 0])), (q13, .inr (0, [.ref q5, .int 0, .int 0, .int 0])), (q14, .inr (0, [.ref q5, .int 0, .int 0, .int 0])), (q15, .inr (0, [.ref q5, .int 0, .int 0, .int 0]))] H := hP
  have hD : va_D A [(h0, .inr (4, [.ref q5, .ref q7, .ref q10, .ref q11, .ref q12, .ref q13, .ref q14, .null, .null, .null, .null, .int 0, .int 0, .int 0, .int 0])), (q5, .inl (cA6, 1200, .inl (fun _ => 0))), (q7, .inr (2, [.ref q8, .ref q9, .int 0])), (q8, .inr (0, [.ref q5, .int 0, .int 0, .int 0])), (q10, .inr (0, [.ref q5, .int 0, .int 0, .int 0])), (q11, .inr (0, [.ref q5, .int 0, .int 0, .int 0])), (q12, .inr (0, [.ref q5, .int 0, .int 0, .int 0])), (q13, .inr (0, [.ref q5, .int 0, .int 0, .int 0])), (q14, .inr (0, [.ref q5, .int 0, .int 0, .int 0])), (q15, .inr (0, [.ref q5, .int 0, .int 0, .int 0]))] := hD
  have hK : va_K (dC, dI) cls_ [(cA6, .int)] s := hK
  refine va_putF (D := (dC, dI)) (ci := 4) (v := .ref q15) (ty := .object "GlyphLines$Span") (C := R_FO) (T := F_FO) (N := 15) hx hb hts in_FO t_FO t_FO_ok n_FO hown hK hP hD hS 0 rfl rfl 7 (by decide) (hts _ (List.mem_cons_of_mem _ w_124)) (fun _ h9 => h9) rfl hin rfl (by decide +kernel) rfl rfl (Nat.le_of_ble_eq_true rfl) d_FO_init_115 (fun H locs hP hD hS => ?_)
  have hP : va_P (dC, dI) cls_ [(h0, .inr (4, [.ref q5, .ref q7, .ref q10, .ref q11, .ref q12, .ref q13, .ref q14, .ref q15, .null, .null, .null, .int 0, .int 0, .int 0, .int 0])), (q5, .inl (cA6, 1200, .inl (fun _ => 0))), (q7, .inr (2, [.ref q8, .ref q9, .int 0])), (q8, .inr (0, [.ref q5, .int 0, .int 0, .int 0])), (q10, .inr (0, [.ref q5, .int 0, .int 0, .int 0])), (q11, .inr (0, [.ref q5, .int 0, .int 0, .int 0])), (q12, .inr (0, [.ref q5, .int 0, .int 0, .int 0])), (q13, .inr (0, [.ref q5, .int 0, .int 0, .int 0])), (q14, .inr (0, [.ref q5, .int 0, .int 0, .int 0])), (q15, .inr (0, [.ref q5, .int 0, .int 0, .int 0]))] H := hP
  have hD : va_D A [(h0, .inr (4, [.ref q5, .ref q7, .ref q10, .ref q11, .ref q12, .ref q13, .ref q14, .ref q15, .null, .null, .null, .int 0, .int 0, .int 0, .int 0])), (q5, .inl (cA6, 1200, .inl (fun _ => 0))), (q7, .inr (2, [.ref q8, .ref q9, .int 0])), (q8, .inr (0, [.ref q5, .int 0, .int 0, .int 0])), (q10, .inr (0, [.ref q5, .int 0, .int 0, .int 0])), (q11, .inr (0, [.ref q5, .int 0, .int 0, .int 0])), (q12, .inr (0, [.ref q5, .int 0, .int 0, .int 0])), (q13, .inr (0, [.ref q5, .int 0, .int 0, .int 0])), (q14, .inr (0, [.ref q5, .int 0, .int 0, .int 0])), (q15, .inr (0, [.ref q5, .int 0, .int 0, .int 0]))] := hD
  refine lv_aload_n hx hb d_FO_init_118 rfl (lv_at hl 0 rfl) ?_
  refine va_new (ci := 1) (fs := [.null, .int 0, .int 0]) (C := R_CM) (T := F_CM) (N := 3) hx hb hts in_CM t_CM t_CM_ok hown (hts _ (List.mem_cons_of_mem _ w_81)) (hts _ (List.mem_cons_of_mem _ w_82)) (hts _ (List.mem_cons_of_mem _ w_5)) hK hP hD hS hA rfl (fun j hj => by rcases (show j = 0 ∨ j = 1 ∨ j = 2 by omega) with rfl | rfl | rfl <;> rfl) (Nat.le_of_ble_eq_true rfl) (Nat.le_of_ble_eq_true rfl) d_FO_init_119 (fun q16 H hP hD hS => ?_)
  have hP : va_P (dC, dI) cls_ [(h0, .inr (4, [.ref q5, .ref q7, .ref q10, .ref q11, .ref q12, .ref q13, .ref q14, .ref q15, .null, .null, .null, .int 0, .int 0, .int 0, .int 0])), (q5, .inl (cA6, 1200, .inl (fun _ => 0))), (q7, .inr (2, [.ref q8, .ref q9, .int 0])), (q8, .inr (0, [.ref q5, .int 0, .int 0, .int 0])), (q10, .inr (0, [.ref q5, .int 0, .int 0, .int 0])), (q11, .inr (0, [.ref q5, .int 0, .int 0, .int 0])), (q12, .inr (0, [.ref q5, .int 0, .int 0, .int 0])), (q13, .inr (0, [.ref q5, .int 0, .int 0, .int 0])), (q14, .inr (0, [.ref q5, .int 0, .int 0, .int 0])), (q15, .inr (0, [.ref q5, .int 0, .int 0, .int 0])), (q16, .inr (1, [.null, .int 0, .int 0]))] H := hP
  have hD : va_D A [(h0, .inr (4, [.ref q5, .ref q7, .ref q10, .ref q11, .ref q12, .ref q13, .ref q14, .ref q15, .null, .null, .null, .int 0, .int 0, .int 0, .int 0])), (q5, .inl (cA6, 1200, .inl (fun _ => 0))), (q7, .inr (2, [.ref q8, .ref q9, .int 0])), (q8, .inr (0, [.ref q5, .int 0, .int 0, .int 0])), (q10, .inr (0, [.ref q5, .int 0, .int 0, .int 0])), (q11, .inr (0, [.ref q5, .int 0, .int 0, .int 0])), (q12, .inr (0, [.ref q5, .int 0, .int 0, .int 0])), (q13, .inr (0, [.ref q5, .int 0, .int 0, .int 0])), (q14, .inr (0, [.ref q5, .int 0, .int 0, .int 0])), (q15, .inr (0, [.ref q5, .int 0, .int 0, .int 0])), (q16, .inr (1, [.null, .int 0, .int 0]))] := hD
  refine lv_dup hx hb d_FO_init_122 rfl ?_
  refine lv_aload_n hx hb d_FO_init_123 rfl (lv_at hl 0 rfl) ?_
  refine va_get (D := (dC, dI)) (ci := 4) (v := .ref q5) (C := R_FO) (T := F_FO) (N := 15) hx hb hts in_FO hown hK hP 0 rfl rfl 0 (by decide) (hts _ (List.mem_cons_of_mem _ w_117)) (fun _ h9 => h9) rfl d_FO_init_124 ?_
  have hPc := hP.sub (ws' := [(q16, .inr (1, [.null, .int 0, .int 0]))]) [10] rfl
  have hDc := hD.sub (ws' := [(q16, .inr (1, [.null, .int 0, .int 0]))]) [10] (by decide) rfl
  have hKc := hK.sub (tys' := []) [] rfl
  have hFc := va_free (wc := [(q16, .inr (1, [.null, .int 0, .int 0]))]) hD hS hA [10] rfl
  refine va_callv (va_runI (As := [.ref q5]) (rest := [.ref q16, .ref h0]) ⟨hx, hb, hml, hown, hts⟩ (c_CM_init l dC dI q16 q5 H.size) (cwI 1 hts (tw_in w_85) rfl rfl rfl (hts _ (List.mem_cons_of_mem _ w_5)) (hts _ (List.mem_cons_of_mem _ w_83)) (hts _ (List.mem_cons_of_mem _ w_84)) rfl (by decide +kernel) ⟨Nat.le_of_ble_eq_true rfl, Nat.le_of_ble_eq_true rfl⟩) ⟨fun a U g mk q => by obtain ⟨q0, q1, qP, qK, qD⟩ := q; exact ⟨q0, q1, qP, va_K.moved (u := U) (U := U.calling g mk a) (Vm.Alike.refl U.vm) qK, qD⟩, fun U hU hW => ⟨rfl, by rw [hU], by rw [hU]; exact hPc, va_K.moved hW.alike hKc, hDc.weaken (fun _ _ _ _ => trivial)⟩⟩ rfl rfl hl.1 rfl (lv_room (Nat.le_of_ble_eq_true rfl)) d_FO_init_127 ⟨Nat.le_of_ble_eq_true rfl, Nat.le_of_ble_eq_true rfl⟩) hS (fun q _ h => hFc q h) hFc (fun u t H1 locs ht hvm hw hB hz1 hk1 hS => ?_)
  have hP1 : va_P (dC, dI) cls_ [] H1 := fun k q h => by simp at h
  have hD1 : va_D (va_A [(q16, .inr (1, [.null, .int 0, .int 0]))] H.size) [] := ⟨fun i j p q h => by simp at h, fun k q h => by simp at h⟩
  obtain ⟨hP, hD⟩ := va_join (wr := [(h0, .inr (4, [.ref q5, .ref q7, .ref q10, .ref q11, .ref q12, .ref q13, .ref q14, .ref q15, .null, .null, .null, .int 0, .int 0, .int 0, .int 0])), (q5, .inl (cA6, 1200, .inl (fun _ => 0))), (q7, .inr (2, [.ref q8, .ref q9, .int 0])), (q8, .inr (0, [.ref q5, .int 0, .int 0, .int 0])), (q10, .inr (0, [.ref q5, .int 0, .int 0, .int 0])), (q11, .inr (0, [.ref q5, .int 0, .int 0, .int 0])), (q12, .inr (0, [.ref q5, .int 0, .int 0, .int 0])), (q13, .inr (0, [.ref q5, .int 0, .int 0, .int 0])), (q14, .inr (0, [.ref q5, .int 0, .int 0, .int 0])), (q15, .inr (0, [.ref q5, .int 0, .int 0, .int 0]))]) (w1 := []) hP hD [10] [0, 1, 2, 3, 4, 5, 6, 7, 8, 9] rfl rfl (by decide) (by decide) hk1 hFc hP1 hD1
  generalize H1 = H at hP hS ⊢
  have hP : va_P (dC, dI) cls_ [(h0, .inr (4, [.ref q5, .ref q7, .ref q10, .ref q11, .ref q12, .ref q13, .ref q14, .ref q15, .null, .null, .null, .int 0, .int 0, .int 0, .int 0])), (q5, .inl (cA6, 1200, .inl (fun _ => 0))), (q7, .inr (2, [.ref q8, .ref q9, .int 0])), (q8, .inr (0, [.ref q5, .int 0, .int 0, .int 0])), (q10, .inr (0, [.ref q5, .int 0, .int 0, .int 0])), (q11, .inr (0, [.ref q5, .int 0, .int 0, .int 0])), (q12, .inr (0, [.ref q5, .int 0, .int 0, .int 0])), (q13, .inr (0, [.ref q5, .int 0, .int 0, .int 0])), (q14, .inr (0, [.ref q5, .int 0, .int 0, .int 0])), (q15, .inr (0, [.ref q5, .int 0, .int 0, .int 0]))] H := hP
  have hD : va_D A [(h0, .inr (4, [.ref q5, .ref q7, .ref q10, .ref q11, .ref q12, .ref q13, .ref q14, .ref q15, .null, .null, .null, .int 0, .int 0, .int 0, .int 0])), (q5, .inl (cA6, 1200, .inl (fun _ => 0))), (q7, .inr (2, [.ref q8, .ref q9, .int 0])), (q8, .inr (0, [.ref q5, .int 0, .int 0, .int 0])), (q10, .inr (0, [.ref q5, .int 0, .int 0, .int 0])), (q11, .inr (0, [.ref q5, .int 0, .int 0, .int 0])), (q12, .inr (0, [.ref q5, .int 0, .int 0, .int 0])), (q13, .inr (0, [.ref q5, .int 0, .int 0, .int 0])), (q14, .inr (0, [.ref q5, .int 0, .int 0, .int 0])), (q15, .inr (0, [.ref q5, .int 0, .int 0, .int 0]))] := hD
  refine va_putF (D := (dC, dI)) (ci := 4) (v := .ref q16) (ty := .object "GlyphLines$CharacterMap") (C := R_FO) (T := F_FO) (N := 15) hx hb hts in_FO t_FO t_FO_ok n_FO hown hK hP hD hS 0 rfl rfl 8 (by decide) (hts _ (List.mem_cons_of_mem _ w_125)) (fun _ h9 => h9) rfl hin rfl (by decide +kernel) rfl rfl (Nat.le_of_ble_eq_true rfl) d_FO_init_130 (fun H locs hP hD hS => ?_)
  have hP : va_P (dC, dI) cls_ [(h0, .inr (4, [.ref q5, .ref q7, .ref q10, .ref q11, .ref q12, .ref q13, .ref q14, .ref q15, .ref q16, .null, .null, .int 0, .int 0, .int 0, .int 0])), (q5, .inl (cA6, 1200, .inl (fun _ => 0))), (q7, .inr (2, [.ref q8, .ref q9, .int 0])), (q8, .inr (0, [.ref q5, .int 0, .int 0, .int 0])), (q10, .inr (0, [.ref q5, .int 0, .int 0, .int 0])), (q11, .inr (0, [.ref q5, .int 0, .int 0, .int 0])), (q12, .inr (0, [.ref q5, .int 0, .int 0, .int 0])), (q13, .inr (0, [.ref q5, .int 0, .int 0, .int 0])), (q14, .inr (0, [.ref q5, .int 0, .int 0, .int 0])), (q15, .inr (0, [.ref q5, .int 0, .int 0, .int 0]))] H := hP
  have hD : va_D A [(h0, .inr (4, [.ref q5, .ref q7, .ref q10, .ref q11, .ref q12, .ref q13, .ref q14, .ref q15, .ref q16, .null, .null, .int 0, .int 0, .int 0, .int 0])), (q5, .inl (cA6, 1200, .inl (fun _ => 0))), (q7, .inr (2, [.ref q8, .ref q9, .int 0])), (q8, .inr (0, [.ref q5, .int 0, .int 0, .int 0])), (q10, .inr (0, [.ref q5, .int 0, .int 0, .int 0])), (q11, .inr (0, [.ref q5, .int 0, .int 0, .int 0])), (q12, .inr (0, [.ref q5, .int 0, .int 0, .int 0])), (q13, .inr (0, [.ref q5, .int 0, .int 0, .int 0])), (q14, .inr (0, [.ref q5, .int 0, .int 0, .int 0])), (q15, .inr (0, [.ref q5, .int 0, .int 0, .int 0]))] := hD
  refine lv_aload_n hx hb d_FO_init_133 rfl (lv_at hl 0 rfl) ?_
  refine va_new (ci := 3) (fs := [.null, .int 0]) (C := R_PA) (T := F_PA) (N := 2) hx hb hts in_PA t_PA t_PA_ok hown (hts _ (List.mem_cons_of_mem _ w_100)) (hts _ (List.mem_cons_of_mem _ w_101)) (hts _ (List.mem_cons_of_mem _ w_6)) hK hP hD hS hA rfl (fun j hj => by rcases (show j = 0 ∨ j = 1 by omega) with rfl | rfl <;> rfl) (Nat.le_of_ble_eq_true rfl) (Nat.le_of_ble_eq_true rfl) d_FO_init_134 (fun q17 H hP hD hS => ?_)
  have hP : va_P (dC, dI) cls_ [(h0, .inr (4, [.ref q5, .ref q7, .ref q10, .ref q11, .ref q12, .ref q13, .ref q14, .ref q15, .ref q16, .null, .null, .int 0, .int 0, .int 0, .int 0])), (q5, .inl (cA6, 1200, .inl (fun _ => 0))), (q7, .inr (2, [.ref q8, .ref q9, .int 0])), (q8, .inr (0, [.ref q5, .int 0, .int 0, .int 0])), (q10, .inr (0, [.ref q5, .int 0, .int 0, .int 0])), (q11, .inr (0, [.ref q5, .int 0, .int 0, .int 0])), (q12, .inr (0, [.ref q5, .int 0, .int 0, .int 0])), (q13, .inr (0, [.ref q5, .int 0, .int 0, .int 0])), (q14, .inr (0, [.ref q5, .int 0, .int 0, .int 0])), (q15, .inr (0, [.ref q5, .int 0, .int 0, .int 0])), (q17, .inr (3, [.null, .int 0]))] H := hP
  have hD : va_D A [(h0, .inr (4, [.ref q5, .ref q7, .ref q10, .ref q11, .ref q12, .ref q13, .ref q14, .ref q15, .ref q16, .null, .null, .int 0, .int 0, .int 0, .int 0])), (q5, .inl (cA6, 1200, .inl (fun _ => 0))), (q7, .inr (2, [.ref q8, .ref q9, .int 0])), (q8, .inr (0, [.ref q5, .int 0, .int 0, .int 0])), (q10, .inr (0, [.ref q5, .int 0, .int 0, .int 0])), (q11, .inr (0, [.ref q5, .int 0, .int 0, .int 0])), (q12, .inr (0, [.ref q5, .int 0, .int 0, .int 0])), (q13, .inr (0, [.ref q5, .int 0, .int 0, .int 0])), (q14, .inr (0, [.ref q5, .int 0, .int 0, .int 0])), (q15, .inr (0, [.ref q5, .int 0, .int 0, .int 0])), (q17, .inr (3, [.null, .int 0]))] := hD
  refine lv_dup hx hb d_FO_init_137 rfl ?_
  refine lv_aload_n hx hb d_FO_init_138 rfl (lv_at hl 0 rfl) ?_
  refine va_get (D := (dC, dI)) (ci := 4) (v := .ref q5) (C := R_FO) (T := F_FO) (N := 15) hx hb hts in_FO hown hK hP 0 rfl rfl 0 (by decide) (hts _ (List.mem_cons_of_mem _ w_117)) (fun _ h9 => h9) rfl d_FO_init_139 ?_
  have hPc := hP.sub (ws' := [(q17, .inr (3, [.null, .int 0]))]) [10] rfl
  have hDc := hD.sub (ws' := [(q17, .inr (3, [.null, .int 0]))]) [10] (by decide) rfl
  have hKc := hK.sub (tys' := []) [] rfl
  have hFc := va_free (wc := [(q17, .inr (3, [.null, .int 0]))]) hD hS hA [10] rfl
  refine va_callv (va_runI (As := [.ref q5]) (rest := [.ref q17, .ref h0]) ⟨hx, hb, hml, hown, hts⟩ (c_PA_init l dC dI q17 q5 H.size) (cwI 1 hts (tw_in w_104) rfl rfl rfl (hts _ (List.mem_cons_of_mem _ w_6)) (hts _ (List.mem_cons_of_mem _ w_102)) (hts _ (List.mem_cons_of_mem _ w_103)) rfl (by decide +kernel) ⟨Nat.le_of_ble_eq_true rfl, Nat.le_of_ble_eq_true rfl⟩) ⟨fun a U g mk q => by obtain ⟨q0, q1, qP, qK, qD⟩ := q; exact ⟨q0, q1, qP, va_K.moved (u := U) (U := U.calling g mk a) (Vm.Alike.refl U.vm) qK, qD⟩, fun U hU hW => ⟨rfl, by rw [hU], by rw [hU]; exact hPc, va_K.moved hW.alike hKc, hDc.weaken (fun _ _ _ _ => trivial)⟩⟩ rfl rfl hl.1 rfl (lv_room (Nat.le_of_ble_eq_true rfl)) d_FO_init_142 ⟨Nat.le_of_ble_eq_true rfl, Nat.le_of_ble_eq_true rfl⟩) hS (fun q _ h => hFc q h) hFc (fun u t H1 locs ht hvm hw hB hz1 hk1 hS => ?_)
  have hP1 : va_P (dC, dI) cls_ [] H1 := fun k q h => by simp at h
  have hD1 : va_D (va_A [(q17, .inr (3, [.null, .int 0]))] H.size) [] := ⟨fun i j p q h => by simp at h, fun k q h => by simp at h⟩
  obtain ⟨hP, hD⟩ := va_join (wr := [(h0, .inr (4, [.ref q5, .ref q7, .ref q10, .ref q11, .ref q12, .ref q13, .ref q14, .ref q15, .ref q16, .null, .null, .int 0, .int 0, .int 0, .int 0])), (q5, .inl (cA6, 1200, .inl (fun _ => 0))), (q7, .inr (2, [.ref q8, .ref q9, .int 0])), (q8, .inr (0, [.ref q5, .int 0, .int 0, .int 0])), (q10, .inr (0, [.ref q5, .int 0, .int 0, .int 0])), (q11, .inr (0, [.ref q5, .int 0, .int 0, .int 0])), (q12, .inr (0, [.ref q5, .int 0, .int 0, .int 0])), (q13, .inr (0, [.ref q5, .int 0, .int 0, .int 0])), (q14, .inr (0, [.ref q5, .int 0, .int 0, .int 0])), (q15, .inr (0, [.ref q5, .int 0, .int 0, .int 0]))]) (w1 := []) hP hD [10] [0, 1, 2, 3, 4, 5, 6, 7, 8, 9] rfl rfl (by decide) (by decide) hk1 hFc hP1 hD1
  generalize H1 = H at hP hS ⊢
  have hP : va_P (dC, dI) cls_ [(h0, .inr (4, [.ref q5, .ref q7, .ref q10, .ref q11, .ref q12, .ref q13, .ref q14, .ref q15, .ref q16, .null, .null, .int 0, .int 0, .int 0, .int 0])), (q5, .inl (cA6, 1200, .inl (fun _ => 0))), (q7, .inr (2, [.ref q8, .ref q9, .int 0])), (q8, .inr (0, [.ref q5, .int 0, .int 0, .int 0])), (q10, .inr (0, [.ref q5, .int 0, .int 0, .int 0])), (q11, .inr (0, [.ref q5, .int 0, .int 0, .int 0])), (q12, .inr (0, [.ref q5, .int 0, .int 0, .int 0])), (q13, .inr (0, [.ref q5, .int 0, .int 0, .int 0])), (q14, .inr (0, [.ref q5, .int 0, .int 0, .int 0])), (q15, .inr (0, [.ref q5, .int 0, .int 0, .int 0]))] H := hP
  have hD : va_D A [(h0, .inr (4, [.ref q5, .ref q7, .ref q10, .ref q11, .ref q12, .ref q13, .ref q14, .ref q15, .ref q16, .null, .null, .int 0, .int 0, .int 0, .int 0])), (q5, .inl (cA6, 1200, .inl (fun _ => 0))), (q7, .inr (2, [.ref q8, .ref q9, .int 0])), (q8, .inr (0, [.ref q5, .int 0, .int 0, .int 0])), (q10, .inr (0, [.ref q5, .int 0, .int 0, .int 0])), (q11, .inr (0, [.ref q5, .int 0, .int 0, .int 0])), (q12, .inr (0, [.ref q5, .int 0, .int 0, .int 0])), (q13, .inr (0, [.ref q5, .int 0, .int 0, .int 0])), (q14, .inr (0, [.ref q5, .int 0, .int 0, .int 0])), (q15, .inr (0, [.ref q5, .int 0, .int 0, .int 0]))] := hD
  refine va_putF (D := (dC, dI)) (ci := 4) (v := .ref q17) (ty := .object "GlyphLines$Pairs") (C := R_FO) (T := F_FO) (N := 15) hx hb hts in_FO t_FO t_FO_ok n_FO hown hK hP hD hS 0 rfl rfl 9 (by decide) (hts _ (List.mem_cons_of_mem _ w_126)) (fun _ h9 => h9) rfl hin rfl (by decide +kernel) rfl rfl (Nat.le_of_ble_eq_true rfl) d_FO_init_145 (fun H locs hP hD hS => ?_)
  have hP : va_P (dC, dI) cls_ [(h0, .inr (4, [.ref q5, .ref q7, .ref q10, .ref q11, .ref q12, .ref q13, .ref q14, .ref q15, .ref q16, .ref q17, .null, .int 0, .int 0, .int 0, .int 0])), (q5, .inl (cA6, 1200, .inl (fun _ => 0))), (q7, .inr (2, [.ref q8, .ref q9, .int 0])), (q8, .inr (0, [.ref q5, .int 0, .int 0, .int 0])), (q10, .inr (0, [.ref q5, .int 0, .int 0, .int 0])), (q11, .inr (0, [.ref q5, .int 0, .int 0, .int 0])), (q12, .inr (0, [.ref q5, .int 0, .int 0, .int 0])), (q13, .inr (0, [.ref q5, .int 0, .int 0, .int 0])), (q14, .inr (0, [.ref q5, .int 0, .int 0, .int 0])), (q15, .inr (0, [.ref q5, .int 0, .int 0, .int 0]))] H := hP
  have hD : va_D A [(h0, .inr (4, [.ref q5, .ref q7, .ref q10, .ref q11, .ref q12, .ref q13, .ref q14, .ref q15, .ref q16, .ref q17, .null, .int 0, .int 0, .int 0, .int 0])), (q5, .inl (cA6, 1200, .inl (fun _ => 0))), (q7, .inr (2, [.ref q8, .ref q9, .int 0])), (q8, .inr (0, [.ref q5, .int 0, .int 0, .int 0])), (q10, .inr (0, [.ref q5, .int 0, .int 0, .int 0])), (q11, .inr (0, [.ref q5, .int 0, .int 0, .int 0])), (q12, .inr (0, [.ref q5, .int 0, .int 0, .int 0])), (q13, .inr (0, [.ref q5, .int 0, .int 0, .int 0])), (q14, .inr (0, [.ref q5, .int 0, .int 0, .int 0])), (q15, .inr (0, [.ref q5, .int 0, .int 0, .int 0]))] := hD
  refine lv_aload_n hx hb d_FO_init_148 rfl (lv_at hl 0 rfl) ?_
  refine lv_iconst (v := 3) hx hb d_FO_init_149 (by decide) ?_
  refine va_newq (N' := 3) (C := "GlyphLines$Span") hx hb hown (hts _ (List.mem_cons_of_mem _ w_79)) hO hK hP hD hS hA (by decide +kernel) (by decide +kernel) (by decide +kernel) (Nat.le_of_ble_eq_true rfl) (Nat.le_of_ble_eq_true rfl) d_FO_init_150 (fun q18 cA19 H hK hP hD hS => ?_)
  have hP : va_P (dC, dI) cls_ [(h0, .inr (4, [.ref q5, .ref q7, .ref q10, .ref q11, .ref q12, .ref q13, .ref q14, .ref q15, .ref q16, .ref q17, .null, .int 0, .int 0, .int 0, .int 0])), (q5, .inl (cA6, 1200, .inl (fun _ => 0))), (q7, .inr (2, [.ref q8, .ref q9, .int 0])), (q8, .inr (0, [.ref q5, .int 0, .int 0, .int 0])), (q10, .inr (0, [.ref q5, .int 0, .int 0, .int 0])), (q11, .inr (0, [.ref q5, .int 0, .int 0, .int 0])), (q12, .inr (0, [.ref q5, .int 0, .int 0, .int 0])), (q13, .inr (0, [.ref q5, .int 0, .int 0, .int 0])), (q14, .inr (0, [.ref q5, .int 0, .int 0, .int 0])), (q15, .inr (0, [.ref q5, .int 0, .int 0, .int 0])), (q18, .inl (cA19, 3, .inr (.inr (.inr (.inr (fun _ => none))))))] H := hP
  have hD : va_D A [(h0, .inr (4, [.ref q5, .ref q7, .ref q10, .ref q11, .ref q12, .ref q13, .ref q14, .ref q15, .ref q16, .ref q17, .null, .int 0, .int 0, .int 0, .int 0])), (q5, .inl (cA6, 1200, .inl (fun _ => 0))), (q7, .inr (2, [.ref q8, .ref q9, .int 0])), (q8, .inr (0, [.ref q5, .int 0, .int 0, .int 0])), (q10, .inr (0, [.ref q5, .int 0, .int 0, .int 0])), (q11, .inr (0, [.ref q5, .int 0, .int 0, .int 0])), (q12, .inr (0, [.ref q5, .int 0, .int 0, .int 0])), (q13, .inr (0, [.ref q5, .int 0, .int 0, .int 0])), (q14, .inr (0, [.ref q5, .int 0, .int 0, .int 0])), (q15, .inr (0, [.ref q5, .int 0, .int 0, .int 0])), (q18, .inl (cA19, 3, .inr (.inr (.inr (.inr (fun _ => none))))))] := hD
  have hK : va_K (dC, dI) cls_ [(cA6, .int), (cA19, .object "GlyphLines$Span")] s := hK
  refine lv_dup hx hb d_FO_init_153 rfl ?_
  refine lv_iconst (v := 0) hx hb d_FO_init_154 (by decide) ?_
  refine va_new (ci := 0) (fs := [.null, .int 0, .int 0, .int 0]) (C := R_SP) (T := F_SP) (N := 4) hx hb hts in_SP t_SP t_SP_ok hown (hts _ (List.mem_cons_of_mem _ w_79)) (hts _ (List.mem_cons_of_mem _ w_43)) (hts _ (List.mem_cons_of_mem _ w_4)) hK hP hD hS hA rfl (fun j hj => by rcases (show j = 0 ∨ j = 1 ∨ j = 2 ∨ j = 3 by omega) with rfl | rfl | rfl | rfl <;> rfl) (Nat.le_of_ble_eq_true rfl) (Nat.le_of_ble_eq_true rfl) d_FO_init_155 (fun q20 H hP hD hS => ?_)
  have hP : va_P (dC, dI) cls_ [(h0, .inr (4, [.ref q5, .ref q7, .ref q10, .ref q11, .ref q12, .ref q13, .ref q14, .ref q15, .ref q16, .ref q17, .null, .int 0, .int 0, .int 0, .int 0])), (q5, .inl (cA6, 1200, .inl (fun _ => 0))), (q7, .inr (2, [.ref q8, .ref q9, .int 0])), (q8, .inr (0, [.ref q5, .int 0, .int 0, .int 0])), (q10, .inr (0, [.ref q5, .int 0, .int 0, .int 0])), (q11, .inr (0, [.ref q5, .int 0, .int 0, .int 0])), (q12, .inr (0, [.ref q5, .int 0, .int 0, .int 0])), (q13, .inr (0, [.ref q5, .int 0, .int 0, .int 0])), (q14, .inr (0, [.ref q5, .int 0, .int 0, .int 0])), (q15, .inr (0, [.ref q5, .int 0, .int 0, .int 0])), (q18, .inl (cA19, 3, .inr (.inr (.inr (.inr (fun _ => none)))))), (q20, .inr (0, [.null, .int 0, .int 0, .int 0]))] H := hP
  have hD : va_D A [(h0, .inr (4, [.ref q5, .ref q7, .ref q10, .ref q11, .ref q12, .ref q13, .ref q14, .ref q15, .ref q16, .ref q17, .null, .int 0, .int 0, .int 0, .int 0])), (q5, .inl (cA6, 1200, .inl (fun _ => 0))), (q7, .inr (2, [.ref q8, .ref q9, .int 0])), (q8, .inr (0, [.ref q5, .int 0, .int 0, .int 0])), (q10, .inr (0, [.ref q5, .int 0, .int 0, .int 0])), (q11, .inr (0, [.ref q5, .int 0, .int 0, .int 0])), (q12, .inr (0, [.ref q5, .int 0, .int 0, .int 0])), (q13, .inr (0, [.ref q5, .int 0, .int 0, .int 0])), (q14, .inr (0, [.ref q5, .int 0, .int 0, .int 0])), (q15, .inr (0, [.ref q5, .int 0, .int 0, .int 0])), (q18, .inl (cA19, 3, .inr (.inr (.inr (.inr (fun _ => none)))))), (q20, .inr (0, [.null, .int 0, .int 0, .int 0]))] := hD
  refine lv_dup hx hb d_FO_init_158 rfl ?_
  refine lv_aload_n hx hb d_FO_init_159 rfl (lv_at hl 0 rfl) ?_
  refine va_get (D := (dC, dI)) (ci := 4) (v := .ref q5) (C := R_FO) (T := F_FO) (N := 15) hx hb hts in_FO hown hK hP 0 rfl rfl 0 (by decide) (hts _ (List.mem_cons_of_mem _ w_117)) (fun _ h9 => h9) rfl d_FO_init_160 ?_
  have hPc := hP.sub (ws' := [(q20, .inr (0, [.null, .int 0, .int 0, .int 0]))]) [11] rfl
  have hDc := hD.sub (ws' := [(q20, .inr (0, [.null, .int 0, .int 0, .int 0]))]) [11] (by decide) rfl
  have hKc := hK.sub (tys' := []) [] rfl
  have hFc := va_free (wc := [(q20, .inr (0, [.null, .int 0, .int 0, .int 0]))]) hD hS hA [11] rfl
  refine va_callv (va_runI (As := [.ref q5]) (rest := [.ref q20, .int 0, .ref q18, .ref q18, .ref h0]) ⟨hx, hb, hml, hown, hts⟩ (c_SP_init l dC dI q20 q5 H.size) (cwI 1 hts (tw_in w_46) rfl rfl rfl (hts _ (List.mem_cons_of_mem _ w_4)) (hts _ (List.mem_cons_of_mem _ w_80)) (hts _ (List.mem_cons_of_mem _ w_45)) rfl (by decide +kernel) ⟨Nat.le_of_ble_eq_true rfl, Nat.le_of_ble_eq_true rfl⟩) ⟨fun a U g mk q => by obtain ⟨q0, q1, qP, qK, qD⟩ := q; exact ⟨q0, q1, qP, va_K.moved (u := U) (U := U.calling g mk a) (Vm.Alike.refl U.vm) qK, qD⟩, fun U hU hW => ⟨rfl, by rw [hU], by rw [hU]; exact hPc, va_K.moved hW.alike hKc, hDc.weaken (fun _ _ _ _ => trivial)⟩⟩ rfl rfl hl.1 rfl (lv_room (Nat.le_of_ble_eq_true rfl)) d_FO_init_163 ⟨Nat.le_of_ble_eq_true rfl, Nat.le_of_ble_eq_true rfl⟩) hS (fun q _ h => hFc q h) hFc (fun u t H1 locs ht hvm hw hB hz1 hk1 hS => ?_)
  obtain ⟨hP1, hK1, hD1⟩ := hB
  rw [ht] at hP1
  have hK1 := va_K.moved hvm.symm hK1
  obtain ⟨hP, hD⟩ := va_join (wr := [(h0, .inr (4, [.ref q5, .ref q7, .ref q10, .ref q11, .ref q12, .ref q13, .ref q14, .ref q15, .ref q16, .ref q17, .null, .int 0, .int 0, .int 0, .int 0])), (q5, .inl (cA6, 1200, .inl (fun _ => 0))), (q7, .inr (2, [.ref q8, .ref q9, .int 0])), (q8, .inr (0, [.ref q5, .int 0, .int 0, .int 0])), (q10, .inr (0, [.ref q5, .int 0, .int 0, .int 0])), (q11, .inr (0, [.ref q5, .int 0, .int 0, .int 0])), (q12, .inr (0, [.ref q5, .int 0, .int 0, .int 0])), (q13, .inr (0, [.ref q5, .int 0, .int 0, .int 0])), (q14, .inr (0, [.ref q5, .int 0, .int 0, .int 0])), (q15, .inr (0, [.ref q5, .int 0, .int 0, .int 0])), (q18, .inl (cA19, 3, .inr (.inr (.inr (.inr (fun _ => none))))))]) (w1 := [(q20, .inr (0, [.ref q5, .int 0, .int 0, .int 0]))]) hP hD [11] [0, 1, 2, 3, 4, 5, 6, 7, 8, 9, 10] rfl rfl (by decide) (by decide) hk1 hFc hP1 hD1
  have hK := (hK.sub (tys' := [(cA6, .int), (cA19, .object "GlyphLines$Span")]) [0, 1] rfl).app hK1
  generalize H1 = H at hP hS ⊢
  have hP : va_P (dC, dI) cls_ [(h0, .inr (4, [.ref q5, .ref q7, .ref q10, .ref q11, .ref q12, .ref q13, .ref q14, .ref q15, .ref q16, .ref q17, .null, .int 0, .int 0, .int 0, .int 0])), (q5, .inl (cA6, 1200, .inl (fun _ => 0))), (q7, .inr (2, [.ref q8, .ref q9, .int 0])), (q8, .inr (0, [.ref q5, .int 0, .int 0, .int 0])), (q10, .inr (0, [.ref q5, .int 0, .int 0, .int 0])), (q11, .inr (0, [.ref q5, .int 0, .int 0, .int 0])), (q12, .inr (0, [.ref q5, .int 0, .int 0, .int 0])), (q13, .inr (0, [.ref q5, .int 0, .int 0, .int 0])), (q14, .inr (0, [.ref q5, .int 0, .int 0, .int 0])), (q15, .inr (0, [.ref q5, .int 0, .int 0, .int 0])), (q18, .inl (cA19, 3, .inr (.inr (.inr (.inr (fun _ => none)))))), (q20, .inr (0, [.ref q5, .int 0, .int 0, .int 0]))] H := hP
  have hD : va_D A [(h0, .inr (4, [.ref q5, .ref q7, .ref q10, .ref q11, .ref q12, .ref q13, .ref q14, .ref q15, .ref q16, .ref q17, .null, .int 0, .int 0, .int 0, .int 0])), (q5, .inl (cA6, 1200, .inl (fun _ => 0))), (q7, .inr (2, [.ref q8, .ref q9, .int 0])), (q8, .inr (0, [.ref q5, .int 0, .int 0, .int 0])), (q10, .inr (0, [.ref q5, .int 0, .int 0, .int 0])), (q11, .inr (0, [.ref q5, .int 0, .int 0, .int 0])), (q12, .inr (0, [.ref q5, .int 0, .int 0, .int 0])), (q13, .inr (0, [.ref q5, .int 0, .int 0, .int 0])), (q14, .inr (0, [.ref q5, .int 0, .int 0, .int 0])), (q15, .inr (0, [.ref q5, .int 0, .int 0, .int 0])), (q18, .inl (cA19, 3, .inr (.inr (.inr (.inr (fun _ => none)))))), (q20, .inr (0, [.ref q5, .int 0, .int 0, .int 0]))] := hD
  have hK : va_K (dC, dI) cls_ [(cA6, .int), (cA19, .object "GlyphLines$Span")] s := hK
  refine va_astq hx hb hK hP hD hS 10 1 11 0 rfl rfl rfl rfl (pk_in 0 3 (by decide) (by decide +kernel) (by decide)) d_FO_init_166 (fun H locs hP hD hS => ?_)
  have hP : va_P (dC, dI) cls_ [(h0, .inr (4, [.ref q5, .ref q7, .ref q10, .ref q11, .ref q12, .ref q13, .ref q14, .ref q15, .ref q16, .ref q17, .null, .int 0, .int 0, .int 0, .int 0])), (q5, .inl (cA6, 1200, .inl (fun _ => 0))), (q7, .inr (2, [.ref q8, .ref q9, .int 0])), (q8, .inr (0, [.ref q5, .int 0, .int 0, .int 0])), (q10, .inr (0, [.ref q5, .int 0, .int 0, .int 0])), (q11, .inr (0, [.ref q5, .int 0, .int 0, .int 0])), (q12, .inr (0, [.ref q5, .int 0, .int 0, .int 0])), (q13, .inr (0, [.ref q5, .int 0, .int 0, .int 0])), (q14, .inr (0, [.ref q5, .int 0, .int 0, .int 0])), (q15, .inr (0, [.ref q5, .int 0, .int 0, .int 0])), (q18, .inl (cA19, 3, .inr (.inr (.inr (.inr (va_up (fun _ => none) (Int32.toNatClampNeg 0) (some q20))))))), (q20, .inr (0, [.ref q5, .int 0, .int 0, .int 0]))] H := hP
  have hD : va_D A [(h0, .inr (4, [.ref q5, .ref q7, .ref q10, .ref q11, .ref q12, .ref q13, .ref q14, .ref q15, .ref q16, .ref q17, .null, .int 0, .int 0, .int 0, .int 0])), (q5, .inl (cA6, 1200, .inl (fun _ => 0))), (q7, .inr (2, [.ref q8, .ref q9, .int 0])), (q8, .inr (0, [.ref q5, .int 0, .int 0, .int 0])), (q10, .inr (0, [.ref q5, .int 0, .int 0, .int 0])), (q11, .inr (0, [.ref q5, .int 0, .int 0, .int 0])), (q12, .inr (0, [.ref q5, .int 0, .int 0, .int 0])), (q13, .inr (0, [.ref q5, .int 0, .int 0, .int 0])), (q14, .inr (0, [.ref q5, .int 0, .int 0, .int 0])), (q15, .inr (0, [.ref q5, .int 0, .int 0, .int 0])), (q18, .inl (cA19, 3, .inr (.inr (.inr (.inr (va_up (fun _ => none) (Int32.toNatClampNeg 0) (some q20))))))), (q20, .inr (0, [.ref q5, .int 0, .int 0, .int 0]))] := hD
  refine lv_dup hx hb d_FO_init_167 rfl ?_
  refine lv_iconst (v := 1) hx hb d_FO_init_168 (by decide) ?_
  refine va_new (ci := 0) (fs := [.null, .int 0, .int 0, .int 0]) (C := R_SP) (T := F_SP) (N := 4) hx hb hts in_SP t_SP t_SP_ok hown (hts _ (List.mem_cons_of_mem _ w_79)) (hts _ (List.mem_cons_of_mem _ w_43)) (hts _ (List.mem_cons_of_mem _ w_4)) hK hP hD hS hA rfl (fun j hj => by rcases (show j = 0 ∨ j = 1 ∨ j = 2 ∨ j = 3 by omega) with rfl | rfl | rfl | rfl <;> rfl) (Nat.le_of_ble_eq_true rfl) (Nat.le_of_ble_eq_true rfl) d_FO_init_169 (fun q21 H hP hD hS => ?_)
  have hP : va_P (dC, dI) cls_ [(h0, .inr (4, [.ref q5, .ref q7, .ref q10, .ref q11, .ref q12, .ref q13, .ref q14, .ref q15, .ref q16, .ref q17, .null, .int 0, .int 0, .int 0, .int 0])), (q5, .inl (cA6, 1200, .inl (fun _ => 0))), (q7, .inr (2, [.ref q8, .ref q9, .int 0])), (q8, .inr (0, [.ref q5, .int 0, .int 0, .int 0])), (q10, .inr (0, [.ref q5, .int 0, .int 0, .int 0])), (q11, .inr (0, [.ref q5, .int 0, .int 0, .int 0])), (q12, .inr (0, [.ref q5, .int 0, .int 0, .int 0])), (q13, .inr (0, [.ref q5, .int 0, .int 0, .int 0])), (q14, .inr (0, [.ref q5, .int 0, .int 0, .int 0])), (q15, .inr (0, [.ref q5, .int 0, .int 0, .int 0])), (q18, .inl (cA19, 3, .inr (.inr (.inr (.inr (va_up (fun _ => none) (Int32.toNatClampNeg 0) (some q20))))))), (q20, .inr (0, [.ref q5, .int 0, .int 0, .int 0])), (q21, .inr (0, [.null, .int 0, .int 0, .int 0]))] H := hP
  have hD : va_D A [(h0, .inr (4, [.ref q5, .ref q7, .ref q10, .ref q11, .ref q12, .ref q13, .ref q14, .ref q15, .ref q16, .ref q17, .null, .int 0, .int 0, .int 0, .int 0])), (q5, .inl (cA6, 1200, .inl (fun _ => 0))), (q7, .inr (2, [.ref q8, .ref q9, .int 0])), (q8, .inr (0, [.ref q5, .int 0, .int 0, .int 0])), (q10, .inr (0, [.ref q5, .int 0, .int 0, .int 0])), (q11, .inr (0, [.ref q5, .int 0, .int 0, .int 0])), (q12, .inr (0, [.ref q5, .int 0, .int 0, .int 0])), (q13, .inr (0, [.ref q5, .int 0, .int 0, .int 0])), (q14, .inr (0, [.ref q5, .int 0, .int 0, .int 0])), (q15, .inr (0, [.ref q5, .int 0, .int 0, .int 0])), (q18, .inl (cA19, 3, .inr (.inr (.inr (.inr (va_up (fun _ => none) (Int32.toNatClampNeg 0) (some q20))))))), (q20, .inr (0, [.ref q5, .int 0, .int 0, .int 0])), (q21, .inr (0, [.null, .int 0, .int 0, .int 0]))] := hD
  refine lv_dup hx hb d_FO_init_172 rfl ?_
  refine lv_aload_n hx hb d_FO_init_173 rfl (lv_at hl 0 rfl) ?_
  refine va_get (D := (dC, dI)) (ci := 4) (v := .ref q5) (C := R_FO) (T := F_FO) (N := 15) hx hb hts in_FO hown hK hP 0 rfl rfl 0 (by decide) (hts _ (List.mem_cons_of_mem _ w_117)) (fun _ h9 => h9) rfl d_FO_init_174 ?_
  have hPc := hP.sub (ws' := [(q21, .inr (0, [.null, .int 0, .int 0, .int 0]))]) [12] rfl
  have hDc := hD.sub (ws' := [(q21, .inr (0, [.null, .int 0, .int 0, .int 0]))]) [12] (by decide) rfl
  have hKc := hK.sub (tys' := []) [] rfl
  have hFc := va_free (wc := [(q21, .inr (0, [.null, .int 0, .int 0, .int 0]))]) hD hS hA [12] rfl
  refine va_callv (va_runI (As := [.ref q5]) (rest := [.ref q21, .int 1, .ref q18, .ref q18, .ref h0]) ⟨hx, hb, hml, hown, hts⟩ (c_SP_init l dC dI q21 q5 H.size) (cwI 1 hts (tw_in w_46) rfl rfl rfl (hts _ (List.mem_cons_of_mem _ w_4)) (hts _ (List.mem_cons_of_mem _ w_80)) (hts _ (List.mem_cons_of_mem _ w_45)) rfl (by decide +kernel) ⟨Nat.le_of_ble_eq_true rfl, Nat.le_of_ble_eq_true rfl⟩) ⟨fun a U g mk q => by obtain ⟨q0, q1, qP, qK, qD⟩ := q; exact ⟨q0, q1, qP, va_K.moved (u := U) (U := U.calling g mk a) (Vm.Alike.refl U.vm) qK, qD⟩, fun U hU hW => ⟨rfl, by rw [hU], by rw [hU]; exact hPc, va_K.moved hW.alike hKc, hDc.weaken (fun _ _ _ _ => trivial)⟩⟩ rfl rfl hl.1 rfl (lv_room (Nat.le_of_ble_eq_true rfl)) d_FO_init_177 ⟨Nat.le_of_ble_eq_true rfl, Nat.le_of_ble_eq_true rfl⟩) hS (fun q _ h => hFc q h) hFc (fun u t H1 locs ht hvm hw hB hz1 hk1 hS => ?_)
  obtain ⟨hP1, hK1, hD1⟩ := hB
  rw [ht] at hP1
  have hK1 := va_K.moved hvm.symm hK1
  obtain ⟨hP, hD⟩ := va_join (wr := [(h0, .inr (4, [.ref q5, .ref q7, .ref q10, .ref q11, .ref q12, .ref q13, .ref q14, .ref q15, .ref q16, .ref q17, .null, .int 0, .int 0, .int 0, .int 0])), (q5, .inl (cA6, 1200, .inl (fun _ => 0))), (q7, .inr (2, [.ref q8, .ref q9, .int 0])), (q8, .inr (0, [.ref q5, .int 0, .int 0, .int 0])), (q10, .inr (0, [.ref q5, .int 0, .int 0, .int 0])), (q11, .inr (0, [.ref q5, .int 0, .int 0, .int 0])), (q12, .inr (0, [.ref q5, .int 0, .int 0, .int 0])), (q13, .inr (0, [.ref q5, .int 0, .int 0, .int 0])), (q14, .inr (0, [.ref q5, .int 0, .int 0, .int 0])), (q15, .inr (0, [.ref q5, .int 0, .int 0, .int 0])), (q18, .inl (cA19, 3, .inr (.inr (.inr (.inr (va_up (fun _ => none) (Int32.toNatClampNeg 0) (some q20))))))), (q20, .inr (0, [.ref q5, .int 0, .int 0, .int 0]))]) (w1 := [(q21, .inr (0, [.ref q5, .int 0, .int 0, .int 0]))]) hP hD [12] [0, 1, 2, 3, 4, 5, 6, 7, 8, 9, 10, 11] rfl rfl (by decide) (by decide) hk1 hFc hP1 hD1
  have hK := (hK.sub (tys' := [(cA6, .int), (cA19, .object "GlyphLines$Span")]) [0, 1] rfl).app hK1
  generalize H1 = H at hP hS ⊢
  have hP : va_P (dC, dI) cls_ [(h0, .inr (4, [.ref q5, .ref q7, .ref q10, .ref q11, .ref q12, .ref q13, .ref q14, .ref q15, .ref q16, .ref q17, .null, .int 0, .int 0, .int 0, .int 0])), (q5, .inl (cA6, 1200, .inl (fun _ => 0))), (q7, .inr (2, [.ref q8, .ref q9, .int 0])), (q8, .inr (0, [.ref q5, .int 0, .int 0, .int 0])), (q10, .inr (0, [.ref q5, .int 0, .int 0, .int 0])), (q11, .inr (0, [.ref q5, .int 0, .int 0, .int 0])), (q12, .inr (0, [.ref q5, .int 0, .int 0, .int 0])), (q13, .inr (0, [.ref q5, .int 0, .int 0, .int 0])), (q14, .inr (0, [.ref q5, .int 0, .int 0, .int 0])), (q15, .inr (0, [.ref q5, .int 0, .int 0, .int 0])), (q18, .inl (cA19, 3, .inr (.inr (.inr (.inr (va_up (fun _ => none) (Int32.toNatClampNeg 0) (some q20))))))), (q20, .inr (0, [.ref q5, .int 0, .int 0, .int 0])), (q21, .inr (0, [.ref q5, .int 0, .int 0, .int 0]))] H := hP
  have hD : va_D A [(h0, .inr (4, [.ref q5, .ref q7, .ref q10, .ref q11, .ref q12, .ref q13, .ref q14, .ref q15, .ref q16, .ref q17, .null, .int 0, .int 0, .int 0, .int 0])), (q5, .inl (cA6, 1200, .inl (fun _ => 0))), (q7, .inr (2, [.ref q8, .ref q9, .int 0])), (q8, .inr (0, [.ref q5, .int 0, .int 0, .int 0])), (q10, .inr (0, [.ref q5, .int 0, .int 0, .int 0])), (q11, .inr (0, [.ref q5, .int 0, .int 0, .int 0])), (q12, .inr (0, [.ref q5, .int 0, .int 0, .int 0])), (q13, .inr (0, [.ref q5, .int 0, .int 0, .int 0])), (q14, .inr (0, [.ref q5, .int 0, .int 0, .int 0])), (q15, .inr (0, [.ref q5, .int 0, .int 0, .int 0])), (q18, .inl (cA19, 3, .inr (.inr (.inr (.inr (va_up (fun _ => none) (Int32.toNatClampNeg 0) (some q20))))))), (q20, .inr (0, [.ref q5, .int 0, .int 0, .int 0])), (q21, .inr (0, [.ref q5, .int 0, .int 0, .int 0]))] := hD
  have hK : va_K (dC, dI) cls_ [(cA6, .int), (cA19, .object "GlyphLines$Span")] s := hK
  refine va_astq hx hb hK hP hD hS 10 1 12 0 rfl rfl rfl rfl (pk_in 1 3 (by decide) (by decide +kernel) (by decide)) d_FO_init_180 (fun H locs hP hD hS => ?_)
  have hP : va_P (dC, dI) cls_ [(h0, .inr (4, [.ref q5, .ref q7, .ref q10, .ref q11, .ref q12, .ref q13, .ref q14, .ref q15, .ref q16, .ref q17, .null, .int 0, .int 0, .int 0, .int 0])), (q5, .inl (cA6, 1200, .inl (fun _ => 0))), (q7, .inr (2, [.ref q8, .ref q9, .int 0])), (q8, .inr (0, [.ref q5, .int 0, .int 0, .int 0])), (q10, .inr (0, [.ref q5, .int 0, .int 0, .int 0])), (q11, .inr (0, [.ref q5, .int 0, .int 0, .int 0])), (q12, .inr (0, [.ref q5, .int 0, .int 0, .int 0])), (q13, .inr (0, [.ref q5, .int 0, .int 0, .int 0])), (q14, .inr (0, [.ref q5, .int 0, .int 0, .int 0])), (q15, .inr (0, [.ref q5, .int 0, .int 0, .int 0])), (q18, .inl (cA19, 3, .inr (.inr (.inr (.inr (va_up (va_up (fun _ => none) (Int32.toNatClampNeg 0) (some q20)) (Int32.toNatClampNeg 1) (some q21))))))), (q20, .inr (0, [.ref q5, .int 0, .int 0, .int 0])), (q21, .inr (0, [.ref q5, .int 0, .int 0, .int 0]))] H := hP
  have hD : va_D A [(h0, .inr (4, [.ref q5, .ref q7, .ref q10, .ref q11, .ref q12, .ref q13, .ref q14, .ref q15, .ref q16, .ref q17, .null, .int 0, .int 0, .int 0, .int 0])), (q5, .inl (cA6, 1200, .inl (fun _ => 0))), (q7, .inr (2, [.ref q8, .ref q9, .int 0])), (q8, .inr (0, [.ref q5, .int 0, .int 0, .int 0])), (q10, .inr (0, [.ref q5, .int 0, .int 0, .int 0])), (q11, .inr (0, [.ref q5, .int 0, .int 0, .int 0])), (q12, .inr (0, [.ref q5, .int 0, .int 0, .int 0])), (q13, .inr (0, [.ref q5, .int 0, .int 0, .int 0])), (q14, .inr (0, [.ref q5, .int 0, .int 0, .int 0])), (q15, .inr (0, [.ref q5, .int 0, .int 0, .int 0])), (q18, .inl (cA19, 3, .inr (.inr (.inr (.inr (va_up (va_up (fun _ => none) (Int32.toNatClampNeg 0) (some q20)) (Int32.toNatClampNeg 1) (some q21))))))), (q20, .inr (0, [.ref q5, .int 0, .int 0, .int 0])), (q21, .inr (0, [.ref q5, .int 0, .int 0, .int 0]))] := hD
  refine lv_dup hx hb d_FO_init_181 rfl ?_
  refine lv_iconst (v := 2) hx hb d_FO_init_182 (by decide) ?_
  refine va_new (ci := 0) (fs := [.null, .int 0, .int 0, .int 0]) (C := R_SP) (T := F_SP) (N := 4) hx hb hts in_SP t_SP t_SP_ok hown (hts _ (List.mem_cons_of_mem _ w_79)) (hts _ (List.mem_cons_of_mem _ w_43)) (hts _ (List.mem_cons_of_mem _ w_4)) hK hP hD hS hA rfl (fun j hj => by rcases (show j = 0 ∨ j = 1 ∨ j = 2 ∨ j = 3 by omega) with rfl | rfl | rfl | rfl <;> rfl) (Nat.le_of_ble_eq_true rfl) (Nat.le_of_ble_eq_true rfl) d_FO_init_183 (fun q22 H hP hD hS => ?_)
  have hP : va_P (dC, dI) cls_ [(h0, .inr (4, [.ref q5, .ref q7, .ref q10, .ref q11, .ref q12, .ref q13, .ref q14, .ref q15, .ref q16, .ref q17, .null, .int 0, .int 0, .int 0, .int 0])), (q5, .inl (cA6, 1200, .inl (fun _ => 0))), (q7, .inr (2, [.ref q8, .ref q9, .int 0])), (q8, .inr (0, [.ref q5, .int 0, .int 0, .int 0])), (q10, .inr (0, [.ref q5, .int 0, .int 0, .int 0])), (q11, .inr (0, [.ref q5, .int 0, .int 0, .int 0])), (q12, .inr (0, [.ref q5, .int 0, .int 0, .int 0])), (q13, .inr (0, [.ref q5, .int 0, .int 0, .int 0])), (q14, .inr (0, [.ref q5, .int 0, .int 0, .int 0])), (q15, .inr (0, [.ref q5, .int 0, .int 0, .int 0])), (q18, .inl (cA19, 3, .inr (.inr (.inr (.inr (va_up (va_up (fun _ => none) (Int32.toNatClampNeg 0) (some q20)) (Int32.toNatClampNeg 1) (some q21))))))), (q20, .inr (0, [.ref q5, .int 0, .int 0, .int 0])), (q21, .inr (0, [.ref q5, .int 0, .int 0, .int 0])), (q22, .inr (0, [.null, .int 0, .int 0, .int 0]))] H := hP
  have hD : va_D A [(h0, .inr (4, [.ref q5, .ref q7, .ref q10, .ref q11, .ref q12, .ref q13, .ref q14, .ref q15, .ref q16, .ref q17, .null, .int 0, .int 0, .int 0, .int 0])), (q5, .inl (cA6, 1200, .inl (fun _ => 0))), (q7, .inr (2, [.ref q8, .ref q9, .int 0])), (q8, .inr (0, [.ref q5, .int 0, .int 0, .int 0])), (q10, .inr (0, [.ref q5, .int 0, .int 0, .int 0])), (q11, .inr (0, [.ref q5, .int 0, .int 0, .int 0])), (q12, .inr (0, [.ref q5, .int 0, .int 0, .int 0])), (q13, .inr (0, [.ref q5, .int 0, .int 0, .int 0])), (q14, .inr (0, [.ref q5, .int 0, .int 0, .int 0])), (q15, .inr (0, [.ref q5, .int 0, .int 0, .int 0])), (q18, .inl (cA19, 3, .inr (.inr (.inr (.inr (va_up (va_up (fun _ => none) (Int32.toNatClampNeg 0) (some q20)) (Int32.toNatClampNeg 1) (some q21))))))), (q20, .inr (0, [.ref q5, .int 0, .int 0, .int 0])), (q21, .inr (0, [.ref q5, .int 0, .int 0, .int 0])), (q22, .inr (0, [.null, .int 0, .int 0, .int 0]))] := hD
  refine lv_dup hx hb d_FO_init_186 rfl ?_
  refine lv_aload_n hx hb d_FO_init_187 rfl (lv_at hl 0 rfl) ?_
  refine va_get (D := (dC, dI)) (ci := 4) (v := .ref q5) (C := R_FO) (T := F_FO) (N := 15) hx hb hts in_FO hown hK hP 0 rfl rfl 0 (by decide) (hts _ (List.mem_cons_of_mem _ w_117)) (fun _ h9 => h9) rfl d_FO_init_188 ?_
  have hPc := hP.sub (ws' := [(q22, .inr (0, [.null, .int 0, .int 0, .int 0]))]) [13] rfl
  have hDc := hD.sub (ws' := [(q22, .inr (0, [.null, .int 0, .int 0, .int 0]))]) [13] (by decide) rfl
  have hKc := hK.sub (tys' := []) [] rfl
  have hFc := va_free (wc := [(q22, .inr (0, [.null, .int 0, .int 0, .int 0]))]) hD hS hA [13] rfl
  refine va_callv (va_runI (As := [.ref q5]) (rest := [.ref q22, .int 2, .ref q18, .ref q18, .ref h0]) ⟨hx, hb, hml, hown, hts⟩ (c_SP_init l dC dI q22 q5 H.size) (cwI 1 hts (tw_in w_46) rfl rfl rfl (hts _ (List.mem_cons_of_mem _ w_4)) (hts _ (List.mem_cons_of_mem _ w_80)) (hts _ (List.mem_cons_of_mem _ w_45)) rfl (by decide +kernel) ⟨Nat.le_of_ble_eq_true rfl, Nat.le_of_ble_eq_true rfl⟩) ⟨fun a U g mk q => by obtain ⟨q0, q1, qP, qK, qD⟩ := q; exact ⟨q0, q1, qP, va_K.moved (u := U) (U := U.calling g mk a) (Vm.Alike.refl U.vm) qK, qD⟩, fun U hU hW => ⟨rfl, by rw [hU], by rw [hU]; exact hPc, va_K.moved hW.alike hKc, hDc.weaken (fun _ _ _ _ => trivial)⟩⟩ rfl rfl hl.1 rfl (lv_room (Nat.le_of_ble_eq_true rfl)) d_FO_init_191 ⟨Nat.le_of_ble_eq_true rfl, Nat.le_of_ble_eq_true rfl⟩) hS (fun q _ h => hFc q h) hFc (fun u t H1 locs ht hvm hw hB hz1 hk1 hS => ?_)
  obtain ⟨hP1, hK1, hD1⟩ := hB
  rw [ht] at hP1
  have hK1 := va_K.moved hvm.symm hK1
  obtain ⟨hP, hD⟩ := va_join (wr := [(h0, .inr (4, [.ref q5, .ref q7, .ref q10, .ref q11, .ref q12, .ref q13, .ref q14, .ref q15, .ref q16, .ref q17, .null, .int 0, .int 0, .int 0, .int 0])), (q5, .inl (cA6, 1200, .inl (fun _ => 0))), (q7, .inr (2, [.ref q8, .ref q9, .int 0])), (q8, .inr (0, [.ref q5, .int 0, .int 0, .int 0])), (q10, .inr (0, [.ref q5, .int 0, .int 0, .int 0])), (q11, .inr (0, [.ref q5, .int 0, .int 0, .int 0])), (q12, .inr (0, [.ref q5, .int 0, .int 0, .int 0])), (q13, .inr (0, [.ref q5, .int 0, .int 0, .int 0])), (q14, .inr (0, [.ref q5, .int 0, .int 0, .int 0])), (q15, .inr (0, [.ref q5, .int 0, .int 0, .int 0])), (q18, .inl (cA19, 3, .inr (.inr (.inr (.inr (va_up (va_up (fun _ => none) (Int32.toNatClampNeg 0) (some q20)) (Int32.toNatClampNeg 1) (some q21))))))), (q20, .inr (0, [.ref q5, .int 0, .int 0, .int 0])), (q21, .inr (0, [.ref q5, .int 0, .int 0, .int 0]))]) (w1 := [(q22, .inr (0, [.ref q5, .int 0, .int 0, .int 0]))]) hP hD [13] [0, 1, 2, 3, 4, 5, 6, 7, 8, 9, 10, 11, 12] rfl rfl (by decide) (by decide) hk1 hFc hP1 hD1
  have hK := (hK.sub (tys' := [(cA6, .int), (cA19, .object "GlyphLines$Span")]) [0, 1] rfl).app hK1
  generalize H1 = H at hP hS ⊢
  have hP : va_P (dC, dI) cls_ [(h0, .inr (4, [.ref q5, .ref q7, .ref q10, .ref q11, .ref q12, .ref q13, .ref q14, .ref q15, .ref q16, .ref q17, .null, .int 0, .int 0, .int 0, .int 0])), (q5, .inl (cA6, 1200, .inl (fun _ => 0))), (q7, .inr (2, [.ref q8, .ref q9, .int 0])), (q8, .inr (0, [.ref q5, .int 0, .int 0, .int 0])), (q10, .inr (0, [.ref q5, .int 0, .int 0, .int 0])), (q11, .inr (0, [.ref q5, .int 0, .int 0, .int 0])), (q12, .inr (0, [.ref q5, .int 0, .int 0, .int 0])), (q13, .inr (0, [.ref q5, .int 0, .int 0, .int 0])), (q14, .inr (0, [.ref q5, .int 0, .int 0, .int 0])), (q15, .inr (0, [.ref q5, .int 0, .int 0, .int 0])), (q18, .inl (cA19, 3, .inr (.inr (.inr (.inr (va_up (va_up (fun _ => none) (Int32.toNatClampNeg 0) (some q20)) (Int32.toNatClampNeg 1) (some q21))))))), (q20, .inr (0, [.ref q5, .int 0, .int 0, .int 0])), (q21, .inr (0, [.ref q5, .int 0, .int 0, .int 0])), (q22, .inr (0, [.ref q5, .int 0, .int 0, .int 0]))] H := hP
  have hD : va_D A [(h0, .inr (4, [.ref q5, .ref q7, .ref q10, .ref q11, .ref q12, .ref q13, .ref q14, .ref q15, .ref q16, .ref q17, .null, .int 0, .int 0, .int 0, .int 0])), (q5, .inl (cA6, 1200, .inl (fun _ => 0))), (q7, .inr (2, [.ref q8, .ref q9, .int 0])), (q8, .inr (0, [.ref q5, .int 0, .int 0, .int 0])), (q10, .inr (0, [.ref q5, .int 0, .int 0, .int 0])), (q11, .inr (0, [.ref q5, .int 0, .int 0, .int 0])), (q12, .inr (0, [.ref q5, .int 0, .int 0, .int 0])), (q13, .inr (0, [.ref q5, .int 0, .int 0, .int 0])), (q14, .inr (0, [.ref q5, .int 0, .int 0, .int 0])), (q15, .inr (0, [.ref q5, .int 0, .int 0, .int 0])), (q18, .inl (cA19, 3, .inr (.inr (.inr (.inr (va_up (va_up (fun _ => none) (Int32.toNatClampNeg 0) (some q20)) (Int32.toNatClampNeg 1) (some q21))))))), (q20, .inr (0, [.ref q5, .int 0, .int 0, .int 0])), (q21, .inr (0, [.ref q5, .int 0, .int 0, .int 0])), (q22, .inr (0, [.ref q5, .int 0, .int 0, .int 0]))] := hD
  have hK : va_K (dC, dI) cls_ [(cA6, .int), (cA19, .object "GlyphLines$Span")] s := hK
  refine va_astq hx hb hK hP hD hS 10 1 13 0 rfl rfl rfl rfl (pk_in 2 3 (by decide) (by decide +kernel) (by decide)) d_FO_init_194 (fun H locs hP hD hS => ?_)
  have hP : va_P (dC, dI) cls_ [(h0, .inr (4, [.ref q5, .ref q7, .ref q10, .ref q11, .ref q12, .ref q13, .ref q14, .ref q15, .ref q16, .ref q17, .null, .int 0, .int 0, .int 0, .int 0])), (q5, .inl (cA6, 1200, .inl (fun _ => 0))), (q7, .inr (2, [.ref q8, .ref q9, .int 0])), (q8, .inr (0, [.ref q5, .int 0, .int 0, .int 0])), (q10, .inr (0, [.ref q5, .int 0, .int 0, .int 0])), (q11, .inr (0, [.ref q5, .int 0, .int 0, .int 0])), (q12, .inr (0, [.ref q5, .int 0, .int 0, .int 0])), (q13, .inr (0, [.ref q5, .int 0, .int 0, .int 0])), (q14, .inr (0, [.ref q5, .int 0, .int 0, .int 0])), (q15, .inr (0, [.ref q5, .int 0, .int 0, .int 0])), (q18, .inl (cA19, 3, .inr (.inr (.inr (.inr (va_up (va_up (va_up (fun _ => none) (Int32.toNatClampNeg 0) (some q20)) (Int32.toNatClampNeg 1) (some q21)) (Int32.toNatClampNeg 2) (some q22))))))), (q20, .inr (0, [.ref q5, .int 0, .int 0, .int 0])), (q21, .inr (0, [.ref q5, .int 0, .int 0, .int 0])), (q22, .inr (0, [.ref q5, .int 0, .int 0, .int 0]))] H := hP
  have hD : va_D A [(h0, .inr (4, [.ref q5, .ref q7, .ref q10, .ref q11, .ref q12, .ref q13, .ref q14, .ref q15, .ref q16, .ref q17, .null, .int 0, .int 0, .int 0, .int 0])), (q5, .inl (cA6, 1200, .inl (fun _ => 0))), (q7, .inr (2, [.ref q8, .ref q9, .int 0])), (q8, .inr (0, [.ref q5, .int 0, .int 0, .int 0])), (q10, .inr (0, [.ref q5, .int 0, .int 0, .int 0])), (q11, .inr (0, [.ref q5, .int 0, .int 0, .int 0])), (q12, .inr (0, [.ref q5, .int 0, .int 0, .int 0])), (q13, .inr (0, [.ref q5, .int 0, .int 0, .int 0])), (q14, .inr (0, [.ref q5, .int 0, .int 0, .int 0])), (q15, .inr (0, [.ref q5, .int 0, .int 0, .int 0])), (q18, .inl (cA19, 3, .inr (.inr (.inr (.inr (va_up (va_up (va_up (fun _ => none) (Int32.toNatClampNeg 0) (some q20)) (Int32.toNatClampNeg 1) (some q21)) (Int32.toNatClampNeg 2) (some q22))))))), (q20, .inr (0, [.ref q5, .int 0, .int 0, .int 0])), (q21, .inr (0, [.ref q5, .int 0, .int 0, .int 0])), (q22, .inr (0, [.ref q5, .int 0, .int 0, .int 0]))] := hD
  refine va_putF (D := (dC, dI)) (ci := 4) (v := .ref q18) (ty := .array (.object "GlyphLines$Span")) (C := R_FO) (T := F_FO) (N := 15) hx hb hts in_FO t_FO t_FO_ok n_FO hown hK hP hD hS 0 rfl rfl 10 (by decide) (hts _ (List.mem_cons_of_mem _ w_127)) (fun _ h9 => h9) rfl hin rfl (by decide +kernel) rfl rfl (Nat.le_of_ble_eq_true rfl) d_FO_init_195 (fun H locs hP hD hS => ?_)
  have hP : va_P (dC, dI) cls_ [(h0, .inr (4, [.ref q5, .ref q7, .ref q10, .ref q11, .ref q12, .ref q13, .ref q14, .ref q15, .ref q16, .ref q17, .ref q18, .int 0, .int 0, .int 0, .int 0])), (q5, .inl (cA6, 1200, .inl (fun _ => 0))), (q7, .inr (2, [.ref q8, .ref q9, .int 0])), (q8, .inr (0, [.ref q5, .int 0, .int 0, .int 0])), (q10, .inr (0, [.ref q5, .int 0, .int 0, .int 0])), (q11, .inr (0, [.ref q5, .int 0, .int 0, .int 0])), (q12, .inr (0, [.ref q5, .int 0, .int 0, .int 0])), (q13, .inr (0, [.ref q5, .int 0, .int 0, .int 0])), (q14, .inr (0, [.ref q5, .int 0, .int 0, .int 0])), (q15, .inr (0, [.ref q5, .int 0, .int 0, .int 0])), (q18, .inl (cA19, 3, .inr (.inr (.inr (.inr (va_up (va_up (va_up (fun _ => none) (Int32.toNatClampNeg 0) (some q20)) (Int32.toNatClampNeg 1) (some q21)) (Int32.toNatClampNeg 2) (some q22))))))), (q20, .inr (0, [.ref q5, .int 0, .int 0, .int 0])), (q21, .inr (0, [.ref q5, .int 0, .int 0, .int 0])), (q22, .inr (0, [.ref q5, .int 0, .int 0, .int 0]))] H := hP
  have hD : va_D A [(h0, .inr (4, [.ref q5, .ref q7, .ref q10, .ref q11, .ref q12, .ref q13, .ref q14, .ref q15, .ref q16, .ref q17, .ref q18, .int 0, .int 0, .int 0, .int 0])), (q5, .inl (cA6, 1200, .inl (fun _ => 0))), (q7, .inr (2, [.ref q8, .ref q9, .int 0])), (q8, .inr (0, [.ref q5, .int 0, .int 0, .int 0])), (q10, .inr (0, [.ref q5, .int 0, .int 0, .int 0])), (q11, .inr (0, [.ref q5, .int 0, .int 0, .int 0])), (q12, .inr (0, [.ref q5, .int 0, .int 0, .int 0])), (q13, .inr (0, [.ref q5, .int 0, .int 0, .int 0])), (q14, .inr (0, [.ref q5, .int 0, .int 0, .int 0])), (q15, .inr (0, [.ref q5, .int 0, .int 0, .int 0])), (q18, .inl (cA19, 3, .inr (.inr (.inr (.inr (va_up (va_up (va_up (fun _ => none) (Int32.toNatClampNeg 0) (some q20)) (Int32.toNatClampNeg 1) (some q21)) (Int32.toNatClampNeg 2) (some q22))))))), (q20, .inr (0, [.ref q5, .int 0, .int 0, .int 0])), (q21, .inr (0, [.ref q5, .int 0, .int 0, .int 0])), (q22, .inr (0, [.ref q5, .int 0, .int 0, .int 0]))] := hD
  refine lv_aload_n hx hb d_FO_init_198 rfl (lv_at hl 0 rfl) ?_
  refine lv_bipush (v := 64) hx hb d_FO_init_199 (by decide) ?_
  refine va_put (D := (dC, dI)) (ci := 4) (v := .int 64) (ty := .int) (C := R_FO) (T := F_FO) (N := 15) hx hb hts in_FO t_FO t_FO_ok n_FO hown hK hP hD hS 0 rfl rfl 11 (by decide) (hts _ (List.mem_cons_of_mem _ w_128)) (fun _ h9 => h9) rfl  (by decide +kernel) rfl rfl (Nat.le_of_ble_eq_true rfl) d_FO_init_201 (fun H locs hP hD hS => ?_)
  have hP : va_P (dC, dI) cls_ [(h0, .inr (4, [.ref q5, .ref q7, .ref q10, .ref q11, .ref q12, .ref q13, .ref q14, .ref q15, .ref q16, .ref q17, .ref q18, .int 64, .int 0, .int 0, .int 0])), (q5, .inl (cA6, 1200, .inl (fun _ => 0))), (q7, .inr (2, [.ref q8, .ref q9, .int 0])), (q8, .inr (0, [.ref q5, .int 0, .int 0, .int 0])), (q10, .inr (0, [.ref q5, .int 0, .int 0, .int 0])), (q11, .inr (0, [.ref q5, .int 0, .int 0, .int 0])), (q12, .inr (0, [.ref q5, .int 0, .int 0, .int 0])), (q13, .inr (0, [.ref q5, .int 0, .int 0, .int 0])), (q14, .inr (0, [.ref q5, .int 0, .int 0, .int 0])), (q15, .inr (0, [.ref q5, .int 0, .int 0, .int 0])), (q18, .inl (cA19, 3, .inr (.inr (.inr (.inr (va_up (va_up (va_up (fun _ => none) (Int32.toNatClampNeg 0) (some q20)) (Int32.toNatClampNeg 1) (some q21)) (Int32.toNatClampNeg 2) (some q22))))))), (q20, .inr (0, [.ref q5, .int 0, .int 0, .int 0])), (q21, .inr (0, [.ref q5, .int 0, .int 0, .int 0])), (q22, .inr (0, [.ref q5, .int 0, .int 0, .int 0]))] H := hP
  have hD : va_D A [(h0, .inr (4, [.ref q5, .ref q7, .ref q10, .ref q11, .ref q12, .ref q13, .ref q14, .ref q15, .ref q16, .ref q17, .ref q18, .int 64, .int 0, .int 0, .int 0])), (q5, .inl (cA6, 1200, .inl (fun _ => 0))), (q7, .inr (2, [.ref q8, .ref q9, .int 0])), (q8, .inr (0, [.ref q5, .int 0, .int 0, .int 0])), (q10, .inr (0, [.ref q5, .int 0, .int 0, .int 0])), (q11, .inr (0, [.ref q5, .int 0, .int 0, .int 0])), (q12, .inr (0, [.ref q5, .int 0, .int 0, .int 0])), (q13, .inr (0, [.ref q5, .int 0, .int 0, .int 0])), (q14, .inr (0, [.ref q5, .int 0, .int 0, .int 0])), (q15, .inr (0, [.ref q5, .int 0, .int 0, .int 0])), (q18, .inl (cA19, 3, .inr (.inr (.inr (.inr (va_up (va_up (va_up (fun _ => none) (Int32.toNatClampNeg 0) (some q20)) (Int32.toNatClampNeg 1) (some q21)) (Int32.toNatClampNeg 2) (some q22))))))), (q20, .inr (0, [.ref q5, .int 0, .int 0, .int 0])), (q21, .inr (0, [.ref q5, .int 0, .int 0, .int 0])), (q22, .inr (0, [.ref q5, .int 0, .int 0, .int 0]))] := hD
  refine lv_aload_n hx hb d_FO_init_204 rfl (lv_at hl 0 rfl) ?_
  refine lv_iconst (v := 0) hx hb d_FO_init_205 (by decide) ?_
  refine va_put (D := (dC, dI)) (ci := 4) (v := .int 0) (ty := .int) (C := R_FO) (T := F_FO) (N := 15) hx hb hts in_FO t_FO t_FO_ok n_FO hown hK hP hD hS 0 rfl rfl 12 (by decide) (hts _ (List.mem_cons_of_mem _ w_130)) (fun _ h9 => h9) rfl  (by decide +kernel) rfl rfl (Nat.le_of_ble_eq_true rfl) d_FO_init_206 (fun H locs hP hD hS => ?_)
  have hP : va_P (dC, dI) cls_ [(h0, .inr (4, [.ref q5, .ref q7, .ref q10, .ref q11, .ref q12, .ref q13, .ref q14, .ref q15, .ref q16, .ref q17, .ref q18, .int 64, .int 0, .int 0, .int 0])), (q5, .inl (cA6, 1200, .inl (fun _ => 0))), (q7, .inr (2, [.ref q8, .ref q9, .int 0])), (q8, .inr (0, [.ref q5, .int 0, .int 0, .int 0])), (q10, .inr (0, [.ref q5, .int 0, .int 0, .int 0])), (q11, .inr (0, [.ref q5, .int 0, .int 0, .int 0])), (q12, .inr (0, [.ref q5, .int 0, .int 0, .int 0])), (q13, .inr (0, [.ref q5, .int 0, .int 0, .int 0])), (q14, .inr (0, [.ref q5, .int 0, .int 0, .int 0])), (q15, .inr (0, [.ref q5, .int 0, .int 0, .int 0])), (q18, .inl (cA19, 3, .inr (.inr (.inr (.inr (va_up (va_up (va_up (fun _ => none) (Int32.toNatClampNeg 0) (some q20)) (Int32.toNatClampNeg 1) (some q21)) (Int32.toNatClampNeg 2) (some q22))))))), (q20, .inr (0, [.ref q5, .int 0, .int 0, .int 0])), (q21, .inr (0, [.ref q5, .int 0, .int 0, .int 0])), (q22, .inr (0, [.ref q5, .int 0, .int 0, .int 0]))] H := hP
  have hD : va_D A [(h0, .inr (4, [.ref q5, .ref q7, .ref q10, .ref q11, .ref q12, .ref q13, .ref q14, .ref q15, .ref q16, .ref q17, .ref q18, .int 64, .int 0, .int 0, .int 0])), (q5, .inl (cA6, 1200, .inl (fun _ => 0))), (q7, .inr (2, [.ref q8, .ref q9, .int 0])), (q8, .inr (0, [.ref q5, .int 0, .int 0, .int 0])), (q10, .inr (0, [.ref q5, .int 0, .int 0, .int 0])), (q11, .inr (0, [.ref q5, .int 0, .int 0, .int 0])), (q12, .inr (0, [.ref q5, .int 0, .int 0, .int 0])), (q13, .inr (0, [.ref q5, .int 0, .int 0, .int 0])), (q14, .inr (0, [.ref q5, .int 0, .int 0, .int 0])), (q15, .inr (0, [.ref q5, .int 0, .int 0, .int 0])), (q18, .inl (cA19, 3, .inr (.inr (.inr (.inr (va_up (va_up (va_up (fun _ => none) (Int32.toNatClampNeg 0) (some q20)) (Int32.toNatClampNeg 1) (some q21)) (Int32.toNatClampNeg 2) (some q22))))))), (q20, .inr (0, [.ref q5, .int 0, .int 0, .int 0])), (q21, .inr (0, [.ref q5, .int 0, .int 0, .int 0])), (q22, .inr (0, [.ref q5, .int 0, .int 0, .int 0]))] := hD
  refine lv_aload_n hx hb d_FO_init_209 rfl (lv_at hl 0 rfl) ?_
  refine lv_iconst (v := 0) hx hb d_FO_init_210 (by decide) ?_
  refine va_put (D := (dC, dI)) (ci := 4) (v := .int 0) (ty := .int) (C := R_FO) (T := F_FO) (N := 15) hx hb hts in_FO t_FO t_FO_ok n_FO hown hK hP hD hS 0 rfl rfl 13 (by decide) (hts _ (List.mem_cons_of_mem _ w_133)) (fun _ h9 => h9) rfl  (by decide +kernel) rfl rfl (Nat.le_of_ble_eq_true rfl) d_FO_init_211 (fun H locs hP hD hS => ?_)
  have hP : va_P (dC, dI) cls_ [(h0, .inr (4, [.ref q5, .ref q7, .ref q10, .ref q11, .ref q12, .ref q13, .ref q14, .ref q15, .ref q16, .ref q17, .ref q18, .int 64, .int 0, .int 0, .int 0])), (q5, .inl (cA6, 1200, .inl (fun _ => 0))), (q7, .inr (2, [.ref q8, .ref q9, .int 0])), (q8, .inr (0, [.ref q5, .int 0, .int 0, .int 0])), (q10, .inr (0, [.ref q5, .int 0, .int 0, .int 0])), (q11, .inr (0, [.ref q5, .int 0, .int 0, .int 0])), (q12, .inr (0, [.ref q5, .int 0, .int 0, .int 0])), (q13, .inr (0, [.ref q5, .int 0, .int 0, .int 0])), (q14, .inr (0, [.ref q5, .int 0, .int 0, .int 0])), (q15, .inr (0, [.ref q5, .int 0, .int 0, .int 0])), (q18, .inl (cA19, 3, .inr (.inr (.inr (.inr (va_up (va_up (va_up (fun _ => none) (Int32.toNatClampNeg 0) (some q20)) (Int32.toNatClampNeg 1) (some q21)) (Int32.toNatClampNeg 2) (some q22))))))), (q20, .inr (0, [.ref q5, .int 0, .int 0, .int 0])), (q21, .inr (0, [.ref q5, .int 0, .int 0, .int 0])), (q22, .inr (0, [.ref q5, .int 0, .int 0, .int 0]))] H := hP
  have hD : va_D A [(h0, .inr (4, [.ref q5, .ref q7, .ref q10, .ref q11, .ref q12, .ref q13, .ref q14, .ref q15, .ref q16, .ref q17, .ref q18, .int 64, .int 0, .int 0, .int 0])), (q5, .inl (cA6, 1200, .inl (fun _ => 0))), (q7, .inr (2, [.ref q8, .ref q9, .int 0])), (q8, .inr (0, [.ref q5, .int 0, .int 0, .int 0])), (q10, .inr (0, [.ref q5, .int 0, .int 0, .int 0])), (q11, .inr (0, [.ref q5, .int 0, .int 0, .int 0])), (q12, .inr (0, [.ref q5, .int 0, .int 0, .int 0])), (q13, .inr (0, [.ref q5, .int 0, .int 0, .int 0])), (q14, .inr (0, [.ref q5, .int 0, .int 0, .int 0])), (q15, .inr (0, [.ref q5, .int 0, .int 0, .int 0])), (q18, .inl (cA19, 3, .inr (.inr (.inr (.inr (va_up (va_up (va_up (fun _ => none) (Int32.toNatClampNeg 0) (some q20)) (Int32.toNatClampNeg 1) (some q21)) (Int32.toNatClampNeg 2) (some q22))))))), (q20, .inr (0, [.ref q5, .int 0, .int 0, .int 0])), (q21, .inr (0, [.ref q5, .int 0, .int 0, .int 0])), (q22, .inr (0, [.ref q5, .int 0, .int 0, .int 0]))] := hD
  refine lv_aload_n hx hb d_FO_init_214 rfl (lv_at hl 0 rfl) ?_
  refine lv_iconst (v := 0) hx hb d_FO_init_215 (by decide) ?_
  refine va_put (D := (dC, dI)) (ci := 4) (v := .int 0) (ty := .boolean) (C := R_FO) (T := F_FO) (N := 15) hx hb hts in_FO t_FO t_FO_ok n_FO hown hK hP hD hS 0 rfl rfl 14 (by decide) (hts _ (List.mem_cons_of_mem _ w_134)) (fun _ h9 => h9) rfl  (by decide +kernel) rfl rfl (Nat.le_of_ble_eq_true rfl) d_FO_init_216 (fun H locs hP hD hS => ?_)
  have hP : va_P (dC, dI) cls_ [(h0, .inr (4, [.ref q5, .ref q7, .ref q10, .ref q11, .ref q12, .ref q13, .ref q14, .ref q15, .ref q16, .ref q17, .ref q18, .int 64, .int 0, .int 0, .int 0])), (q5, .inl (cA6, 1200, .inl (fun _ => 0))), (q7, .inr (2, [.ref q8, .ref q9, .int 0])), (q8, .inr (0, [.ref q5, .int 0, .int 0, .int 0])), (q10, .inr (0, [.ref q5, .int 0, .int 0, .int 0])), (q11, .inr (0, [.ref q5, .int 0, .int 0, .int 0])), (q12, .inr (0, [.ref q5, .int 0, .int 0, .int 0])), (q13, .inr (0, [.ref q5, .int 0, .int 0, .int 0])), (q14, .inr (0, [.ref q5, .int 0, .int 0, .int 0])), (q15, .inr (0, [.ref q5, .int 0, .int 0, .int 0])), (q18, .inl (cA19, 3, .inr (.inr (.inr (.inr (va_up (va_up (va_up (fun _ => none) (Int32.toNatClampNeg 0) (some q20)) (Int32.toNatClampNeg 1) (some q21)) (Int32.toNatClampNeg 2) (some q22))))))), (q20, .inr (0, [.ref q5, .int 0, .int 0, .int 0])), (q21, .inr (0, [.ref q5, .int 0, .int 0, .int 0])), (q22, .inr (0, [.ref q5, .int 0, .int 0, .int 0]))] H := hP
  have hD : va_D A [(h0, .inr (4, [.ref q5, .ref q7, .ref q10, .ref q11, .ref q12, .ref q13, .ref q14, .ref q15, .ref q16, .ref q17, .ref q18, .int 64, .int 0, .int 0, .int 0])), (q5, .inl (cA6, 1200, .inl (fun _ => 0))), (q7, .inr (2, [.ref q8, .ref q9, .int 0])), (q8, .inr (0, [.ref q5, .int 0, .int 0, .int 0])), (q10, .inr (0, [.ref q5, .int 0, .int 0, .int 0])), (q11, .inr (0, [.ref q5, .int 0, .int 0, .int 0])), (q12, .inr (0, [.ref q5, .int 0, .int 0, .int 0])), (q13, .inr (0, [.ref q5, .int 0, .int 0, .int 0])), (q14, .inr (0, [.ref q5, .int 0, .int 0, .int 0])), (q15, .inr (0, [.ref q5, .int 0, .int 0, .int 0])), (q18, .inl (cA19, 3, .inr (.inr (.inr (.inr (va_up (va_up (va_up (fun _ => none) (Int32.toNatClampNeg 0) (some q20)) (Int32.toNatClampNeg 1) (some q21)) (Int32.toNatClampNeg 2) (some q22))))))), (q20, .inr (0, [.ref q5, .int 0, .int 0, .int 0])), (q21, .inr (0, [.ref q5, .int 0, .int 0, .int 0])), (q22, .inr (0, [.ref q5, .int 0, .int 0, .int 0]))] := hD
  refine W.widen (k := 18) (n := 1263) (Nat.le_of_ble_eq_true rfl) (Nat.le_of_ble_eq_true rfl) ?_
  have hP9 := hP.sub (ws' := [(h0, .inr (4, [.ref q5, .ref q7, .ref q10, .ref q11, .ref q12, .ref q13, .ref q14, .ref q15, .ref q16, .ref q17, .ref q18, .int 64, .int 0, .int 0, .int 0])), (q5, .inl (cA6, 1200, .inl (fun _ => 0))), (q7, .inr (2, [.ref q8, .ref q9, .int 0])), (q8, .inr (0, [.ref q5, .int 0, .int 0, .int 0]))]) [0, 1, 2, 3] rfl
  have hD9 := hD.sub (ws' := [(h0, .inr (4, [.ref q5, .ref q7, .ref q10, .ref q11, .ref q12, .ref q13, .ref q14, .ref q15, .ref q16, .ref q17, .ref q18, .int 64, .int 0, .int 0, .int 0])), (q5, .inl (cA6, 1200, .inl (fun _ => 0))), (q7, .inr (2, [.ref q8, .ref q9, .int 0])), (q8, .inr (0, [.ref q5, .int 0, .int 0, .int 0]))]) [0, 1, 2, 3] (by decide) rfl
  have hK9 := hK.sub (tys' := [(cA6, .int)]) [0] rfl
  exact W.vret hx hb hr (fun t ht hW => ⟨⟨(), rfl, trivial, q5, q7, q10, q11, q12, q13, q14, q15, q16, q17, q18, q8, q9, cA6, by rw [ht]; exact hP9, va_K.moved hW.alike hK9, hD9⟩, hS.F ht⟩) hS.2.2 d_FO_init_219
set_option maxHeartbeats 4000000 in
set_option maxRecDepth 100000 in
/-- GlyphLines$Move.<init> -/
theorem c_MO_init (l : Launch) (dC : Nat → ClassId) (dI : Nat → Nat → Nat) (h0 : Nat) (sz : Nat) : Met l y_MO_init s_MO_init ({ frames := 8, cells := 0, slots := 0, locals := 200 }) (va_Pc [.ref h0] (fun U => U.heap.size = sz ∧ va_P (dC, dI) cls_ [(h0, .inr (5, [.int 0, .int 0, .int 0, .int 0, .int 0, .int 0]))] U.heap ∧ va_K (dC, dI) cls_ [] U ∧ va_D (fun _ => True) [(h0, .inr (5, [.int 0, .int 0, .int 0, .int 0, .int 0, .int 0]))])) (va_Qv (fun _ : Unit => True) (fun (_ : Unit) (t : State) => True) (va_A [(h0, .inr (5, [.int 0, .int 0, .int 0, .int 0, .int 0, .int 0]))] sz)) 0 0 (va_A [(h0, .inr (5, [.int 0, .int 0, .int 0, .int 0, .int 0, .int 0]))] sz) := by
  refine Met.ofW (cc := b_MO_init) (maxL := 1) (ret := none) (by decide) rfl ?_
  intro p e s m args below meth c s₁ B hml hv
  obtain ⟨rfl, hsz, hP, hK, hD0⟩ := hv
  have hx := B.exec
  have hb := B.bytes
  have hr := B.returns
  have hts := atoms_spec (ws := s_MO_init) B.pre
  have hown : s.vm.findClass R_MO = some m.cls := findClass_of_methodNamed B.named
  have hlocks := B.notSynchronized
  have hin : meth.name = "<init>" := (name_of_methodNamed B.named B.method).1
  subst hsz
  have hD := hD0.self (sz := s.heap.size)
  generalize hAe : va_A [(h0, .inr (5, [.int 0, .int 0, .int 0, .int 0, .int 0, .int 0]))] s.heap.size = A at hD ⊢
  have hA : ∀ q : Nat, s.heap.size ≤ q → A q := fun q h => by rw [← hAe]; exact Or.inr h
  have hS : va_S A s.heap s.heap [] := va_S.rf
  have hP : va_P (dC, dI) cls_ [(h0, .inr (5, [.int 0, .int 0, .int 0, .int 0, .int 0, .int 0]))] s.heap := hP
  have hl := lv_entry ([.ref h0]) (n := 1) (Nat.le_of_ble_eq_true rfl)
  rw [lg_entry_eq]
  generalize (lg_sl ([.ref h0]) ++ List.replicate (1 - (lg_sl ([.ref h0])).length) Slot.unset).toArray = ls at hl ⊢
  have hl : lv_has ls 1 [(0, .ref h0)] := hl
  refine lv_aload_n hx hb d_MO_init_0 rfl (lv_at hl 0 rfl) ?_
  refine W.objInit hx hb hown (hts _ (List.mem_cons_of_mem _ w_177)) (hts _ (List.mem_cons_of_mem _ w_28)) (hts _ (List.mem_cons_of_mem _ w_29)) rfl (by rw [hml]; exact hl.1) rfl d_MO_init_1 (Nat.le_of_ble_eq_true rfl) (Nat.le_of_ble_eq_true rfl) ?_
  refine W.eq (g2 := F0 m 4 ls []) rfl ?_
  refine lv_aload_n hx hb d_MO_init_4 rfl (lv_at hl 0 rfl) ?_
  refine lv_iconst (v := 0) hx hb d_MO_init_5 (by decide) ?_
  refine va_put (D := (dC, dI)) (ci := 5) (v := .int 0) (ty := .int) (C := R_MO) (T := F_MO) (N := 6) hx hb hts in_MO t_MO t_MO_ok n_MO hown hK hP hD hS 0 rfl rfl 0 (by decide) (hts _ (List.mem_cons_of_mem _ w_178)) (fun _ h9 => h9) rfl  (by decide +kernel) rfl rfl (Nat.le_of_ble_eq_true rfl) d_MO_init_6 (fun H locs hP hD hS => ?_)
  have hP : va_P (dC, dI) cls_ [(h0, .inr (5, [.int 0, .int 0, .int 0, .int 0, .int 0, .int 0]))] H := hP
  have hD : va_D A [(h0, .inr (5, [.int 0, .int 0, .int 0, .int 0, .int 0, .int 0]))] := hD
  refine lv_aload_n hx hb d_MO_init_9 rfl (lv_at hl 0 rfl) ?_
  refine lv_iconst (v := 0) hx hb d_MO_init_10 (by decide) ?_
  refine va_put (D := (dC, dI)) (ci := 5) (v := .int 0) (ty := .int) (C := R_MO) (T := F_MO) (N := 6) hx hb hts in_MO t_MO t_MO_ok n_MO hown hK hP hD hS 0 rfl rfl 1 (by decide) (hts _ (List.mem_cons_of_mem _ w_179)) (fun _ h9 => h9) rfl  (by decide +kernel) rfl rfl (Nat.le_of_ble_eq_true rfl) d_MO_init_11 (fun H locs hP hD hS => ?_)
  have hP : va_P (dC, dI) cls_ [(h0, .inr (5, [.int 0, .int 0, .int 0, .int 0, .int 0, .int 0]))] H := hP
  have hD : va_D A [(h0, .inr (5, [.int 0, .int 0, .int 0, .int 0, .int 0, .int 0]))] := hD
  refine lv_aload_n hx hb d_MO_init_14 rfl (lv_at hl 0 rfl) ?_
  refine lv_iconst (v := 0) hx hb d_MO_init_15 (by decide) ?_
  refine va_put (D := (dC, dI)) (ci := 5) (v := .int 0) (ty := .int) (C := R_MO) (T := F_MO) (N := 6) hx hb hts in_MO t_MO t_MO_ok n_MO hown hK hP hD hS 0 rfl rfl 2 (by decide) (hts _ (List.mem_cons_of_mem _ w_180)) (fun _ h9 => h9) rfl  (by decide +kernel) rfl rfl (Nat.le_of_ble_eq_true rfl) d_MO_init_16 (fun H locs hP hD hS => ?_)
  have hP : va_P (dC, dI) cls_ [(h0, .inr (5, [.int 0, .int 0, .int 0, .int 0, .int 0, .int 0]))] H := hP
  have hD : va_D A [(h0, .inr (5, [.int 0, .int 0, .int 0, .int 0, .int 0, .int 0]))] := hD
  refine lv_aload_n hx hb d_MO_init_19 rfl (lv_at hl 0 rfl) ?_
  refine lv_iconst (v := 0) hx hb d_MO_init_20 (by decide) ?_
  refine va_put (D := (dC, dI)) (ci := 5) (v := .int 0) (ty := .int) (C := R_MO) (T := F_MO) (N := 6) hx hb hts in_MO t_MO t_MO_ok n_MO hown hK hP hD hS 0 rfl rfl 3 (by decide) (hts _ (List.mem_cons_of_mem _ w_181)) (fun _ h9 => h9) rfl  (by decide +kernel) rfl rfl (Nat.le_of_ble_eq_true rfl) d_MO_init_21 (fun H locs hP hD hS => ?_)
  have hP : va_P (dC, dI) cls_ [(h0, .inr (5, [.int 0, .int 0, .int 0, .int 0, .int 0, .int 0]))] H := hP
  have hD : va_D A [(h0, .inr (5, [.int 0, .int 0, .int 0, .int 0, .int 0, .int 0]))] := hD
  refine lv_aload_n hx hb d_MO_init_24 rfl (lv_at hl 0 rfl) ?_
  refine lv_iconst (v := 0) hx hb d_MO_init_25 (by decide) ?_
  refine va_put (D := (dC, dI)) (ci := 5) (v := .int 0) (ty := .int) (C := R_MO) (T := F_MO) (N := 6) hx hb hts in_MO t_MO t_MO_ok n_MO hown hK hP hD hS 0 rfl rfl 4 (by decide) (hts _ (List.mem_cons_of_mem _ w_182)) (fun _ h9 => h9) rfl  (by decide +kernel) rfl rfl (Nat.le_of_ble_eq_true rfl) d_MO_init_26 (fun H locs hP hD hS => ?_)
  have hP : va_P (dC, dI) cls_ [(h0, .inr (5, [.int 0, .int 0, .int 0, .int 0, .int 0, .int 0]))] H := hP
  have hD : va_D A [(h0, .inr (5, [.int 0, .int 0, .int 0, .int 0, .int 0, .int 0]))] := hD
  refine lv_aload_n hx hb d_MO_init_29 rfl (lv_at hl 0 rfl) ?_
  refine lv_iconst (v := 0) hx hb d_MO_init_30 (by decide) ?_
  refine va_put (D := (dC, dI)) (ci := 5) (v := .int 0) (ty := .int) (C := R_MO) (T := F_MO) (N := 6) hx hb hts in_MO t_MO t_MO_ok n_MO hown hK hP hD hS 0 rfl rfl 5 (by decide) (hts _ (List.mem_cons_of_mem _ w_183)) (fun _ h9 => h9) rfl  (by decide +kernel) rfl rfl (Nat.le_of_ble_eq_true rfl) d_MO_init_31 (fun H locs hP hD hS => ?_)
  have hP : va_P (dC, dI) cls_ [(h0, .inr (5, [.int 0, .int 0, .int 0, .int 0, .int 0, .int 0]))] H := hP
  have hD : va_D A [(h0, .inr (5, [.int 0, .int 0, .int 0, .int 0, .int 0, .int 0]))] := hD
  refine W.widen (k := 0) (n := 0) (Nat.le_of_ble_eq_true rfl) (Nat.le_of_ble_eq_true rfl) ?_
  exact W.vret hx hb hr (fun t ht hW => ⟨⟨(), rfl, trivial, trivial⟩, hS.F ht⟩) hS.2.2 d_MO_init_34
set_option maxHeartbeats 4000000 in
set_option maxRecDepth 100000 in
/-- GlyphLines$Outline.<init> -/
theorem c_OU_init (l : Launch) (dC : Nat → ClassId) (dI : Nat → Nat → Nat) (h0 : Nat) (sz : Nat) : Met l y_OU_init s_OU_init ({ frames := 10, cells := 6, slots := 286, locals := 300 }) (va_Pc [.ref h0] (fun U => U.heap.size = sz ∧ va_P (dC, dI) cls_ [(h0, .inr (6, [.null, .null, .null, .null, .null, .null, .int 0, .int 0]))] U.heap ∧ va_K (dC, dI) cls_ [] U ∧ va_D (fun _ => True) [(h0, .inr (6, [.null, .null, .null, .null, .null, .null, .int 0, .int 0]))])) (va_Qv (fun _ : Unit => True) (fun (_ : Unit) (t : State) => True) (va_A [(h0, .inr (6, [.null, .null, .null, .null, .null, .null, .int 0, .int 0]))] sz)) 6 286 (va_A [(h0, .inr (6, [.null, .null, .null, .null, .null, .null, .int 0, .int 0]))] sz) := by
  refine Met.ofW (cc := b_OU_init) (maxL := 1) (ret := none) (by decide) rfl ?_
  intro p e s m args below meth c s₁ B hml hv
  obtain ⟨rfl, hsz, hP, hK, hD0⟩ := hv
  have hx := B.exec
  have hb := B.bytes
  have hr := B.returns
  have hts := atoms_spec (ws := s_OU_init) B.pre
  have hown : s.vm.findClass R_OU = some m.cls := findClass_of_methodNamed B.named
  have hlocks := B.notSynchronized
  have hin : meth.name = "<init>" := (name_of_methodNamed B.named B.method).1
  subst hsz
  have hD := hD0.self (sz := s.heap.size)
  generalize hAe : va_A [(h0, .inr (6, [.null, .null, .null, .null, .null, .null, .int 0, .int 0]))] s.heap.size = A at hD ⊢
  have hA : ∀ q : Nat, s.heap.size ≤ q → A q := fun q h => by rw [← hAe]; exact Or.inr h
  have hS : va_S A s.heap s.heap [] := va_S.rf
  have hP : va_P (dC, dI) cls_ [(h0, .inr (6, [.null, .null, .null, .null, .null, .null, .int 0, .int 0]))] s.heap := hP
  have hl := lv_entry ([.ref h0]) (n := 1) (Nat.le_of_ble_eq_true rfl)
  rw [lg_entry_eq]
  generalize (lg_sl ([.ref h0]) ++ List.replicate (1 - (lg_sl ([.ref h0])).length) Slot.unset).toArray = ls at hl ⊢
  have hl : lv_has ls 1 [(0, .ref h0)] := hl
  refine lv_aload_n hx hb d_OU_init_0 rfl (lv_at hl 0 rfl) ?_
  refine W.objInit hx hb hown (hts _ (List.mem_cons_of_mem _ w_171)) (hts _ (List.mem_cons_of_mem _ w_28)) (hts _ (List.mem_cons_of_mem _ w_29)) rfl (by rw [hml]; exact hl.1) rfl d_OU_init_1 (Nat.le_of_ble_eq_true rfl) (Nat.le_of_ble_eq_true rfl) ?_
  refine W.eq (g2 := F0 m 4 ls []) rfl ?_
  refine lv_aload_n hx hb d_OU_init_4 rfl (lv_at hl 0 rfl) ?_
  refine lv_bipush (v := 64) hx hb d_OU_init_5 (by decide) ?_
  refine va_newa (atype := .int) (a0 := (64, .inl (fun _ => 0))) (ty := .int) (N' := 64) hx hb (hts _ (List.mem_cons_of_mem _ w_68)) rfl hK hP hD hS hA (fun _ => rfl) (by decide +kernel) (by decide +kernel) (by decide +kernel) (Nat.le_of_ble_eq_true rfl) (Nat.le_of_ble_eq_true rfl) d_OU_init_7 (fun q23 cA24 H hK hP hD hS => ?_)
  have hP : va_P (dC, dI) cls_ [(h0, .inr (6, [.null, .null, .null, .null, .null, .null, .int 0, .int 0])), (q23, .inl (cA24, 64, .inl (fun _ => 0)))] H := hP
  have hD : va_D A [(h0, .inr (6, [.null, .null, .null, .null, .null, .null, .int 0, .int 0])), (q23, .inl (cA24, 64, .inl (fun _ => 0)))] := hD
  have hK : va_K (dC, dI) cls_ [(cA24, .int)] s := hK
  refine va_putF (D := (dC, dI)) (ci := 6) (v := .ref q23) (ty := .array .int) (C := R_OU) (T := F_OU) (N := 8) hx hb hts in_OU t_OU t_OU_ok n_OU hown hK hP hD hS 0 rfl rfl 0 (by decide) (hts _ (List.mem_cons_of_mem _ w_198)) (fun _ h9 => h9) rfl hin rfl (by decide +kernel) rfl rfl (Nat.le_of_ble_eq_true rfl) d_OU_init_9 (fun H locs hP hD hS => ?_)
  have hP : va_P (dC, dI) cls_ [(h0, .inr (6, [.ref q23, .null, .null, .null, .null, .null, .int 0, .int 0])), (q23, .inl (cA24, 64, .inl (fun _ => 0)))] H := hP
  have hD : va_D A [(h0, .inr (6, [.ref q23, .null, .null, .null, .null, .null, .int 0, .int 0])), (q23, .inl (cA24, 64, .inl (fun _ => 0)))] := hD
  refine lv_aload_n hx hb d_OU_init_12 rfl (lv_at hl 0 rfl) ?_
  refine lv_bipush (v := 64) hx hb d_OU_init_13 (by decide) ?_
  refine va_newa (atype := .int) (a0 := (64, .inl (fun _ => 0))) (ty := .int) (N' := 64) hx hb (hts _ (List.mem_cons_of_mem _ w_68)) rfl hK hP hD hS hA (fun _ => rfl) (by decide +kernel) (by decide +kernel) (by decide +kernel) (Nat.le_of_ble_eq_true rfl) (Nat.le_of_ble_eq_true rfl) d_OU_init_15 (fun q25 cA26 H hK hP hD hS => ?_)
  have hP : va_P (dC, dI) cls_ [(h0, .inr (6, [.ref q23, .null, .null, .null, .null, .null, .int 0, .int 0])), (q23, .inl (cA24, 64, .inl (fun _ => 0))), (q25, .inl (cA26, 64, .inl (fun _ => 0)))] H := hP
  have hD : va_D A [(h0, .inr (6, [.ref q23, .null, .null, .null, .null, .null, .int 0, .int 0])), (q23, .inl (cA24, 64, .inl (fun _ => 0))), (q25, .inl (cA26, 64, .inl (fun _ => 0)))] := hD
  have hK : va_K (dC, dI) cls_ [(cA24, .int), (cA26, .int)] s := hK
  refine va_putF (D := (dC, dI)) (ci := 6) (v := .ref q25) (ty := .array .int) (C := R_OU) (T := F_OU) (N := 8) hx hb hts in_OU t_OU t_OU_ok n_OU hown hK hP hD hS 0 rfl rfl 1 (by decide) (hts _ (List.mem_cons_of_mem _ w_201)) (fun _ h9 => h9) rfl hin rfl (by decide +kernel) rfl rfl (Nat.le_of_ble_eq_true rfl) d_OU_init_17 (fun H locs hP hD hS => ?_)
  have hP : va_P (dC, dI) cls_ [(h0, .inr (6, [.ref q23, .ref q25, .null, .null, .null, .null, .int 0, .int 0])), (q23, .inl (cA24, 64, .inl (fun _ => 0))), (q25, .inl (cA26, 64, .inl (fun _ => 0)))] H := hP
  have hD : va_D A [(h0, .inr (6, [.ref q23, .ref q25, .null, .null, .null, .null, .int 0, .int 0])), (q23, .inl (cA24, 64, .inl (fun _ => 0))), (q25, .inl (cA26, 64, .inl (fun _ => 0)))] := hD
  refine lv_aload_n hx hb d_OU_init_20 rfl (lv_at hl 0 rfl) ?_
  refine lv_bipush (v := 64) hx hb d_OU_init_21 (by decide) ?_
  refine va_newa (atype := .boolean) (a0 := (64, .inl (fun _ => 0))) (ty := .boolean) (N' := 64) hx hb (hts _ (List.mem_cons_of_mem _ w_197)) rfl hK hP hD hS hA (fun _ => rfl) (by decide +kernel) (by decide +kernel) (by decide +kernel) (Nat.le_of_ble_eq_true rfl) (Nat.le_of_ble_eq_true rfl) d_OU_init_23 (fun q27 cA28 H hK hP hD hS => ?_)
  have hP : va_P (dC, dI) cls_ [(h0, .inr (6, [.ref q23, .ref q25, .null, .null, .null, .null, .int 0, .int 0])), (q23, .inl (cA24, 64, .inl (fun _ => 0))), (q25, .inl (cA26, 64, .inl (fun _ => 0))), (q27, .inl (cA28, 64, .inl (fun _ => 0)))] H := hP
  have hD : va_D A [(h0, .inr (6, [.ref q23, .ref q25, .null, .null, .null, .null, .int 0, .int 0])), (q23, .inl (cA24, 64, .inl (fun _ => 0))), (q25, .inl (cA26, 64, .inl (fun _ => 0))), (q27, .inl (cA28, 64, .inl (fun _ => 0)))] := hD
  have hK : va_K (dC, dI) cls_ [(cA24, .int), (cA26, .int), (cA28, .boolean)] s := hK
  refine va_putF (D := (dC, dI)) (ci := 6) (v := .ref q27) (ty := .array .boolean) (C := R_OU) (T := F_OU) (N := 8) hx hb hts in_OU t_OU t_OU_ok n_OU hown hK hP hD hS 0 rfl rfl 2 (by decide) (hts _ (List.mem_cons_of_mem _ w_204)) (fun _ h9 => h9) rfl hin rfl (by decide +kernel) rfl rfl (Nat.le_of_ble_eq_true rfl) d_OU_init_25 (fun H locs hP hD hS => ?_)
  have hP : va_P (dC, dI) cls_ [(h0, .inr (6, [.ref q23, .ref q25, .ref q27, .null, .null, .null, .int 0, .int 0])), (q23, .inl (cA24, 64, .inl (fun _ => 0))), (q25, .inl (cA26, 64, .inl (fun _ => 0))), (q27, .inl (cA28, 64, .inl (fun _ => 0)))] H := hP
  have hD : va_D A [(h0, .inr (6, [.ref q23, .ref q25, .ref q27, .null, .null, .null, .int 0, .int 0])), (q23, .inl (cA24, 64, .inl (fun _ => 0))), (q25, .inl (cA26, 64, .inl (fun _ => 0))), (q27, .inl (cA28, 64, .inl (fun _ => 0)))] := hD
  refine lv_aload_n hx hb d_OU_init_28 rfl (lv_at hl 0 rfl) ?_
  refine lv_bipush (v := 64) hx hb d_OU_init_29 (by decide) ?_
  refine va_newa (atype := .int) (a0 := (64, .inl (fun _ => 0))) (ty := .int) (N' := 64) hx hb (hts _ (List.mem_cons_of_mem _ w_68)) rfl hK hP hD hS hA (fun _ => rfl) (by decide +kernel) (by decide +kernel) (by decide +kernel) (Nat.le_of_ble_eq_true rfl) (Nat.le_of_ble_eq_true rfl) d_OU_init_31 (fun q29 cA30 H hK hP hD hS => ?_)
  have hP : va_P (dC, dI) cls_ [(h0, .inr (6, [.ref q23, .ref q25, .ref q27, .null, .null, .null, .int 0, .int 0])), (q23, .inl (cA24, 64, .inl (fun _ => 0))), (q25, .inl (cA26, 64, .inl (fun _ => 0))), (q27, .inl (cA28, 64, .inl (fun _ => 0))), (q29, .inl (cA30, 64, .inl (fun _ => 0)))] H := hP
  have hD : va_D A [(h0, .inr (6, [.ref q23, .ref q25, .ref q27, .null, .null, .null, .int 0, .int 0])), (q23, .inl (cA24, 64, .inl (fun _ => 0))), (q25, .inl (cA26, 64, .inl (fun _ => 0))), (q27, .inl (cA28, 64, .inl (fun _ => 0))), (q29, .inl (cA30, 64, .inl (fun _ => 0)))] := hD
  have hK : va_K (dC, dI) cls_ [(cA24, .int), (cA26, .int), (cA28, .boolean), (cA30, .int)] s := hK
  refine va_putF (D := (dC, dI)) (ci := 6) (v := .ref q29) (ty := .array .int) (C := R_OU) (T := F_OU) (N := 8) hx hb hts in_OU t_OU t_OU_ok n_OU hown hK hP hD hS 0 rfl rfl 3 (by decide) (hts _ (List.mem_cons_of_mem _ w_207)) (fun _ h9 => h9) rfl hin rfl (by decide +kernel) rfl rfl (Nat.le_of_ble_eq_true rfl) d_OU_init_33 (fun H locs hP hD hS => ?_)
  have hP : va_P (dC, dI) cls_ [(h0, .inr (6, [.ref q23, .ref q25, .ref q27, .ref q29, .null, .null, .int 0, .int 0])), (q23, .inl (cA24, 64, .inl (fun _ => 0))), (q25, .inl (cA26, 64, .inl (fun _ => 0))), (q27, .inl (cA28, 64, .inl (fun _ => 0))), (q29, .inl (cA30, 64, .inl (fun _ => 0)))] H := hP
  have hD : va_D A [(h0, .inr (6, [.ref q23, .ref q25, .ref q27, .ref q29, .null, .null, .int 0, .int 0])), (q23, .inl (cA24, 64, .inl (fun _ => 0))), (q25, .inl (cA26, 64, .inl (fun _ => 0))), (q27, .inl (cA28, 64, .inl (fun _ => 0))), (q29, .inl (cA30, 64, .inl (fun _ => 0)))] := hD
  refine lv_aload_n hx hb d_OU_init_36 rfl (lv_at hl 0 rfl) ?_
  refine lv_bipush (v := 24) hx hb d_OU_init_37 (by decide) ?_
  refine va_newa (atype := .int) (a0 := (24, .inl (fun _ => 0))) (ty := .int) (N' := 24) hx hb (hts _ (List.mem_cons_of_mem _ w_68)) rfl hK hP hD hS hA (fun _ => rfl) (by decide +kernel) (by decide +kernel) (by decide +kernel) (Nat.le_of_ble_eq_true rfl) (Nat.le_of_ble_eq_true rfl) d_OU_init_39 (fun q31 cA32 H hK hP hD hS => ?_)
  have hP : va_P (dC, dI) cls_ [(h0, .inr (6, [.ref q23, .ref q25, .ref q27, .ref q29, .null, .null, .int 0, .int 0])), (q23, .inl (cA24, 64, .inl (fun _ => 0))), (q25, .inl (cA26, 64, .inl (fun _ => 0))), (q27, .inl (cA28, 64, .inl (fun _ => 0))), (q29, .inl (cA30, 64, .inl (fun _ => 0))), (q31, .inl (cA32, 24, .inl (fun _ => 0)))] H := hP
  have hD : va_D A [(h0, .inr (6, [.ref q23, .ref q25, .ref q27, .ref q29, .null, .null, .int 0, .int 0])), (q23, .inl (cA24, 64, .inl (fun _ => 0))), (q25, .inl (cA26, 64, .inl (fun _ => 0))), (q27, .inl (cA28, 64, .inl (fun _ => 0))), (q29, .inl (cA30, 64, .inl (fun _ => 0))), (q31, .inl (cA32, 24, .inl (fun _ => 0)))] := hD
  have hK : va_K (dC, dI) cls_ [(cA24, .int), (cA26, .int), (cA28, .boolean), (cA30, .int), (cA32, .int)] s := hK
  refine va_putF (D := (dC, dI)) (ci := 6) (v := .ref q31) (ty := .array .int) (C := R_OU) (T := F_OU) (N := 8) hx hb hts in_OU t_OU t_OU_ok n_OU hown hK hP hD hS 0 rfl rfl 4 (by decide) (hts _ (List.mem_cons_of_mem _ w_210)) (fun _ h9 => h9) rfl hin rfl (by decide +kernel) rfl rfl (Nat.le_of_ble_eq_true rfl) d_OU_init_41 (fun H locs hP hD hS => ?_)
  have hP : va_P (dC, dI) cls_ [(h0, .inr (6, [.ref q23, .ref q25, .ref q27, .ref q29, .ref q31, .null, .int 0, .int 0])), (q23, .inl (cA24, 64, .inl (fun _ => 0))), (q25, .inl (cA26, 64, .inl (fun _ => 0))), (q27, .inl (cA28, 64, .inl (fun _ => 0))), (q29, .inl (cA30, 64, .inl (fun _ => 0))), (q31, .inl (cA32, 24, .inl (fun _ => 0)))] H := hP
  have hD : va_D A [(h0, .inr (6, [.ref q23, .ref q25, .ref q27, .ref q29, .ref q31, .null, .int 0, .int 0])), (q23, .inl (cA24, 64, .inl (fun _ => 0))), (q25, .inl (cA26, 64, .inl (fun _ => 0))), (q27, .inl (cA28, 64, .inl (fun _ => 0))), (q29, .inl (cA30, 64, .inl (fun _ => 0))), (q31, .inl (cA32, 24, .inl (fun _ => 0)))] := hD
  refine lv_aload_n hx hb d_OU_init_44 rfl (lv_at hl 0 rfl) ?_
  refine va_new (ci := 5) (fs := [.int 0, .int 0, .int 0, .int 0, .int 0, .int 0]) (C := R_MO) (T := F_MO) (N := 6) hx hb hts in_MO t_MO t_MO_ok hown (hts _ (List.mem_cons_of_mem _ w_172)) (hts _ (List.mem_cons_of_mem _ w_173)) (hts _ (List.mem_cons_of_mem _ w_8)) hK hP hD hS hA rfl (fun j hj => by rcases (show j = 0 ∨ j = 1 ∨ j = 2 ∨ j = 3 ∨ j = 4 ∨ j = 5 by omega) with rfl | rfl | rfl | rfl | rfl | rfl <;> rfl) (Nat.le_of_ble_eq_true rfl) (Nat.le_of_ble_eq_true rfl) d_OU_init_45 (fun q33 H hP hD hS => ?_)
  have hP : va_P (dC, dI) cls_ [(h0, .inr (6, [.ref q23, .ref q25, .ref q27, .ref q29, .ref q31, .null, .int 0, .int 0])), (q23, .inl (cA24, 64, .inl (fun _ => 0))), (q25, .inl (cA26, 64, .inl (fun _ => 0))), (q27, .inl (cA28, 64, .inl (fun _ => 0))), (q29, .inl (cA30, 64, .inl (fun _ => 0))), (q31, .inl (cA32, 24, .inl (fun _ => 0))), (q33, .inr (5, [.int 0, .int 0, .int 0, .int 0, .int 0, .int 0]))] H := hP
  have hD : va_D A [(h0, .inr (6, [.ref q23, .ref q25, .ref q27, .ref q29, .ref q31, .null, .int 0, .int 0])), (q23, .inl (cA24, 64, .inl (fun _ => 0))), (q25, .inl (cA26, 64, .inl (fun _ => 0))), (q27, .inl (cA28, 64, .inl (fun _ => 0))), (q29, .inl (cA30, 64, .inl (fun _ => 0))), (q31, .inl (cA32, 24, .inl (fun _ => 0))), (q33, .inr (5, [.int 0, .int 0, .int 0, .int 0, .int 0, .int 0]))] := hD
  refine lv_dup hx hb d_OU_init_48 rfl ?_
  have hPc := hP.sub (ws' := [(q33, .inr (5, [.int 0, .int 0, .int 0, .int 0, .int 0, .int 0]))]) [6] rfl
  have hDc := hD.sub (ws' := [(q33, .inr (5, [.int 0, .int 0, .int 0, .int 0, .int 0, .int 0]))]) [6] (by decide) rfl
  have hKc := hK.sub (tys' := []) [] rfl
  have hFc := va_free (wc := [(q33, .inr (5, [.int 0, .int 0, .int 0, .int 0, .int 0, .int 0]))]) hD hS hA [6] rfl
  refine va_callv (va_runI (As := []) (rest := [.ref q33, .ref h0]) ⟨hx, hb, hml, hown, hts⟩ (c_MO_init l dC dI q33 H.size) (cwI 0 hts (tw_in w_176) rfl rfl rfl (hts _ (List.mem_cons_of_mem _ w_8)) (hts _ (List.mem_cons_of_mem _ w_174)) (hts _ (List.mem_cons_of_mem _ w_175)) rfl (by decide +kernel) ⟨Nat.le_of_ble_eq_true rfl, Nat.le_of_ble_eq_true rfl⟩) ⟨fun a U g mk q => by obtain ⟨q0, q1, qP, qK, qD⟩ := q; exact ⟨q0, q1, qP, va_K.moved (u := U) (U := U.calling g mk a) (Vm.Alike.refl U.vm) qK, qD⟩, fun U hU hW => ⟨rfl, by rw [hU], by rw [hU]; exact hPc, va_K.moved hW.alike hKc, hDc.weaken (fun _ _ _ _ => trivial)⟩⟩ rfl rfl hl.1 rfl (lv_room (Nat.le_of_ble_eq_true rfl)) d_OU_init_49 ⟨Nat.le_of_ble_eq_true rfl, Nat.le_of_ble_eq_true rfl⟩) hS (fun q _ h => hFc q h) hFc (fun u t H1 locs ht hvm hw hB hz1 hk1 hS => ?_)
  have hP1 : va_P (dC, dI) cls_ [] H1 := fun k q h => by simp at h
  have hD1 : va_D (va_A [(q33, .inr (5, [.int 0, .int 0, .int 0, .int 0, .int 0, .int 0]))] H.size) [] := ⟨fun i j p q h => by simp at h, fun k q h => by simp at h⟩
  obtain ⟨hP, hD⟩ := va_join (wr := [(h0, .inr (6, [.ref q23, .ref q25, .ref q27, .ref q29, .ref q31, .null, .int 0, .int 0])), (q23, .inl (cA24, 64, .inl (fun _ => 0))), (q25, .inl (cA26, 64, .inl (fun _ => 0))), (q27, .inl (cA28, 64, .inl (fun _ => 0))), (q29, .inl (cA30, 64, .inl (fun _ => 0))), (q31, .inl (cA32, 24, .inl (fun _ => 0)))]) (w1 := []) hP hD [6] [0, 1, 2, 3, 4, 5] rfl rfl (by decide) (by decide) hk1 hFc hP1 hD1
  generalize H1 = H at hP hS ⊢
  have hP : va_P (dC, dI) cls_ [(h0, .inr (6, [.ref q23, .ref q25, .ref q27, .ref q29, .ref q31, .null, .int 0, .int 0])), (q23, .inl (cA24, 64, .inl (fun _ => 0))), (q25, .inl (cA26, 64, .inl (fun _ => 0))), (q27, .inl (cA28, 64, .inl (fun _ => 0))), (q29, .inl (cA30, 64, .inl (fun _ => 0))), (q31, .inl (cA32, 24, .inl (fun _ => 0)))] H := hP
  have hD : va_D A [(h0, .inr (6, [.ref q23, .ref q25, .ref q27, .ref q29, .ref q31, .null, .int 0, .int 0])), (q23, .inl (cA24, 64, .inl (fun _ => 0))), (q25, .inl (cA26, 64, .inl (fun _ => 0))), (q27, .inl (cA28, 64, .inl (fun _ => 0))), (q29, .inl (cA30, 64, .inl (fun _ => 0))), (q31, .inl (cA32, 24, .inl (fun _ => 0)))] := hD
  refine va_putF (D := (dC, dI)) (ci := 6) (v := .ref q33) (ty := .object "GlyphLines$Move") (C := R_OU) (T := F_OU) (N := 8) hx hb hts in_OU t_OU t_OU_ok n_OU hown hK hP hD hS 0 rfl rfl 5 (by decide) (hts _ (List.mem_cons_of_mem _ w_211)) (fun _ h9 => h9) rfl hin rfl (by decide +kernel) rfl rfl (Nat.le_of_ble_eq_true rfl) d_OU_init_52 (fun H locs hP hD hS => ?_)
  have hP : va_P (dC, dI) cls_ [(h0, .inr (6, [.ref q23, .ref q25, .ref q27, .ref q29, .ref q31, .ref q33, .int 0, .int 0])), (q23, .inl (cA24, 64, .inl (fun _ => 0))), (q25, .inl (cA26, 64, .inl (fun _ => 0))), (q27, .inl (cA28, 64, .inl (fun _ => 0))), (q29, .inl (cA30, 64, .inl (fun _ => 0))), (q31, .inl (cA32, 24, .inl (fun _ => 0)))] H := hP
  have hD : va_D A [(h0, .inr (6, [.ref q23, .ref q25, .ref q27, .ref q29, .ref q31, .ref q33, .int 0, .int 0])), (q23, .inl (cA24, 64, .inl (fun _ => 0))), (q25, .inl (cA26, 64, .inl (fun _ => 0))), (q27, .inl (cA28, 64, .inl (fun _ => 0))), (q29, .inl (cA30, 64, .inl (fun _ => 0))), (q31, .inl (cA32, 24, .inl (fun _ => 0)))] := hD
  refine lv_aload_n hx hb d_OU_init_55 rfl (lv_at hl 0 rfl) ?_
  refine lv_iconst (v := 0) hx hb d_OU_init_56 (by decide) ?_
  refine va_put (D := (dC, dI)) (ci := 6) (v := .int 0) (ty := .int) (C := R_OU) (T := F_OU) (N := 8) hx hb hts in_OU t_OU t_OU_ok n_OU hown hK hP hD hS 0 rfl rfl 6 (by decide) (hts _ (List.mem_cons_of_mem _ w_212)) (fun _ h9 => h9) rfl  (by decide +kernel) rfl rfl (Nat.le_of_ble_eq_true rfl) d_OU_init_57 (fun H locs hP hD hS => ?_)
  have hP : va_P (dC, dI) cls_ [(h0, .inr (6, [.ref q23, .ref q25, .ref q27, .ref q29, .ref q31, .ref q33, .int 0, .int 0])), (q23, .inl (cA24, 64, .inl (fun _ => 0))), (q25, .inl (cA26, 64, .inl (fun _ => 0))), (q27, .inl (cA28, 64, .inl (fun _ => 0))), (q29, .inl (cA30, 64, .inl (fun _ => 0))), (q31, .inl (cA32, 24, .inl (fun _ => 0)))] H := hP
  have hD : va_D A [(h0, .inr (6, [.ref q23, .ref q25, .ref q27, .ref q29, .ref q31, .ref q33, .int 0, .int 0])), (q23, .inl (cA24, 64, .inl (fun _ => 0))), (q25, .inl (cA26, 64, .inl (fun _ => 0))), (q27, .inl (cA28, 64, .inl (fun _ => 0))), (q29, .inl (cA30, 64, .inl (fun _ => 0))), (q31, .inl (cA32, 24, .inl (fun _ => 0)))] := hD
  refine lv_aload_n hx hb d_OU_init_60 rfl (lv_at hl 0 rfl) ?_
  refine lv_iconst (v := 0) hx hb d_OU_init_61 (by decide) ?_
  refine va_put (D := (dC, dI)) (ci := 6) (v := .int 0) (ty := .int) (C := R_OU) (T := F_OU) (N := 8) hx hb hts in_OU t_OU t_OU_ok n_OU hown hK hP hD hS 0 rfl rfl 7 (by decide) (hts _ (List.mem_cons_of_mem _ w_215)) (fun _ h9 => h9) rfl  (by decide +kernel) rfl rfl (Nat.le_of_ble_eq_true rfl) d_OU_init_62 (fun H locs hP hD hS => ?_)
  have hP : va_P (dC, dI) cls_ [(h0, .inr (6, [.ref q23, .ref q25, .ref q27, .ref q29, .ref q31, .ref q33, .int 0, .int 0])), (q23, .inl (cA24, 64, .inl (fun _ => 0))), (q25, .inl (cA26, 64, .inl (fun _ => 0))), (q27, .inl (cA28, 64, .inl (fun _ => 0))), (q29, .inl (cA30, 64, .inl (fun _ => 0))), (q31, .inl (cA32, 24, .inl (fun _ => 0)))] H := hP
  have hD : va_D A [(h0, .inr (6, [.ref q23, .ref q25, .ref q27, .ref q29, .ref q31, .ref q33, .int 0, .int 0])), (q23, .inl (cA24, 64, .inl (fun _ => 0))), (q25, .inl (cA26, 64, .inl (fun _ => 0))), (q27, .inl (cA28, 64, .inl (fun _ => 0))), (q29, .inl (cA30, 64, .inl (fun _ => 0))), (q31, .inl (cA32, 24, .inl (fun _ => 0)))] := hD
  refine W.widen (k := 6) (n := 286) (Nat.le_of_ble_eq_true rfl) (Nat.le_of_ble_eq_true rfl) ?_
  exact W.vret hx hb hr (fun t ht hW => ⟨⟨(), rfl, trivial, trivial⟩, hS.F ht⟩) hS.2.2 d_OU_init_65
set_option maxHeartbeats 4000000 in
set_option maxRecDepth 100000 in
/-- GlyphLines$Picture.<init> -/
theorem c_PI_init (l : Launch) (dC : Nat → ClassId) (dI : Nat → Nat → Nat) (h0 : Nat) (sz : Nat) : Met l y_PI_init s_PI_init ({ frames := 10, cells := 2, slots := 1176, locals := 300 }) (va_Pc [.ref h0] (fun U => U.heap.size = sz ∧ va_P (dC, dI) cls_ [(h0, .inr (7, [.null, .null]))] U.heap ∧ va_K (dC, dI) cls_ [] U ∧ va_D (fun _ => True) [(h0, .inr (7, [.null, .null]))])) (va_Qv (fun _ : Unit => True) (fun (_ : Unit) (t : State) => ∃ q1 q2 cA, va_P (dC, dI) cls_ [(h0, .inr (7, [.ref q1, .ref q2])), (q1, .inl (cA, 24, .inr (.inl (fun _ => 0))))] t.heap ∧ va_K (dC, dI) cls_ [(cA, .long)] t ∧ va_D (va_A [(h0, .inr (7, [.null, .null]))] sz) [(h0, .inr (7, [.ref q1, .ref q2])), (q1, .inl (cA, 24, .inr (.inl (fun _ => 0))))]) (va_A [(h0, .inr (7, [.null, .null]))] sz)) 2 1176 (va_A [(h0, .inr (7, [.null, .null]))] sz) := by
  refine Met.ofW (cc := b_PI_init) (maxL := 1) (ret := none) (by decide) rfl ?_
  intro p e s m args below meth c s₁ B hml hv
  obtain ⟨rfl, hsz, hP, hK, hD0⟩ := hv
  have hx := B.exec
  have hb := B.bytes
  have hr := B.returns
  have hts := atoms_spec (ws := s_PI_init) B.pre
  have hown : s.vm.findClass R_PI = some m.cls := findClass_of_methodNamed B.named
  have hlocks := B.notSynchronized
  have hin : meth.name = "<init>" := (name_of_methodNamed B.named B.method).1
  subst hsz
  have hD := hD0.self (sz := s.heap.size)
  generalize hAe : va_A [(h0, .inr (7, [.null, .null]))] s.heap.size = A at hD ⊢
  have hA : ∀ q : Nat, s.heap.size ≤ q → A q := fun q h => by rw [← hAe]; exact Or.inr h
  have hS : va_S A s.heap s.heap [] := va_S.rf
  have hP : va_P (dC, dI) cls_ [(h0, .inr (7, [.null, .null]))] s.heap := hP
  have hl := lv_entry ([.ref h0]) (n := 1) (Nat.le_of_ble_eq_true rfl)
  rw [lg_entry_eq]
  generalize (lg_sl ([.ref h0]) ++ List.replicate (1 - (lg_sl ([.ref h0])).length) Slot.unset).toArray = ls at hl ⊢
  have hl : lv_has ls 1 [(0, .ref h0)] := hl
  refine lv_aload_n hx hb d_PI_init_0 rfl (lv_at hl 0 rfl) ?_
  refine W.objInit hx hb hown (hts _ (List.mem_cons_of_mem _ w_239)) (hts _ (List.mem_cons_of_mem _ w_28)) (hts _ (List.mem_cons_of_mem _ w_29)) rfl (by rw [hml]; exact hl.1) rfl d_PI_init_1 (Nat.le_of_ble_eq_true rfl) (Nat.le_of_ble_eq_true rfl) ?_
  refine W.eq (g2 := F0 m 4 ls []) rfl ?_
  refine lv_aload_n hx hb d_PI_init_4 rfl (lv_at hl 0 rfl) ?_
  refine lv_bipush (v := 24) hx hb d_PI_init_5 (by decide) ?_
  refine va_newa (atype := .long) (a0 := (24, .inr (.inl (fun _ => 0)))) (ty := .long) (N' := 24) hx hb (hts _ (List.mem_cons_of_mem _ w_248)) rfl hK hP hD hS hA (fun _ => rfl) (by decide +kernel) (by decide +kernel) (by decide +kernel) (Nat.le_of_ble_eq_true rfl) (Nat.le_of_ble_eq_true rfl) d_PI_init_7 (fun q34 cA35 H hK hP hD hS => ?_)
  have hP : va_P (dC, dI) cls_ [(h0, .inr (7, [.null, .null])), (q34, .inl (cA35, 24, .inr (.inl (fun _ => 0))))] H := hP
  have hD : va_D A [(h0, .inr (7, [.null, .null])), (q34, .inl (cA35, 24, .inr (.inl (fun _ => 0))))] := hD
  have hK : va_K (dC, dI) cls_ [(cA35, .long)] s := hK
  refine va_putF (D := (dC, dI)) (ci := 7) (v := .ref q34) (ty := .array .long) (C := R_PI) (T := F_PI) (N := 2) hx hb hts in_PI t_PI t_PI_ok n_PI hown hK hP hD hS 0 rfl rfl 0 (by decide) (hts _ (List.mem_cons_of_mem _ w_240)) (fun _ h9 => h9) rfl hin rfl (by decide +kernel) rfl rfl (Nat.le_of_ble_eq_true rfl) d_PI_init_9 (fun H locs hP hD hS => ?_)
  have hP : va_P (dC, dI) cls_ [(h0, .inr (7, [.ref q34, .null])), (q34, .inl (cA35, 24, .inr (.inl (fun _ => 0))))] H := hP
  have hD : va_D A [(h0, .inr (7, [.ref q34, .null])), (q34, .inl (cA35, 24, .inr (.inl (fun _ => 0))))] := hD
  refine lv_aload_n hx hb d_PI_init_12 rfl (lv_at hl 0 rfl) ?_
  refine lv_sipush (v := 1152) hx hb d_PI_init_13 (by decide) ?_
  refine va_newa (atype := .int) (a0 := (1152, .inl (fun _ => 0))) (ty := .int) (N' := 1152) hx hb (hts _ (List.mem_cons_of_mem _ w_68)) rfl hK hP hD hS hA (fun _ => rfl) (by decide +kernel) (by decide +kernel) (by decide +kernel) (Nat.le_of_ble_eq_true rfl) (Nat.le_of_ble_eq_true rfl) d_PI_init_16 (fun q36 cA37 H hK hP hD hS => ?_)
  have hP : va_P (dC, dI) cls_ [(h0, .inr (7, [.ref q34, .null])), (q34, .inl (cA35, 24, .inr (.inl (fun _ => 0)))), (q36, .inl (cA37, 1152, .inl (fun _ => 0)))] H := hP
  have hD : va_D A [(h0, .inr (7, [.ref q34, .null])), (q34, .inl (cA35, 24, .inr (.inl (fun _ => 0)))), (q36, .inl (cA37, 1152, .inl (fun _ => 0)))] := hD
  have hK : va_K (dC, dI) cls_ [(cA35, .long), (cA37, .int)] s := hK
  refine va_putF (D := (dC, dI)) (ci := 7) (v := .ref q36) (ty := .array .int) (C := R_PI) (T := F_PI) (N := 2) hx hb hts in_PI t_PI t_PI_ok n_PI hown hK hP hD hS 0 rfl rfl 1 (by decide) (hts _ (List.mem_cons_of_mem _ w_242)) (fun _ h9 => h9) rfl hin rfl (by decide +kernel) rfl rfl (Nat.le_of_ble_eq_true rfl) d_PI_init_18 (fun H locs hP hD hS => ?_)
  have hP : va_P (dC, dI) cls_ [(h0, .inr (7, [.ref q34, .ref q36])), (q34, .inl (cA35, 24, .inr (.inl (fun _ => 0)))), (q36, .inl (cA37, 1152, .inl (fun _ => 0)))] H := hP
  have hD : va_D A [(h0, .inr (7, [.ref q34, .ref q36])), (q34, .inl (cA35, 24, .inr (.inl (fun _ => 0)))), (q36, .inl (cA37, 1152, .inl (fun _ => 0)))] := hD
  refine W.widen (k := 2) (n := 1176) (Nat.le_of_ble_eq_true rfl) (Nat.le_of_ble_eq_true rfl) ?_
  have hP9 := hP.sub (ws' := [(h0, .inr (7, [.ref q34, .ref q36])), (q34, .inl (cA35, 24, .inr (.inl (fun _ => 0))))]) [0, 1] rfl
  have hD9 := hD.sub (ws' := [(h0, .inr (7, [.ref q34, .ref q36])), (q34, .inl (cA35, 24, .inr (.inl (fun _ => 0))))]) [0, 1] (by decide) rfl
  have hK9 := hK.sub (tys' := [(cA35, .long)]) [0] rfl
  exact W.vret hx hb hr (fun t ht hW => ⟨⟨(), rfl, trivial, q34, q36, cA35, by rw [ht]; exact hP9, va_K.moved hW.alike hK9, hD9⟩, hS.F ht⟩) hS.2.2 d_PI_init_21
set_option maxHeartbeats 4000000 in
set_option maxRecDepth 100000 in
/-- GlyphLines$Brush.<init> -/
theorem c_BR_init (l : Launch) (dC : Nat → ClassId) (dI : Nat → Nat → Nat) (h0 qp qo : Nat) (sz : Nat) : Met l y_BR_init s_BR_init ({ frames := 10, cells := 3, slots := 144, locals := 300 }) (va_Pc [.ref h0, .ref qp, .ref qo] (fun U => U.heap.size = sz ∧ va_P (dC, dI) cls_ [(h0, .inr (8, [.null, .null, .null, .null, .null, .int 0, .int 0, .int 0, .int 0, .int 0]))] U.heap ∧ va_K (dC, dI) cls_ [] U ∧ va_D (fun _ => True) [(h0, .inr (8, [.null, .null, .null, .null, .null, .int 0, .int 0, .int 0, .int 0, .int 0]))])) (va_Qv (fun _ : Unit => True) (fun (_ : Unit) (t : State) => True) (va_A [(h0, .inr (8, [.null, .null, .null, .null, .null, .int 0, .int 0, .int 0, .int 0, .int 0]))] sz)) 3 144 (va_A [(h0, .inr (8, [.null, .null, .null, .null, .null, .int 0, .int 0, .int 0, .int 0, .int 0]))] sz) := by
  refine Met.ofW (cc := b_BR_init) (maxL := 3) (ret := none) (by decide) rfl ?_
  intro p e s m args below meth c s₁ B hml hv
  obtain ⟨rfl, hsz, hP, hK, hD0⟩ := hv
  have hx := B.exec
  have hb := B.bytes
  have hr := B.returns
  have hts := atoms_spec (ws := s_BR_init) B.pre
  have hown : s.vm.findClass R_BR = some m.cls := findClass_of_methodNamed B.named
  have hlocks := B.notSynchronized
  have hin : meth.name = "<init>" := (name_of_methodNamed B.named B.method).1
  subst hsz
  have hD := hD0.self (sz := s.heap.size)
  generalize hAe : va_A [(h0, .inr (8, [.null, .null, .null, .null, .null, .int 0, .int 0, .int 0, .int 0, .int 0]))] s.heap.size = A at hD ⊢
  have hA : ∀ q : Nat, s.heap.size ≤ q → A q := fun q h => by rw [← hAe]; exact Or.inr h
  have hS : va_S A s.heap s.heap [] := va_S.rf
  have hP : va_P (dC, dI) cls_ [(h0, .inr (8, [.null, .null, .null, .null, .null, .int 0, .int 0, .int 0, .int 0, .int 0]))] s.heap := hP
  have hl := lv_entry ([.ref h0, .ref qp, .ref qo]) (n := 3) (Nat.le_of_ble_eq_true rfl)
  rw [lg_entry_eq]
  generalize (lg_sl ([.ref h0, .ref qp, .ref qo]) ++ List.replicate (3 - (lg_sl ([.ref h0, .ref qp, .ref qo])).length) Slot.unset).toArray = ls at hl ⊢
  have hl : lv_has ls 3 [(0, .ref h0), (1, .ref qp), (2, .ref qo)] := hl
  refine lv_aload_n hx hb d_BR_init_0 rfl (lv_at hl 0 rfl) ?_
  refine W.objInit hx hb hown (hts _ (List.mem_cons_of_mem _ w_254)) (hts _ (List.mem_cons_of_mem _ w_28)) (hts _ (List.mem_cons_of_mem _ w_29)) rfl (by rw [hml]; exact hl.1) rfl d_BR_init_1 (Nat.le_of_ble_eq_true rfl) (Nat.le_of_ble_eq_true rfl) ?_
  refine W.eq (g2 := F0 m 4 ls []) rfl ?_
  refine lv_aload_n hx hb d_BR_init_4 rfl (lv_at hl 0 rfl) ?_
  refine lv_bipush (v := 48) hx hb d_BR_init_5 (by decide) ?_
  refine va_newa (atype := .int) (a0 := (48, .inl (fun _ => 0))) (ty := .int) (N' := 48) hx hb (hts _ (List.mem_cons_of_mem _ w_68)) rfl hK hP hD hS hA (fun _ => rfl) (by decide +kernel) (by decide +kernel) (by decide +kernel) (Nat.le_of_ble_eq_true rfl) (Nat.le_of_ble_eq_true rfl) d_BR_init_7 (fun q38 cA39 H hK hP hD hS => ?_)
  have hP : va_P (dC, dI) cls_ [(h0, .inr (8, [.null, .null, .null, .null, .null, .int 0, .int 0, .int 0, .int 0, .int 0])), (q38, .inl (cA39, 48, .inl (fun _ => 0)))] H := hP
  have hD : va_D A [(h0, .inr (8, [.null, .null, .null, .null, .null, .int 0, .int 0, .int 0, .int 0, .int 0])), (q38, .inl (cA39, 48, .inl (fun _ => 0)))] := hD
  have hK : va_K (dC, dI) cls_ [(cA39, .int)] s := hK
  refine va_putF (D := (dC, dI)) (ci := 8) (v := .ref q38) (ty := .array .int) (C := R_BR) (T := F_BR) (N := 10) hx hb hts in_BR t_BR t_BR_ok n_BR hown hK hP hD hS 0 rfl rfl 2 (by decide) (hts _ (List.mem_cons_of_mem _ w_257)) (fun _ h9 => h9) rfl hin rfl (by decide +kernel) rfl rfl (Nat.le_of_ble_eq_true rfl) d_BR_init_9 (fun H locs hP hD hS => ?_)
  have hP : va_P (dC, dI) cls_ [(h0, .inr (8, [.null, .null, .ref q38, .null, .null, .int 0, .int 0, .int 0, .int 0, .int 0])), (q38, .inl (cA39, 48, .inl (fun _ => 0)))] H := hP
  have hD : va_D A [(h0, .inr (8, [.null, .null, .ref q38, .null, .null, .int 0, .int 0, .int 0, .int 0, .int 0])), (q38, .inl (cA39, 48, .inl (fun _ => 0)))] := hD
  refine lv_aload_n hx hb d_BR_init_12 rfl (lv_at hl 0 rfl) ?_
  refine lv_bipush (v := 48) hx hb d_BR_init_13 (by decide) ?_
  refine va_newa (atype := .int) (a0 := (48, .inl (fun _ => 0))) (ty := .int) (N' := 48) hx hb (hts _ (List.mem_cons_of_mem _ w_68)) rfl hK hP hD hS hA (fun _ => rfl) (by decide +kernel) (by decide +kernel) (by decide +kernel) (Nat.le_of_ble_eq_true rfl) (Nat.le_of_ble_eq_true rfl) d_BR_init_15 (fun q40 cA41 H hK hP hD hS => ?_)
  have hP : va_P (dC, dI) cls_ [(h0, .inr (8, [.null, .null, .ref q38, .null, .null, .int 0, .int 0, .int 0, .int 0, .int 0])), (q38, .inl (cA39, 48, .inl (fun _ => 0))), (q40, .inl (cA41, 48, .inl (fun _ => 0)))] H := hP
  have hD : va_D A [(h0, .inr (8, [.null, .null, .ref q38, .null, .null, .int 0, .int 0, .int 0, .int 0, .int 0])), (q38, .inl (cA39, 48, .inl (fun _ => 0))), (q40, .inl (cA41, 48, .inl (fun _ => 0)))] := hD
  have hK : va_K (dC, dI) cls_ [(cA39, .int), (cA41, .int)] s := hK
  refine va_putF (D := (dC, dI)) (ci := 8) (v := .ref q40) (ty := .array .int) (C := R_BR) (T := F_BR) (N := 10) hx hb hts in_BR t_BR t_BR_ok n_BR hown hK hP hD hS 0 rfl rfl 3 (by decide) (hts _ (List.mem_cons_of_mem _ w_258)) (fun _ h9 => h9) rfl hin rfl (by decide +kernel) rfl rfl (Nat.le_of_ble_eq_true rfl) d_BR_init_17 (fun H locs hP hD hS => ?_)
  have hP : va_P (dC, dI) cls_ [(h0, .inr (8, [.null, .null, .ref q38, .ref q40, .null, .int 0, .int 0, .int 0, .int 0, .int 0])), (q38, .inl (cA39, 48, .inl (fun _ => 0))), (q40, .inl (cA41, 48, .inl (fun _ => 0)))] H := hP
  have hD : va_D A [(h0, .inr (8, [.null, .null, .ref q38, .ref q40, .null, .int 0, .int 0, .int 0, .int 0, .int 0])), (q38, .inl (cA39, 48, .inl (fun _ => 0))), (q40, .inl (cA41, 48, .inl (fun _ => 0)))] := hD
  refine lv_aload_n hx hb d_BR_init_20 rfl (lv_at hl 0 rfl) ?_
  refine lv_bipush (v := 48) hx hb d_BR_init_21 (by decide) ?_
  refine va_newa (atype := .boolean) (a0 := (48, .inl (fun _ => 0))) (ty := .boolean) (N' := 48) hx hb (hts _ (List.mem_cons_of_mem _ w_197)) rfl hK hP hD hS hA (fun _ => rfl) (by decide +kernel) (by decide +kernel) (by decide +kernel) (Nat.le_of_ble_eq_true rfl) (Nat.le_of_ble_eq_true rfl) d_BR_init_23 (fun q42 cA43 H hK hP hD hS => ?_)
  have hP : va_P (dC, dI) cls_ [(h0, .inr (8, [.null, .null, .ref q38, .ref q40, .null, .int 0, .int 0, .int 0, .int 0, .int 0])), (q38, .inl (cA39, 48, .inl (fun _ => 0))), (q40, .inl (cA41, 48, .inl (fun _ => 0))), (q42, .inl (cA43, 48, .inl (fun _ => 0)))] H := hP
  have hD : va_D A [(h0, .inr (8, [.null, .null, .ref q38, .ref q40, .null, .int 0, .int 0, .int 0, .int 0, .int 0])), (q38, .inl (cA39, 48, .inl (fun _ => 0))), (q40, .inl (cA41, 48, .inl (fun _ => 0))), (q42, .inl (cA43, 48, .inl (fun _ => 0)))] := hD
  have hK : va_K (dC, dI) cls_ [(cA39, .int), (cA41, .int), (cA43, .boolean)] s := hK
  refine va_putF (D := (dC, dI)) (ci := 8) (v := .ref q42) (ty := .array .boolean) (C := R_BR) (T := F_BR) (N := 10) hx hb hts in_BR t_BR t_BR_ok n_BR hown hK hP hD hS 0 rfl rfl 4 (by decide) (hts _ (List.mem_cons_of_mem _ w_259)) (fun _ h9 => h9) rfl hin rfl (by decide +kernel) rfl rfl (Nat.le_of_ble_eq_true rfl) d_BR_init_25 (fun H locs hP hD hS => ?_)
  have hP : va_P (dC, dI) cls_ [(h0, .inr (8, [.null, .null, .ref q38, .ref q40, .ref q42, .int 0, .int 0, .int 0, .int 0, .int 0])), (q38, .inl (cA39, 48, .inl (fun _ => 0))), (q40, .inl (cA41, 48, .inl (fun _ => 0))), (q42, .inl (cA43, 48, .inl (fun _ => 0)))] H := hP
  have hD : va_D A [(h0, .inr (8, [.null, .null, .ref q38, .ref q40, .ref q42, .int 0, .int 0, .int 0, .int 0, .int 0])), (q38, .inl (cA39, 48, .inl (fun _ => 0))), (q40, .inl (cA41, 48, .inl (fun _ => 0))), (q42, .inl (cA43, 48, .inl (fun _ => 0)))] := hD
  refine lv_aload_n hx hb d_BR_init_28 rfl (lv_at hl 0 rfl) ?_
  refine lv_iconst (v := 0) hx hb d_BR_init_29 (by decide) ?_
  refine va_put (D := (dC, dI)) (ci := 8) (v := .int 0) (ty := .int) (C := R_BR) (T := F_BR) (N := 10) hx hb hts in_BR t_BR t_BR_ok n_BR hown hK hP hD hS 0 rfl rfl 5 (by decide) (hts _ (List.mem_cons_of_mem _ w_260)) (fun _ h9 => h9) rfl  (by decide +kernel) rfl rfl (Nat.le_of_ble_eq_true rfl) d_BR_init_30 (fun H locs hP hD hS => ?_)
  have hP : va_P (dC, dI) cls_ [(h0, .inr (8, [.null, .null, .ref q38, .ref q40, .ref q42, .int 0, .int 0, .int 0, .int 0, .int 0])), (q38, .inl (cA39, 48, .inl (fun _ => 0))), (q40, .inl (cA41, 48, .inl (fun _ => 0))), (q42, .inl (cA43, 48, .inl (fun _ => 0)))] H := hP
  have hD : va_D A [(h0, .inr (8, [.null, .null, .ref q38, .ref q40, .ref q42, .int 0, .int 0, .int 0, .int 0, .int 0])), (q38, .inl (cA39, 48, .inl (fun _ => 0))), (q40, .inl (cA41, 48, .inl (fun _ => 0))), (q42, .inl (cA43, 48, .inl (fun _ => 0)))] := hD
  refine lv_aload_n hx hb d_BR_init_33 rfl (lv_at hl 0 rfl) ?_
  refine lv_iconst (v := 1) hx hb d_BR_init_34 (by decide) ?_
  refine va_put (D := (dC, dI)) (ci := 8) (v := .int 1) (ty := .int) (C := R_BR) (T := F_BR) (N := 10) hx hb hts in_BR t_BR t_BR_ok n_BR hown hK hP hD hS 0 rfl rfl 6 (by decide) (hts _ (List.mem_cons_of_mem _ w_261)) (fun _ h9 => h9) rfl  (by decide +kernel) rfl rfl (Nat.le_of_ble_eq_true rfl) d_BR_init_35 (fun H locs hP hD hS => ?_)
  have hP : va_P (dC, dI) cls_ [(h0, .inr (8, [.null, .null, .ref q38, .ref q40, .ref q42, .int 0, .int 1, .int 0, .int 0, .int 0])), (q38, .inl (cA39, 48, .inl (fun _ => 0))), (q40, .inl (cA41, 48, .inl (fun _ => 0))), (q42, .inl (cA43, 48, .inl (fun _ => 0)))] H := hP
  have hD : va_D A [(h0, .inr (8, [.null, .null, .ref q38, .ref q40, .ref q42, .int 0, .int 1, .int 0, .int 0, .int 0])), (q38, .inl (cA39, 48, .inl (fun _ => 0))), (q40, .inl (cA41, 48, .inl (fun _ => 0))), (q42, .inl (cA43, 48, .inl (fun _ => 0)))] := hD
  refine lv_aload_n hx hb d_BR_init_38 rfl (lv_at hl 0 rfl) ?_
  refine lv_iconst (v := 0) hx hb d_BR_init_39 (by decide) ?_
  refine va_put (D := (dC, dI)) (ci := 8) (v := .int 0) (ty := .int) (C := R_BR) (T := F_BR) (N := 10) hx hb hts in_BR t_BR t_BR_ok n_BR hown hK hP hD hS 0 rfl rfl 7 (by decide) (hts _ (List.mem_cons_of_mem _ w_262)) (fun _ h9 => h9) rfl  (by decide +kernel) rfl rfl (Nat.le_of_ble_eq_true rfl) d_BR_init_40 (fun H locs hP hD hS => ?_)
  have hP : va_P (dC, dI) cls_ [(h0, .inr (8, [.null, .null, .ref q38, .ref q40, .ref q42, .int 0, .int 1, .int 0, .int 0, .int 0])), (q38, .inl (cA39, 48, .inl (fun _ => 0))), (q40, .inl (cA41, 48, .inl (fun _ => 0))), (q42, .inl (cA43, 48, .inl (fun _ => 0)))] H := hP
  have hD : va_D A [(h0, .inr (8, [.null, .null, .ref q38, .ref q40, .ref q42, .int 0, .int 1, .int 0, .int 0, .int 0])), (q38, .inl (cA39, 48, .inl (fun _ => 0))), (q40, .inl (cA41, 48, .inl (fun _ => 0))), (q42, .inl (cA43, 48, .inl (fun _ => 0)))] := hD
  refine lv_aload_n hx hb d_BR_init_43 rfl (lv_at hl 0 rfl) ?_
  refine lv_iconst (v := 0) hx hb d_BR_init_44 (by decide) ?_
  refine va_put (D := (dC, dI)) (ci := 8) (v := .int 0) (ty := .int) (C := R_BR) (T := F_BR) (N := 10) hx hb hts in_BR t_BR t_BR_ok n_BR hown hK hP hD hS 0 rfl rfl 8 (by decide) (hts _ (List.mem_cons_of_mem _ w_263)) (fun _ h9 => h9) rfl  (by decide +kernel) rfl rfl (Nat.le_of_ble_eq_true rfl) d_BR_init_45 (fun H locs hP hD hS => ?_)
  have hP : va_P (dC, dI) cls_ [(h0, .inr (8, [.null, .null, .ref q38, .ref q40, .ref q42, .int 0, .int 1, .int 0, .int 0, .int 0])), (q38, .inl (cA39, 48, .inl (fun _ => 0))), (q40, .inl (cA41, 48, .inl (fun _ => 0))), (q42, .inl (cA43, 48, .inl (fun _ => 0)))] H := hP
  have hD : va_D A [(h0, .inr (8, [.null, .null, .ref q38, .ref q40, .ref q42, .int 0, .int 1, .int 0, .int 0, .int 0])), (q38, .inl (cA39, 48, .inl (fun _ => 0))), (q40, .inl (cA41, 48, .inl (fun _ => 0))), (q42, .inl (cA43, 48, .inl (fun _ => 0)))] := hD
  refine lv_aload_n hx hb d_BR_init_48 rfl (lv_at hl 0 rfl) ?_
  refine lv_iconst (v := (-1)) hx hb d_BR_init_49 (by decide) ?_
  refine va_put (D := (dC, dI)) (ci := 8) (v := .int ((-1))) (ty := .int) (C := R_BR) (T := F_BR) (N := 10) hx hb hts in_BR t_BR t_BR_ok n_BR hown hK hP hD hS 0 rfl rfl 9 (by decide) (hts _ (List.mem_cons_of_mem _ w_265)) (fun _ h9 => h9) rfl  (by decide +kernel) rfl rfl (Nat.le_of_ble_eq_true rfl) d_BR_init_50 (fun H locs hP hD hS => ?_)
  have hP : va_P (dC, dI) cls_ [(h0, .inr (8, [.null, .null, .ref q38, .ref q40, .ref q42, .int 0, .int 1, .int 0, .int 0, .int ((-1))])), (q38, .inl (cA39, 48, .inl (fun _ => 0))), (q40, .inl (cA41, 48, .inl (fun _ => 0))), (q42, .inl (cA43, 48, .inl (fun _ => 0)))] H := hP
  have hD : va_D A [(h0, .inr (8, [.null, .null, .ref q38, .ref q40, .ref q42, .int 0, .int 1, .int 0, .int 0, .int ((-1))])), (q38, .inl (cA39, 48, .inl (fun _ => 0))), (q40, .inl (cA41, 48, .inl (fun _ => 0))), (q42, .inl (cA43, 48, .inl (fun _ => 0)))] := hD
  refine lv_aload_n hx hb d_BR_init_53 rfl (lv_at hl 0 rfl) ?_
  refine lv_aload_n hx hb d_BR_init_54 rfl (lv_at hl 1 rfl) ?_
  refine va_putF (D := (dC, dI)) (ci := 8) (v := .ref qp) (ty := .object "GlyphLines$Picture") (C := R_BR) (T := F_BR) (N := 10) hx hb hts in_BR t_BR t_BR_ok n_BR hown hK hP hD hS 0 rfl rfl 0 (by decide) (hts _ (List.mem_cons_of_mem _ w_255)) (fun _ h9 => h9) rfl hin rfl (by decide +kernel) rfl rfl (Nat.le_of_ble_eq_true rfl) d_BR_init_55 (fun H locs hP hD hS => ?_)
  have hP : va_P (dC, dI) cls_ [(h0, .inr (8, [.ref qp, .null, .ref q38, .ref q40, .ref q42, .int 0, .int 1, .int 0, .int 0, .int ((-1))])), (q38, .inl (cA39, 48, .inl (fun _ => 0))), (q40, .inl (cA41, 48, .inl (fun _ => 0))), (q42, .inl (cA43, 48, .inl (fun _ => 0)))] H := hP
  have hD : va_D A [(h0, .inr (8, [.ref qp, .null, .ref q38, .ref q40, .ref q42, .int 0, .int 1, .int 0, .int 0, .int ((-1))])), (q38, .inl (cA39, 48, .inl (fun _ => 0))), (q40, .inl (cA41, 48, .inl (fun _ => 0))), (q42, .inl (cA43, 48, .inl (fun _ => 0)))] := hD
  refine lv_aload_n hx hb d_BR_init_58 rfl (lv_at hl 0 rfl) ?_
  refine lv_aload_n hx hb d_BR_init_59 rfl (lv_at hl 2 rfl) ?_
  refine va_putF (D := (dC, dI)) (ci := 8) (v := .ref qo) (ty := .object "GlyphLines$Outline") (C := R_BR) (T := F_BR) (N := 10) hx hb hts in_BR t_BR t_BR_ok n_BR hown hK hP hD hS 0 rfl rfl 1 (by decide) (hts _ (List.mem_cons_of_mem _ w_256)) (fun _ h9 => h9) rfl hin rfl (by decide +kernel) rfl rfl (Nat.le_of_ble_eq_true rfl) d_BR_init_60 (fun H locs hP hD hS => ?_)
  have hP : va_P (dC, dI) cls_ [(h0, .inr (8, [.ref qp, .ref qo, .ref q38, .ref q40, .ref q42, .int 0, .int 1, .int 0, .int 0, .int ((-1))])), (q38, .inl (cA39, 48, .inl (fun _ => 0))), (q40, .inl (cA41, 48, .inl (fun _ => 0))), (q42, .inl (cA43, 48, .inl (fun _ => 0)))] H := hP
  have hD : va_D A [(h0, .inr (8, [.ref qp, .ref qo, .ref q38, .ref q40, .ref q42, .int 0, .int 1, .int 0, .int 0, .int ((-1))])), (q38, .inl (cA39, 48, .inl (fun _ => 0))), (q40, .inl (cA41, 48, .inl (fun _ => 0))), (q42, .inl (cA43, 48, .inl (fun _ => 0)))] := hD
  refine W.widen (k := 3) (n := 144) (Nat.le_of_ble_eq_true rfl) (Nat.le_of_ble_eq_true rfl) ?_
  exact W.vret hx hb hr (fun t ht hW => ⟨⟨(), rfl, trivial, trivial⟩, hS.F ht⟩) hS.2.2 d_BR_init_63
end
section
set_option maxHeartbeats 4000000 in
set_option maxRecDepth 100000 in
/-- GlyphLines.<init> -/
theorem c_GL_init (l : Launch) (dC : Nat → ClassId) (dI : Nat → Nat → Nat) (h0 : Nat) (sz : Nat) : Met l y_GL_init s_GL_init ({ frames := 14, cells := 54, slots := 5394, locals := 500 }) (va_Pc [.ref h0] (fun U => U.heap.size = sz ∧ va_P (dC, dI) cls_ [(h0, .inr (9, [.null, .int 0, .null, .null, .int 0, .null, .null, .null, .null, .int 0]))] U.heap ∧ va_K (dC, dI) cls_ [] U ∧ va_D (fun _ => True) [(h0, .inr (9, [.null, .int 0, .null, .null, .int 0, .null, .null, .null, .null, .int 0]))] ∧ va_AO "GlyphLines$Span" U)) (va_Qv (fun _ : Unit => True) (fun (_ : Unit) (t : State) => ∃ qf a2 a3 a5 a6 a7 qx f0 f1 f2 f3 f4 f5 f6 f7 f8 f9 f10 qw qt qr qs cF cA cB cX, va_P (dC, dI) cls_ [(h0, .inr (9, [.ref qf, .int 0, .ref a2, .ref a3, .int 0, .ref a5, .ref a6, .ref a7, .ref qx, .int 0])), (qf, .inl (cF, 1200, .inl (fun _ => 0))), (a3, .inr (4, [.ref f0, .ref f1, .ref f2, .ref f3, .ref f4, .ref f5, .ref f6, .ref f7, .ref f8, .ref f9, .ref f10, .int 64, .int 0, .int 0, .int 0])), (f0, .inl (cA, 1200, .inl (fun _ => 0))), (f1, .inr (2, [.ref qw, .ref qt, .int 0])), (qw, .inr (0, [.ref f0, .int 0, .int 0, .int 0])), (a6, .inr (7, [.ref qr, .ref qs])), (qr, .inl (cB, 24, .inr (.inl (fun _ => 0)))), (qx, .inl (cX, 12, .inl (fun _ => 0)))] t.heap ∧ va_K (dC, dI) cls_ [(cF, .int), (cA, .int), (cB, .long), (cX, .int)] t ∧ va_D (va_A [(h0, .inr (9, [.null, .int 0, .null, .null, .int 0, .null, .null, .null, .null, .int 0]))] sz) [(h0, .inr (9, [.ref qf, .int 0, .ref a2, .ref a3, .int 0, .ref a5, .ref a6, .ref a7, .ref qx, .int 0])), (qf, .inl (cF, 1200, .inl (fun _ => 0))), (a3, .inr (4, [.ref f0, .ref f1, .ref f2, .ref f3, .ref f4, .ref f5, .ref f6, .ref f7, .ref f8, .ref f9, .ref f10, .int 64, .int 0, .int 0, .int 0])), (f0, .inl (cA, 1200, .inl (fun _ => 0))), (f1, .inr (2, [.ref qw, .ref qt, .int 0])), (qw, .inr (0, [.ref f0, .int 0, .int 0, .int 0])), (a6, .inr (7, [.ref qr, .ref qs])), (qr, .inl (cB, 24, .inr (.inl (fun _ => 0)))), (qx, .inl (cX, 12, .inl (fun _ => 0)))]) (va_A [(h0, .inr (9, [.null, .int 0, .null, .null, .int 0, .null, .null, .null, .null, .int 0]))] sz)) 54 5394 (va_A [(h0, .inr (9, [.null, .int 0, .null, .null, .int 0, .null, .null, .null, .null, .int 0]))] sz) := by
  refine Met.ofW (cc := b_GL_init) (maxL := 1) (ret := none) (by decide) rfl ?_
  intro p e s m args below meth c s₁ B hml hv
  obtain ⟨rfl, hsz, hP, hK, hD0, hO⟩ := hv
  have hx := B.exec
  have hb := B.bytes
  have hr := B.returns
  have hts := atoms_spec (ws := s_GL_init) B.pre
  have hown : s.vm.findClass R_GL = some m.cls := findClass_of_methodNamed B.named
  have hlocks := B.notSynchronized
  have hin : meth.name = "<init>" := (name_of_methodNamed B.named B.method).1
  subst hsz
  have hD := hD0.self (sz := s.heap.size)
  generalize hAe : va_A [(h0, .inr (9, [.null, .int 0, .null, .null, .int 0, .null, .null, .null, .null, .int 0]))] s.heap.size = A at hD ⊢
  have hA : ∀ q : Nat, s.heap.size ≤ q → A q := fun q h => by rw [← hAe]; exact Or.inr h
  have hS : va_S A s.heap s.heap [] := va_S.rf
  have hP : va_P (dC, dI) cls_ [(h0, .inr (9, [.null, .int 0, .null, .null, .int 0, .null, .null, .null, .null, .int 0]))] s.heap := hP
  have hl := lv_entry ([.ref h0]) (n := 1) (Nat.le_of_ble_eq_true rfl)
  rw [lg_entry_eq]
  generalize (lg_sl ([.ref h0]) ++ List.replicate (1 - (lg_sl ([.ref h0])).length) Slot.unset).toArray = ls at hl ⊢
  have hl : lv_has ls 1 [(0, .ref h0)] := hl
  refine lv_aload_n hx hb d_GL_init_0 rfl (lv_at hl 0 rfl) ?_
  refine W.objInit hx hb hown (hts _ (List.mem_cons_of_mem _ w_27)) (hts _ (List.mem_cons_of_mem _ w_28)) (hts _ (List.mem_cons_of_mem _ w_29)) rfl (by rw [hml]; exact hl.1) rfl d_GL_init_1 (Nat.le_of_ble_eq_true rfl) (Nat.le_of_ble_eq_true rfl) ?_
  refine W.eq (g2 := F0 m 4 ls []) rfl ?_
  refine lv_aload_n hx hb d_GL_init_4 rfl (lv_at hl 0 rfl) ?_
  refine lv_sipush (v := 1200) hx hb d_GL_init_5 (by decide) ?_
  refine va_newa (atype := .int) (a0 := (1200, .inl (fun _ => 0))) (ty := .int) (N' := 1200) hx hb (hts _ (List.mem_cons_of_mem _ w_68)) rfl hK hP hD hS hA (fun _ => rfl) (by decide +kernel) (by decide +kernel) (by decide +kernel) (Nat.le_of_ble_eq_true rfl) (Nat.le_of_ble_eq_true rfl) d_GL_init_8 (fun q44 cA45 H hK hP hD hS => ?_)
  have hP : va_P (dC, dI) cls_ [(h0, .inr (9, [.null, .int 0, .null, .null, .int 0, .null, .null, .null, .null, .int 0])), (q44, .inl (cA45, 1200, .inl (fun _ => 0)))] H := hP
  have hD : va_D A [(h0, .inr (9, [.null, .int 0, .null, .null, .int 0, .null, .null, .null, .null, .int 0])), (q44, .inl (cA45, 1200, .inl (fun _ => 0)))] := hD
  have hK : va_K (dC, dI) cls_ [(cA45, .int)] s := hK
  refine va_putF (D := (dC, dI)) (ci := 9) (v := .ref q44) (ty := .array .int) (C := R_GL) (T := F_GL) (N := 10) hx hb hts in_GL t_GL t_GL_ok n_GL hown hK hP hD hS 0 rfl rfl 0 (by decide) (hts _ (List.mem_cons_of_mem _ w_287)) (fun _ h9 => h9) rfl hin rfl (by decide +kernel) rfl rfl (Nat.le_of_ble_eq_true rfl) d_GL_init_10 (fun H locs hP hD hS => ?_)
  have hP : va_P (dC, dI) cls_ [(h0, .inr (9, [.ref q44, .int 0, .null, .null, .int 0, .null, .null, .null, .null, .int 0])), (q44, .inl (cA45, 1200, .inl (fun _ => 0)))] H := hP
  have hD : va_D A [(h0, .inr (9, [.ref q44, .int 0, .null, .null, .int 0, .null, .null, .null, .null, .int 0])), (q44, .inl (cA45, 1200, .inl (fun _ => 0)))] := hD
  refine lv_aload_n hx hb d_GL_init_13 rfl (lv_at hl 0 rfl) ?_
  refine lv_iconst (v := 0) hx hb d_GL_init_14 (by decide) ?_
  refine va_put (D := (dC, dI)) (ci := 9) (v := .int 0) (ty := .int) (C := R_GL) (T := F_GL) (N := 10) hx hb hts in_GL t_GL t_GL_ok n_GL hown hK hP hD hS 0 rfl rfl 1 (by decide) (hts _ (List.mem_cons_of_mem _ w_288)) (fun _ h9 => h9) rfl  (by decide +kernel) rfl rfl (Nat.le_of_ble_eq_true rfl) d_GL_init_15 (fun H locs hP hD hS => ?_)
  have hP : va_P (dC, dI) cls_ [(h0, .inr (9, [.ref q44, .int 0, .null, .null, .int 0, .null, .null, .null, .null, .int 0])), (q44, .inl (cA45, 1200, .inl (fun _ => 0)))] H := hP
  have hD : va_D A [(h0, .inr (9, [.ref q44, .int 0, .null, .null, .int 0, .null, .null, .null, .null, .int 0])), (q44, .inl (cA45, 1200, .inl (fun _ => 0)))] := hD
  refine lv_aload_n hx hb d_GL_init_18 rfl (lv_at hl 0 rfl) ?_
  refine va_new (ci := 4) (fs := [.null, .null, .null, .null, .null, .null, .null, .null, .null, .null, .null, .int 0, .int 0, .int 0, .int 0]) (C := R_FO) (T := F_FO) (N := 15) hx hb hts in_FO t_FO t_FO_ok hown (hts _ (List.mem_cons_of_mem _ w_30)) (hts _ (List.mem_cons_of_mem _ w_31)) (hts _ (List.mem_cons_of_mem _ w_2)) hK hP hD hS hA rfl (fun j hj => by rcases (show j = 0 ∨ j = 1 ∨ j = 2 ∨ j = 3 ∨ j = 4 ∨ j = 5 ∨ j = 6 ∨ j = 7 ∨ j = 8 ∨ j = 9 ∨ j = 10 ∨ j = 11 ∨ j = 12 ∨ j = 13 ∨ j = 14 by omega) with rfl | rfl | rfl | rfl | rfl | rfl | rfl | rfl | rfl | rfl | rfl | rfl | rfl | rfl | rfl <;> rfl) (Nat.le_of_ble_eq_true rfl) (Nat.le_of_ble_eq_true rfl) d_GL_init_19 (fun q46 H hP hD hS => ?_)
  have hP : va_P (dC, dI) cls_ [(h0, .inr (9, [.ref q44, .int 0, .null, .null, .int 0, .null, .null, .null, .null, .int 0])), (q44, .inl (cA45, 1200, .inl (fun _ => 0))), (q46, .inr (4, [.null, .null, .null, .null, .null, .null, .null, .null, .null, .null, .null, .int 0, .int 0, .int 0, .int 0]))] H := hP
  have hD : va_D A [(h0, .inr (9, [.ref q44, .int 0, .null, .null, .int 0, .null, .null, .null, .null, .int 0])), (q44, .inl (cA45, 1200, .inl (fun _ => 0))), (q46, .inr (4, [.null, .null, .null, .null, .null, .null, .null, .null, .null, .null, .null, .int 0, .int 0, .int 0, .int 0]))] := hD
  refine lv_dup hx hb d_GL_init_22 rfl ?_
  have hPc := hP.sub (ws' := [(q46, .inr (4, [.null, .null, .null, .null, .null, .null, .null, .null, .null, .null, .null, .int 0, .int 0, .int 0, .int 0]))]) [2] rfl
  have hDc := hD.sub (ws' := [(q46, .inr (4, [.null, .null, .null, .null, .null, .null, .null, .null, .null, .null, .null, .int 0, .int 0, .int 0, .int 0]))]) [2] (by decide) rfl
  have hKc := hK.sub (tys' := []) [] rfl
  have hFc := va_free (wc := [(q46, .inr (4, [.null, .null, .null, .null, .null, .null, .null, .null, .null, .null, .null, .int 0, .int 0, .int 0, .int 0]))]) hD hS hA [2] rfl
  refine va_callv (va_runI (As := []) (rest := [.ref q46, .ref h0]) ⟨hx, hb, hml, hown, hts⟩ (c_FO_init l dC dI q46 H.size) (cwI 0 hts (tw_in w_34) rfl rfl rfl (hts _ (List.mem_cons_of_mem _ w_2)) (hts _ (List.mem_cons_of_mem _ w_32)) (hts _ (List.mem_cons_of_mem _ w_33)) rfl (by decide +kernel) ⟨Nat.le_of_ble_eq_true rfl, Nat.le_of_ble_eq_true rfl⟩) ⟨fun a U g mk q => by obtain ⟨q0, q1, qP, qK, qD, qE0⟩ := q; exact ⟨q0, q1, qP, va_K.moved (u := U) (U := U.calling g mk a) (Vm.Alike.refl U.vm) qK, qD, va_AO.moved (u := U) (U := U.calling g mk a) (Vm.Alike.refl U.vm) qE0⟩, fun U hU hW => ⟨rfl, by rw [hU], by rw [hU]; exact hPc, va_K.moved hW.alike hKc, hDc.weaken (fun _ _ _ _ => trivial), va_AO.moved hW.alike hO⟩⟩ rfl rfl hl.1 rfl (lv_room (Nat.le_of_ble_eq_true rfl)) d_GL_init_23 ⟨Nat.le_of_ble_eq_true rfl, Nat.le_of_ble_eq_true rfl⟩) hS (fun q _ h => hFc q h) hFc (fun u t H1 locs ht hvm hw hB hz1 hk1 hS => ?_)
  obtain ⟨f47, f48, f49, f50, f51, f52, f53, f54, f55, f56, f57, qw58, qt59, cA60, hP1, hK1, hD1⟩ := hB
  rw [ht] at hP1
  have hK1 := va_K.moved hvm.symm hK1
  obtain ⟨hP, hD⟩ := va_join (wr := [(h0, .inr (9, [.ref q44, .int 0, .null, .null, .int 0, .null, .null, .null, .null, .int 0])), (q44, .inl (cA45, 1200, .inl (fun _ => 0)))]) (w1 := [(q46, .inr (4, [.ref f47, .ref f48, .ref f49, .ref f50, .ref f51, .ref f52, .ref f53, .ref f54, .ref f55, .ref f56, .ref f57, .int 64, .int 0, .int 0, .int 0])), (f47, .inl (cA60, 1200, .inl (fun _ => 0))), (f48, .inr (2, [.ref qw58, .ref qt59, .int 0])), (qw58, .inr (0, [.ref f47, .int 0, .int 0, .int 0]))]) hP hD [2] [0, 1] rfl rfl (by decide) (by decide) hk1 hFc hP1 hD1
  have hK := (hK.sub (tys' := [(cA45, .int)]) [0] rfl).app hK1
  generalize H1 = H at hP hS ⊢
  have hP : va_P (dC, dI) cls_ [(h0, .inr (9, [.ref q44, .int 0, .null, .null, .int 0, .null, .null, .null, .null, .int 0])), (q44, .inl (cA45, 1200, .inl (fun _ => 0))), (q46, .inr (4, [.ref f47, .ref f48, .ref f49, .ref f50, .ref f51, .ref f52, .ref f53, .ref f54, .ref f55, .ref f56, .ref f57, .int 64, .int 0, .int 0, .int 0])), (f47, .inl (cA60, 1200, .inl (fun _ => 0))), (f48, .inr (2, [.ref qw58, .ref qt59, .int 0])), (qw58, .inr (0, [.ref f47, .int 0, .int 0, .int 0]))] H := hP
  have hD : va_D A [(h0, .inr (9, [.ref q44, .int 0, .null, .null, .int 0, .null, .null, .null, .null, .int 0])), (q44, .inl (cA45, 1200, .inl (fun _ => 0))), (q46, .inr (4, [.ref f47, .ref f48, .ref f49, .ref f50, .ref f51, .ref f52, .ref f53, .ref f54, .ref f55, .ref f56, .ref f57, .int 64, .int 0, .int 0, .int 0])), (f47, .inl (cA60, 1200, .inl (fun _ => 0))), (f48, .inr (2, [.ref qw58, .ref qt59, .int 0])), (qw58, .inr (0, [.ref f47, .int 0, .int 0, .int 0]))] := hD
  have hK : va_K (dC, dI) cls_ [(cA45, .int), (cA60, .int)] s := hK
  refine va_put (D := (dC, dI)) (ci := 9) (v := .ref q46) (ty := .object "GlyphLines$Font") (C := R_GL) (T := F_GL) (N := 10) hx hb hts in_GL t_GL t_GL_ok n_GL hown hK hP hD hS 0 rfl rfl 2 (by decide) (hts _ (List.mem_cons_of_mem _ w_289)) (fun _ h9 => h9) rfl  (by decide +kernel) rfl rfl (Nat.le_of_ble_eq_true rfl) d_GL_init_26 (fun H locs hP hD hS => ?_)
  have hP : va_P (dC, dI) cls_ [(h0, .inr (9, [.ref q44, .int 0, .ref q46, .null, .int 0, .null, .null, .null, .null, .int 0])), (q44, .inl (cA45, 1200, .inl (fun _ => 0))), (q46, .inr (4, [.ref f47, .ref f48, .ref f49, .ref f50, .ref f51, .ref f52, .ref f53, .ref f54, .ref f55, .ref f56, .ref f57, .int 64, .int 0, .int 0, .int 0])), (f47, .inl (cA60, 1200, .inl (fun _ => 0))), (f48, .inr (2, [.ref qw58, .ref qt59, .int 0])), (qw58, .inr (0, [.ref f47, .int 0, .int 0, .int 0]))] H := hP
  have hD : va_D A [(h0, .inr (9, [.ref q44, .int 0, .ref q46, .null, .int 0, .null, .null, .null, .null, .int 0])), (q44, .inl (cA45, 1200, .inl (fun _ => 0))), (q46, .inr (4, [.ref f47, .ref f48, .ref f49, .ref f50, .ref f51, .ref f52, .ref f53, .ref f54, .ref f55, .ref f56, .ref f57, .int 64, .int 0, .int 0, .int 0])), (f47, .inl (cA60, 1200, .inl (fun _ => 0))), (f48, .inr (2, [.ref qw58, .ref qt59, .int 0])), (qw58, .inr (0, [.ref f47, .int 0, .int 0, .int 0]))] := hD
  refine lv_aload_n hx hb d_GL_init_29 rfl (lv_at hl 0 rfl) ?_
  refine va_new (ci := 4) (fs := [.null, .null, .null, .null, .null, .null, .null, .null, .null, .null, .null, .int 0, .int 0, .int 0, .int 0]) (C := R_FO) (T := F_FO) (N := 15) hx hb hts in_FO t_FO t_FO_ok hown (hts _ (List.mem_cons_of_mem _ w_30)) (hts _ (List.mem_cons_of_mem _ w_31)) (hts _ (List.mem_cons_of_mem _ w_2)) hK hP hD hS hA rfl (fun j hj => by rcases (show j = 0 ∨ j = 1 ∨ j = 2 ∨ j = 3 ∨ j = 4 ∨ j = 5 ∨ j = 6 ∨ j = 7 ∨ j = 8 ∨ j = 9 ∨ j = 10 ∨ j = 11 ∨ j = 12 ∨ j = 13 ∨ j = 14 by omega) with rfl | rfl | rfl | rfl | rfl | rfl | rfl | rfl | rfl | rfl | rfl | rfl | rfl | rfl | rfl <;> rfl) (Nat.le_of_ble_eq_true rfl) (Nat.le_of_ble_eq_true rfl) d_GL_init_30 (fun q61 H hP hD hS => ?_)
  have hP : va_P (dC, dI) cls_ [(h0, .inr (9, [.ref q44, .int 0, .ref q46, .null, .int 0, .null, .null, .null, .null, .int 0])), (q44, .inl (cA45, 1200, .inl (fun _ => 0))), (q46, .inr (4, [.ref f47, .ref f48, .ref f49, .ref f50, .ref f51, .ref f52, .ref f53, .ref f54, .ref f55, .ref f56, .ref f57, .int 64, .int 0, .int 0, .int 0])), (f47, .inl (cA60, 1200, .inl (fun _ => 0))), (f48, .inr (2, [.ref qw58, .ref qt59, .int 0])), (qw58, .inr (0, [.ref f47, .int 0, .int 0, .int 0])), (q61, .inr (4, [.null, .null, .null, .null, .null, .null, .null, .null, .null, .null, .null, .int 0, .int 0, .int 0, .int 0]))] H := hP
  have hD : va_D A [(h0, .inr (9, [.ref q44, .int 0, .ref q46, .null, .int 0, .null, .null, .null, .null, .int 0])), (q44, .inl (cA45, 1200, .inl (fun _ => 0))), (q46, .inr (4, [.ref f47, .ref f48, .ref f49, .ref f50, .ref f51, .ref f52, .ref f53, .ref f54, .ref f55, .ref f56, .ref f57, .int 64, .int 0, .int 0, .int 0])), (f47, .inl (cA60, 1200, .inl (fun _ => 0))), (f48, .inr (2, [.ref qw58, .ref qt59, .int 0])), (qw58, .inr (0, [.ref f47, .int 0, .int 0, .int 0])), (q61, .inr (4, [.null, .null, .null, .null, .null, .null, .null, .null, .null, .null, .null, .int 0, .int 0, .int 0, .int 0]))] := hD
  refine lv_dup hx hb d_GL_init_33 rfl ?_
  have hPc := hP.sub (ws' := [(q61, .inr (4, [.null, .null, .null, .null, .null, .null, .null, .null, .null, .null, .null, .int 0, .int 0, .int 0, .int 0]))]) [6] rfl
  have hDc := hD.sub (ws' := [(q61, .inr (4, [.null, .null, .null, .null, .null, .null, .null, .null, .null, .null, .null, .int 0, .int 0, .int 0, .int 0]))]) [6] (by decide) rfl
  have hKc := hK.sub (tys' := []) [] rfl
  have hFc := va_free (wc := [(q61, .inr (4, [.null, .null, .null, .null, .null, .null, .null, .null, .null, .null, .null, .int 0, .int 0, .int 0, .int 0]))]) hD hS hA [6] rfl
  refine va_callv (va_runI (As := []) (rest := [.ref q61, .ref h0]) ⟨hx, hb, hml, hown, hts⟩ (c_FO_init l dC dI q61 H.size) (cwI 0 hts (tw_in w_34) rfl rfl rfl (hts _ (List.mem_cons_of_mem _ w_2)) (hts _ (List.mem_cons_of_mem _ w_32)) (hts _ (List.mem_cons_of_mem _ w_33)) rfl (by decide +kernel) ⟨Nat.le_of_ble_eq_true rfl, Nat.le_of_ble_eq_true rfl⟩) ⟨fun a U g mk q => by obtain ⟨q0, q1, qP, qK, qD, qE0⟩ := q; exact ⟨q0, q1, qP, va_K.moved (u := U) (U := U.calling g mk a) (Vm.Alike.refl U.vm) qK, qD, va_AO.moved (u := U) (U := U.calling g mk a) (Vm.Alike.refl U.vm) qE0⟩, fun U hU hW => ⟨rfl, by rw [hU], by rw [hU]; exact hPc, va_K.moved hW.alike hKc, hDc.weaken (fun _ _ _ _ => trivial), va_AO.moved hW.alike hO⟩⟩ rfl rfl hl.1 rfl (lv_room (Nat.le_of_ble_eq_true rfl)) d_GL_init_34 ⟨Nat.le_of_ble_eq_true rfl, Nat.le_of_ble_eq_true rfl⟩) hS (fun q _ h => hFc q h) hFc (fun u t H1 locs ht hvm hw hB hz1 hk1 hS => ?_)
  obtain ⟨f62, f63, f64, f65, f66, f67, f68, f69, f70, f71, f72, qw73, qt74, cA75, hP1, hK1, hD1⟩ := hB
  rw [ht] at hP1
  have hK1 := va_K.moved hvm.symm hK1
  obtain ⟨hP, hD⟩ := va_join (wr := [(h0, .inr (9, [.ref q44, .int 0, .ref q46, .null, .int 0, .null, .null, .null, .null, .int 0])), (q44, .inl (cA45, 1200, .inl (fun _ => 0))), (q46, .inr (4, [.ref f47, .ref f48, .ref f49, .ref f50, .ref f51, .ref f52, .ref f53, .ref f54, .ref f55, .ref f56, .ref f57, .int 64, .int 0, .int 0, .int 0])), (f47, .inl (cA60, 1200, .inl (fun _ => 0))), (f48, .inr (2, [.ref qw58, .ref qt59, .int 0])), (qw58, .inr (0, [.ref f47, .int 0, .int 0, .int 0]))]) (w1 := [(q61, .inr (4, [.ref f62, .ref f63, .ref f64, .ref f65, .ref f66, .ref f67, .ref f68, .ref f69, .ref f70, .ref f71, .ref f72, .int 64, .int 0, .int 0, .int 0])), (f62, .inl (cA75, 1200, .inl (fun _ => 0))), (f63, .inr (2, [.ref qw73, .ref qt74, .int 0])), (qw73, .inr (0, [.ref f62, .int 0, .int 0, .int 0]))]) hP hD [6] [0, 1, 2, 3, 4, 5] rfl rfl (by decide) (by decide) hk1 hFc hP1 hD1
  have hK := (hK.sub (tys' := [(cA45, .int), (cA60, .int)]) [0, 1] rfl).app hK1
  generalize H1 = H at hP hS ⊢
  have hP : va_P (dC, dI) cls_ [(h0, .inr (9, [.ref q44, .int 0, .ref q46, .null, .int 0, .null, .null, .null, .null, .int 0])), (q44, .inl (cA45, 1200, .inl (fun _ => 0))), (q46, .inr (4, [.ref f47, .ref f48, .ref f49, .ref f50, .ref f51, .ref f52, .ref f53, .ref f54, .ref f55, .ref f56, .ref f57, .int 64, .int 0, .int 0, .int 0])), (f47, .inl (cA60, 1200, .inl (fun _ => 0))), (f48, .inr (2, [.ref qw58, .ref qt59, .int 0])), (qw58, .inr (0, [.ref f47, .int 0, .int 0, .int 0])), (q61, .inr (4, [.ref f62, .ref f63, .ref f64, .ref f65, .ref f66, .ref f67, .ref f68, .ref f69, .ref f70, .ref f71, .ref f72, .int 64, .int 0, .int 0, .int 0])), (f62, .inl (cA75, 1200, .inl (fun _ => 0))), (f63, .inr (2, [.ref qw73, .ref qt74, .int 0])), (qw73, .inr (0, [.ref f62, .int 0, .int 0, .int 0]))] H := hP
  have hD : va_D A [(h0, .inr (9, [.ref q44, .int 0, .ref q46, .null, .int 0, .null, .null, .null, .null, .int 0])), (q44, .inl (cA45, 1200, .inl (fun _ => 0))), (q46, .inr (4, [.ref f47, .ref f48, .ref f49, .ref f50, .ref f51, .ref f52, .ref f53, .ref f54, .ref f55, .ref f56, .ref f57, .int 64, .int 0, .int 0, .int 0])), (f47, .inl (cA60, 1200, .inl (fun _ => 0))), (f48, .inr (2, [.ref qw58, .ref qt59, .int 0])), (qw58, .inr (0, [.ref f47, .int 0, .int 0, .int 0])), (q61, .inr (4, [.ref f62, .ref f63, .ref f64, .ref f65, .ref f66, .ref f67, .ref f68, .ref f69, .ref f70, .ref f71, .ref f72, .int 64, .int 0, .int 0, .int 0])), (f62, .inl (cA75, 1200, .inl (fun _ => 0))), (f63, .inr (2, [.ref qw73, .ref qt74, .int 0])), (qw73, .inr (0, [.ref f62, .int 0, .int 0, .int 0]))] := hD
  have hK : va_K (dC, dI) cls_ [(cA45, .int), (cA60, .int), (cA75, .int)] s := hK
  refine va_put (D := (dC, dI)) (ci := 9) (v := .ref q61) (ty := .object "GlyphLines$Font") (C := R_GL) (T := F_GL) (N := 10) hx hb hts in_GL t_GL t_GL_ok n_GL hown hK hP hD hS 0 rfl rfl 3 (by decide) (hts _ (List.mem_cons_of_mem _ w_290)) (fun _ h9 => h9) rfl  (by decide +kernel) rfl rfl (Nat.le_of_ble_eq_true rfl) d_GL_init_37 (fun H locs hP hD hS => ?_)
  have hP : va_P (dC, dI) cls_ [(h0, .inr (9, [.ref q44, .int 0, .ref q46, .ref q61, .int 0, .null, .null, .null, .null, .int 0])), (q44, .inl (cA45, 1200, .inl (fun _ => 0))), (q46, .inr (4, [.ref f47, .ref f48, .ref f49, .ref f50, .ref f51, .ref f52, .ref f53, .ref f54, .ref f55, .ref f56, .ref f57, .int 64, .int 0, .int 0, .int 0])), (f47, .inl (cA60, 1200, .inl (fun _ => 0))), (f48, .inr (2, [.ref qw58, .ref qt59, .int 0])), (qw58, .inr (0, [.ref f47, .int 0, .int 0, .int 0])), (q61, .inr (4, [.ref f62, .ref f63, .ref f64, .ref f65, .ref f66, .ref f67, .ref f68, .ref f69, .ref f70, .ref f71, .ref f72, .int 64, .int 0, .int 0, .int 0])), (f62, .inl (cA75, 1200, .inl (fun _ => 0))), (f63, .inr (2, [.ref qw73, .ref qt74, .int 0])), (qw73, .inr (0, [.ref f62, .int 0, .int 0, .int 0]))] H := hP
  have hD : va_D A [(h0, .inr (9, [.ref q44, .int 0, .ref q46, .ref q61, .int 0, .null, .null, .null, .null, .int 0])), (q44, .inl (cA45, 1200, .inl (fun _ => 0))), (q46, .inr (4, [.ref f47, .ref f48, .ref f49, .ref f50, .ref f51, .ref f52, .ref f53, .ref f54, .ref f55, .ref f56, .ref f57, .int 64, .int 0, .int 0, .int 0])), (f47, .inl (cA60, 1200, .inl (fun _ => 0))), (f48, .inr (2, [.ref qw58, .ref qt59, .int 0])), (qw58, .inr (0, [.ref f47, .int 0, .int 0, .int 0])), (q61, .inr (4, [.ref f62, .ref f63, .ref f64, .ref f65, .ref f66, .ref f67, .ref f68, .ref f69, .ref f70, .ref f71, .ref f72, .int 64, .int 0, .int 0, .int 0])), (f62, .inl (cA75, 1200, .inl (fun _ => 0))), (f63, .inr (2, [.ref qw73, .ref qt74, .int 0])), (qw73, .inr (0, [.ref f62, .int 0, .int 0, .int 0]))] := hD
  refine lv_aload_n hx hb d_GL_init_40 rfl (lv_at hl 0 rfl) ?_
  refine lv_iconst (v := 0) hx hb d_GL_init_41 (by decide) ?_
  refine va_put (D := (dC, dI)) (ci := 9) (v := .int 0) (ty := .boolean) (C := R_GL) (T := F_GL) (N := 10) hx hb hts in_GL t_GL t_GL_ok n_GL hown hK hP hD hS 0 rfl rfl 4 (by decide) (hts _ (List.mem_cons_of_mem _ w_291)) (fun _ h9 => h9) rfl  (by decide +kernel) rfl rfl (Nat.le_of_ble_eq_true rfl) d_GL_init_42 (fun H locs hP hD hS => ?_)
  have hP : va_P (dC, dI) cls_ [(h0, .inr (9, [.ref q44, .int 0, .ref q46, .ref q61, .int 0, .null, .null, .null, .null, .int 0])), (q44, .inl (cA45, 1200, .inl (fun _ => 0))), (q46, .inr (4, [.ref f47, .ref f48, .ref f49, .ref f50, .ref f51, .ref f52, .ref f53, .ref f54, .ref f55, .ref f56, .ref f57, .int 64, .int 0, .int 0, .int 0])), (f47, .inl (cA60, 1200, .inl (fun _ => 0))), (f48, .inr (2, [.ref qw58, .ref qt59, .int 0])), (qw58, .inr (0, [.ref f47, .int 0, .int 0, .int 0])), (q61, .inr (4, [.ref f62, .ref f63, .ref f64, .ref f65, .ref f66, .ref f67, .ref f68, .ref f69, .ref f70, .ref f71, .ref f72, .int 64, .int 0, .int 0, .int 0])), (f62, .inl (cA75, 1200, .inl (fun _ => 0))), (f63, .inr (2, [.ref qw73, .ref qt74, .int 0])), (qw73, .inr (0, [.ref f62, .int 0, .int 0, .int 0]))] H := hP
  have hD : va_D A [(h0, .inr (9, [.ref q44, .int 0, .ref q46, .ref q61, .int 0, .null, .null, .null, .null, .int 0])), (q44, .inl (cA45, 1200, .inl (fun _ => 0))), (q46, .inr (4, [.ref f47, .ref f48, .ref f49, .ref f50, .ref f51, .ref f52, .ref f53, .ref f54, .ref f55, .ref f56, .ref f57, .int 64, .int 0, .int 0, .int 0])), (f47, .inl (cA60, 1200, .inl (fun _ => 0))), (f48, .inr (2, [.ref qw58, .ref qt59, .int 0])), (qw58, .inr (0, [.ref f47, .int 0, .int 0, .int 0])), (q61, .inr (4, [.ref f62, .ref f63, .ref f64, .ref f65, .ref f66, .ref f67, .ref f68, .ref f69, .ref f70, .ref f71, .ref f72, .int 64, .int 0, .int 0, .int 0])), (f62, .inl (cA75, 1200, .inl (fun _ => 0))), (f63, .inr (2, [.ref qw73, .ref qt74, .int 0])), (qw73, .inr (0, [.ref f62, .int 0, .int 0, .int 0]))] := hD
  refine lv_aload_n hx hb d_GL_init_45 rfl (lv_at hl 0 rfl) ?_
  refine va_new (ci := 6) (fs := [.null, .null, .null, .null, .null, .null, .int 0, .int 0]) (C := R_OU) (T := F_OU) (N := 8) hx hb hts in_OU t_OU t_OU_ok hown (hts _ (List.mem_cons_of_mem _ w_166)) (hts _ (List.mem_cons_of_mem _ w_167)) (hts _ (List.mem_cons_of_mem _ w_7)) hK hP hD hS hA rfl (fun j hj => by rcases (show j = 0 ∨ j = 1 ∨ j = 2 ∨ j = 3 ∨ j = 4 ∨ j = 5 ∨ j = 6 ∨ j = 7 by omega) with rfl | rfl | rfl | rfl | rfl | rfl | rfl | rfl <;> rfl) (Nat.le_of_ble_eq_true rfl) (Nat.le_of_ble_eq_true rfl) d_GL_init_46 (fun q76 H hP hD hS => ?_)
  have hP : va_P (dC, dI) cls_ [(h0, .inr (9, [.ref q44, .int 0, .ref q46, .ref q61, .int 0, .null, .null, .null, .null, .int 0])), (q44, .inl (cA45, 1200, .inl (fun _ => 0))), (q46, .inr (4, [.ref f47, .ref f48, .ref f49, .ref f50, .ref f51, .ref f52, .ref f53, .ref f54, .ref f55, .ref f56, .ref f57, .int 64, .int 0, .int 0, .int 0])), (f47, .inl (cA60, 1200, .inl (fun _ => 0))), (f48, .inr (2, [.ref qw58, .ref qt59, .int 0])), (qw58, .inr (0, [.ref f47, .int 0, .int 0, .int 0])), (q61, .inr (4, [.ref f62, .ref f63, .ref f64, .ref f65, .ref f66, .ref f67, .ref f68, .ref f69, .ref f70, .ref f71, .ref f72, .int 64, .int 0, .int 0, .int 0])), (f62, .inl (cA75, 1200, .inl (fun _ => 0))), (f63, .inr (2, [.ref qw73, .ref qt74, .int 0])), (qw73, .inr (0, [.ref f62, .int 0, .int 0, .int 0])), (q76, .inr (6, [.null, .null, .null, .null, .null, .null, .int 0, .int 0]))] H := hP
  have hD : va_D A [(h0, .inr (9, [.ref q44, .int 0, .ref q46, .ref q61, .int 0, .null, .null, .null, .null, .int 0])), (q44, .inl (cA45, 1200, .inl (fun _ => 0))), (q46, .inr (4, [.ref f47, .ref f48, .ref f49, .ref f50, .ref f51, .ref f52, .ref f53, .ref f54, .ref f55, .ref f56, .ref f57, .int 64, .int 0, .int 0, .int 0])), (f47, .inl (cA60, 1200, .inl (fun _ => 0))), (f48, .inr (2, [.ref qw58, .ref qt59, .int 0])), (qw58, .inr (0, [.ref f47, .int 0, .int 0, .int 0])), (q61, .inr (4, [.ref f62, .ref f63, .ref f64, .ref f65, .ref f66, .ref f67, .ref f68, .ref f69, .ref f70, .ref f71, .ref f72, .int 64, .int 0, .int 0, .int 0])), (f62, .inl (cA75, 1200, .inl (fun _ => 0))), (f63, .inr (2, [.ref qw73, .ref qt74, .int 0])), (qw73, .inr (0, [.ref f62, .int 0, .int 0, .int 0])), (q76, .inr (6, [.null, .null, .null, .null, .null, .null, .int 0, .int 0]))] := hD
  refine lv_dup hx hb d_GL_init_49 rfl ?_
  have hPc := hP.sub (ws' := [(q76, .inr (6, [.null, .null, .null, .null, .null, .null, .int 0, .int 0]))]) [10] rfl
  have hDc := hD.sub (ws' := [(q76, .inr (6, [.null, .null, .null, .null, .null, .null, .int 0, .int 0]))]) [10] (by decide) rfl
  have hKc := hK.sub (tys' := []) [] rfl
  have hFc := va_free (wc := [(q76, .inr (6, [.null, .null, .null, .null, .null, .null, .int 0, .int 0]))]) hD hS hA [10] rfl
  refine va_callv (va_runI (As := []) (rest := [.ref q76, .ref h0]) ⟨hx, hb, hml, hown, hts⟩ (c_OU_init l dC dI q76 H.size) (cwI 0 hts (tw_in w_170) rfl rfl rfl (hts _ (List.mem_cons_of_mem _ w_7)) (hts _ (List.mem_cons_of_mem _ w_168)) (hts _ (List.mem_cons_of_mem _ w_169)) rfl (by decide +kernel) ⟨Nat.le_of_ble_eq_true rfl, Nat.le_of_ble_eq_true rfl⟩) ⟨fun a U g mk q => by obtain ⟨q0, q1, qP, qK, qD⟩ := q; exact ⟨q0, q1, qP, va_K.moved (u := U) (U := U.calling g mk a) (Vm.Alike.refl U.vm) qK, qD⟩, fun U hU hW => ⟨rfl, by rw [hU], by rw [hU]; exact hPc, va_K.moved hW.alike hKc, hDc.weaken (fun _ _ _ _ => trivial)⟩⟩ rfl rfl hl.1 rfl (lv_room (Nat.le_of_ble_eq_true rfl)) d_GL_init_50 ⟨Nat.le_of_ble_eq_true rfl, Nat.le_of_ble_eq_true rfl⟩) hS (fun q _ h => hFc q h) hFc (fun u t H1 locs ht hvm hw hB hz1 hk1 hS => ?_)
  have hP1 : va_P (dC, dI) cls_ [] H1 := fun k q h => by simp at h
  have hD1 : va_D (va_A [(q76, .inr (6, [.null, .null, .null, .null, .null, .null, .int 0, .int 0]))] H.size) [] := ⟨fun i j p q h => by simp at h, fun k q h => by simp at h⟩
  obtain ⟨hP, hD⟩ := va_join (wr := [(h0, .inr (9, [.ref q44, .int 0, .ref q46, .ref q61, .int 0, .null, .null, .null, .null, .int 0])), (q44, .inl (cA45, 1200, .inl (fun _ => 0))), (q46, .inr (4, [.ref f47, .ref f48, .ref f49, .ref f50, .ref f51, .ref f52, .ref f53, .ref f54, .ref f55, .ref f56, .ref f57, .int 64, .int 0, .int 0, .int 0])), (f47, .inl (cA60, 1200, .inl (fun _ => 0))), (f48, .inr (2, [.ref qw58, .ref qt59, .int 0])), (qw58, .inr (0, [.ref f47, .int 0, .int 0, .int 0])), (q61, .inr (4, [.ref f62, .ref f63, .ref f64, .ref f65, .ref f66, .ref f67, .ref f68, .ref f69, .ref f70, .ref f71, .ref f72, .int 64, .int 0, .int 0, .int 0])), (f62, .inl (cA75, 1200, .inl (fun _ => 0))), (f63, .inr (2, [.ref qw73, .ref qt74, .int 0])), (qw73, .inr (0, [.ref f62, .int 0, .int 0, .int 0]))]) (w1 := []) hP hD [10] [0, 1, 2, 3, 4, 5, 6, 7, 8, 9] rfl rfl (by decide) (by decide) hk1 hFc hP1 hD1
  generalize H1 = H at hP hS ⊢
  have hP : va_P (dC, dI) cls_ [(h0, .inr (9, [.ref q44, .int 0, .ref q46, .ref q61, .int 0, .null, .null, .null, .null, .int 0])), (q44, .inl (cA45, 1200, .inl (fun _ => 0))), (q46, .inr (4, [.ref f47, .ref f48, .ref f49, .ref f50, .ref f51, .ref f52, .ref f53, .ref f54, .ref f55, .ref f56, .ref f57, .int 64, .int 0, .int 0, .int 0])), (f47, .inl (cA60, 1200, .inl (fun _ => 0))), (f48, .inr (2, [.ref qw58, .ref qt59, .int 0])), (qw58, .inr (0, [.ref f47, .int 0, .int 0, .int 0])), (q61, .inr (4, [.ref f62, .ref f63, .ref f64, .ref f65, .ref f66, .ref f67, .ref f68, .ref f69, .ref f70, .ref f71, .ref f72, .int 64, .int 0, .int 0, .int 0])), (f62, .inl (cA75, 1200, .inl (fun _ => 0))), (f63, .inr (2, [.ref qw73, .ref qt74, .int 0])), (qw73, .inr (0, [.ref f62, .int 0, .int 0, .int 0]))] H := hP
  have hD : va_D A [(h0, .inr (9, [.ref q44, .int 0, .ref q46, .ref q61, .int 0, .null, .null, .null, .null, .int 0])), (q44, .inl (cA45, 1200, .inl (fun _ => 0))), (q46, .inr (4, [.ref f47, .ref f48, .ref f49, .ref f50, .ref f51, .ref f52, .ref f53, .ref f54, .ref f55, .ref f56, .ref f57, .int 64, .int 0, .int 0, .int 0])), (f47, .inl (cA60, 1200, .inl (fun _ => 0))), (f48, .inr (2, [.ref qw58, .ref qt59, .int 0])), (qw58, .inr (0, [.ref f47, .int 0, .int 0, .int 0])), (q61, .inr (4, [.ref f62, .ref f63, .ref f64, .ref f65, .ref f66, .ref f67, .ref f68, .ref f69, .ref f70, .ref f71, .ref f72, .int 64, .int 0, .int 0, .int 0])), (f62, .inl (cA75, 1200, .inl (fun _ => 0))), (f63, .inr (2, [.ref qw73, .ref qt74, .int 0])), (qw73, .inr (0, [.ref f62, .int 0, .int 0, .int 0]))] := hD
  refine va_putF (D := (dC, dI)) (ci := 9) (v := .ref q76) (ty := .object "GlyphLines$Outline") (C := R_GL) (T := F_GL) (N := 10) hx hb hts in_GL t_GL t_GL_ok n_GL hown hK hP hD hS 0 rfl rfl 5 (by decide) (hts _ (List.mem_cons_of_mem _ w_292)) (fun _ h9 => h9) rfl hin rfl (by decide +kernel) rfl rfl (Nat.le_of_ble_eq_true rfl) d_GL_init_53 (fun H locs hP hD hS => ?_)
  have hP : va_P (dC, dI) cls_ [(h0, .inr (9, [.ref q44, .int 0, .ref q46, .ref q61, .int 0, .ref q76, .null, .null, .null, .int 0])), (q44, .inl (cA45, 1200, .inl (fun _ => 0))), (q46, .inr (4, [.ref f47, .ref f48, .ref f49, .ref f50, .ref f51, .ref f52, .ref f53, .ref f54, .ref f55, .ref f56, .ref f57, .int 64, .int 0, .int 0, .int 0])), (f47, .inl (cA60, 1200, .inl (fun _ => 0))), (f48, .inr (2, [.ref qw58, .ref qt59, .int 0])), (qw58, .inr (0, [.ref f47, .int 0, .int 0, .int 0])), (q61, .inr (4, [.ref f62, .ref f63, .ref f64, .ref f65, .ref f66, .ref f67, .ref f68, .ref f69, .ref f70, .ref f71, .ref f72, .int 64, .int 0, .int 0, .int 0])), (f62, .inl (cA75, 1200, .inl (fun _ => 0))), (f63, .inr (2, [.ref qw73, .ref qt74, .int 0])), (qw73, .inr (0, [.ref f62, .int 0, .int 0, .int 0]))] H := hP
  have hD : va_D A [(h0, .inr (9, [.ref q44, .int 0, .ref q46, .ref q61, .int 0, .ref q76, .null, .null, .null, .int 0])), (q44, .inl (cA45, 1200, .inl (fun _ => 0))), (q46, .inr (4, [.ref f47, .ref f48, .ref f49, .ref f50, .ref f51, .ref f52, .ref f53, .ref f54, .ref f55, .ref f56, .ref f57, .int 64, .int 0, .int 0, .int 0])), (f47, .inl (cA60, 1200, .inl (fun _ => 0))), (f48, .inr (2, [.ref qw58, .ref qt59, .int 0])), (qw58, .inr (0, [.ref f47, .int 0, .int 0, .int 0])), (q61, .inr (4, [.ref f62, .ref f63, .ref f64, .ref f65, .ref f66, .ref f67, .ref f68, .ref f69, .ref f70, .ref f71, .ref f72, .int 64, .int 0, .int 0, .int 0])), (f62, .inl (cA75, 1200, .inl (fun _ => 0))), (f63, .inr (2, [.ref qw73, .ref qt74, .int 0])), (qw73, .inr (0, [.ref f62, .int 0, .int 0, .int 0]))] := hD
  refine lv_aload_n hx hb d_GL_init_56 rfl (lv_at hl 0 rfl) ?_
  refine va_new (ci := 7) (fs := [.null, .null]) (C := R_PI) (T := F_PI) (N := 2) hx hb hts in_PI t_PI t_PI_ok hown (hts _ (List.mem_cons_of_mem _ w_234)) (hts _ (List.mem_cons_of_mem _ w_235)) (hts _ (List.mem_cons_of_mem _ w_9)) hK hP hD hS hA rfl (fun j hj => by rcases (show j = 0 ∨ j = 1 by omega) with rfl | rfl <;> rfl) (Nat.le_of_ble_eq_true rfl) (Nat.le_of_ble_eq_true rfl) d_GL_init_57 (fun q77 H hP hD hS => ?_)
  have hP : va_P (dC, dI) cls_ [(h0, .inr (9, [.ref q44, .int 0, .ref q46, .ref q61, .int 0, .ref q76, .null, .null, .null, .int 0])), (q44, .inl (cA45, 1200, .inl (fun _ => 0))), (q46, .inr (4, [.ref f47, .ref f48, .ref f49, .ref f50, .ref f51, .ref f52, .ref f53, .ref f54, .ref f55, .ref f56, .ref f57, .int 64, .int 0, .int 0, .int 0])), (f47, .inl (cA60, 1200, .inl (fun _ => 0))), (f48, .inr (2, [.ref qw58, .ref qt59, .int 0])), (qw58, .inr (0, [.ref f47, .int 0, .int 0, .int 0])), (q61, .inr (4, [.ref f62, .ref f63, .ref f64, .ref f65, .ref f66, .ref f67, .ref f68, .ref f69, .ref f70, .ref f71, .ref f72, .int 64, .int 0, .int 0, .int 0])), (f62, .inl (cA75, 1200, .inl (fun _ => 0))), (f63, .inr (2, [.ref qw73, .ref qt74, .int 0])), (qw73, .inr (0, [.ref f62, .int 0, .int 0, .int 0])), (q77, .inr (7, [.null, .null]))] H := hP
  have hD : va_D A [(h0, .inr (9, [.ref q44, .int 0, .ref q46, .ref q61, .int 0, .ref q76, .null, .null, .null, .int 0])), (q44, .inl (cA45, 1200, .inl (fun _ => 0))), (q46, .inr (4, [.ref f47, .ref f48, .ref f49, .ref f50, .ref f51, .ref f52, .ref f53, .ref f54, .ref f55, .ref f56, .ref f57, .int 64, .int 0, .int 0, .int 0])), (f47, .inl (cA60, 1200, .inl (fun _ => 0))), (f48, .inr (2, [.ref qw58, .ref qt59, .int 0])), (qw58, .inr (0, [.ref f47, .int 0, .int 0, .int 0])), (q61, .inr (4, [.ref f62, .ref f63, .ref f64, .ref f65, .ref f66, .ref f67, .ref f68, .ref f69, .ref f70, .ref f71, .ref f72, .int 64, .int 0, .int 0, .int 0])), (f62, .inl (cA75, 1200, .inl (fun _ => 0))), (f63, .inr (2, [.ref qw73, .ref qt74, .int 0])), (qw73, .inr (0, [.ref f62, .int 0, .int 0, .int 0])), (q77, .inr (7, [.null, .null]))] := hD
  refine lv_dup hx hb d_GL_init_60 rfl ?_
  have hPc := hP.sub (ws' := [(q77, .inr (7, [.null, .null]))]) [10] rfl
  have hDc := hD.sub (ws' := [(q77, .inr (7, [.null, .null]))]) [10] (by decide) rfl
  have hKc := hK.sub (tys' := []) [] rfl
  have hFc := va_free (wc := [(q77, .inr (7, [.null, .null]))]) hD hS hA [10] rfl
  refine va_callv (va_runI (As := []) (rest := [.ref q77, .ref h0]) ⟨hx, hb, hml, hown, hts⟩ (c_PI_init l dC dI q77 H.size) (cwI 0 hts (tw_in w_238) rfl rfl rfl (hts _ (List.mem_cons_of_mem _ w_9)) (hts _ (List.mem_cons_of_mem _ w_236)) (hts _ (List.mem_cons_of_mem _ w_237)) rfl (by decide +kernel) ⟨Nat.le_of_ble_eq_true rfl, Nat.le_of_ble_eq_true rfl⟩) ⟨fun a U g mk q => by obtain ⟨q0, q1, qP, qK, qD⟩ := q; exact ⟨q0, q1, qP, va_K.moved (u := U) (U := U.calling g mk a) (Vm.Alike.refl U.vm) qK, qD⟩, fun U hU hW => ⟨rfl, by rw [hU], by rw [hU]; exact hPc, va_K.moved hW.alike hKc, hDc.weaken (fun _ _ _ _ => trivial)⟩⟩ rfl rfl hl.1 rfl (lv_room (Nat.le_of_ble_eq_true rfl)) d_GL_init_61 ⟨Nat.le_of_ble_eq_true rfl, Nat.le_of_ble_eq_true rfl⟩) hS (fun q _ h => hFc q h) hFc (fun u t H1 locs ht hvm hw hB hz1 hk1 hS => ?_)
  obtain ⟨q78, q79, cA80, hP1, hK1, hD1⟩ := hB
  rw [ht] at hP1
  have hK1 := va_K.moved hvm.symm hK1
  obtain ⟨hP, hD⟩ := va_join (wr := [(h0, .inr (9, [.ref q44, .int 0, .ref q46, .ref q61, .int 0, .ref q76, .null, .null, .null, .int 0])), (q44, .inl (cA45, 1200, .inl (fun _ => 0))), (q46, .inr (4, [.ref f47, .ref f48, .ref f49, .ref f50, .ref f51, .ref f52, .ref f53, .ref f54, .ref f55, .ref f56, .ref f57, .int 64, .int 0, .int 0, .int 0])), (f47, .inl (cA60, 1200, .inl (fun _ => 0))), (f48, .inr (2, [.ref qw58, .ref qt59, .int 0])), (qw58, .inr (0, [.ref f47, .int 0, .int 0, .int 0])), (q61, .inr (4, [.ref f62, .ref f63, .ref f64, .ref f65, .ref f66, .ref f67, .ref f68, .ref f69, .ref f70, .ref f71, .ref f72, .int 64, .int 0, .int 0, .int 0])), (f62, .inl (cA75, 1200, .inl (fun _ => 0))), (f63, .inr (2, [.ref qw73, .ref qt74, .int 0])), (qw73, .inr (0, [.ref f62, .int 0, .int 0, .int 0]))]) (w1 := [(q77, .inr (7, [.ref q78, .ref q79])), (q78, .inl (cA80, 24, .inr (.inl (fun _ => 0))))]) hP hD [10] [0, 1, 2, 3, 4, 5, 6, 7, 8, 9] rfl rfl (by decide) (by decide) hk1 hFc hP1 hD1
  have hK := (hK.sub (tys' := [(cA45, .int), (cA60, .int), (cA75, .int)]) [0, 1, 2] rfl).app hK1
  generalize H1 = H at hP hS ⊢
  have hP : va_P (dC, dI) cls_ [(h0, .inr (9, [.ref q44, .int 0, .ref q46, .ref q61, .int 0, .ref q76, .null, .null, .null, .int 0])), (q44, .inl (cA45, 1200, .inl (fun _ => 0))), (q46, .inr (4, [.ref f47, .ref f48, .ref f49, .ref f50, .ref f51, .ref f52, .ref f53, .ref f54, .ref f55, .ref f56, .ref f57, .int 64, .int 0, .int 0, .int 0])), (f47, .inl (cA60, 1200, .inl (fun _ => 0))), (f48, .inr (2, [.ref qw58, .ref qt59, .int 0])), (qw58, .inr (0, [.ref f47, .int 0, .int 0, .int 0])), (q61, .inr (4, [.ref f62, .ref f63, .ref f64, .ref f65, .ref f66, .ref f67, .ref f68, .ref f69, .ref f70, .ref f71, .ref f72, .int 64, .int 0, .int 0, .int 0])), (f62, .inl (cA75, 1200, .inl (fun _ => 0))), (f63, .inr (2, [.ref qw73, .ref qt74, .int 0])), (qw73, .inr (0, [.ref f62, .int 0, .int 0, .int 0])), (q77, .inr (7, [.ref q78, .ref q79])), (q78, .inl (cA80, 24, .inr (.inl (fun _ => 0))))] H := hP
  have hD : va_D A [(h0, .inr (9, [.ref q44, .int 0, .ref q46, .ref q61, .int 0, .ref q76, .null, .null, .null, .int 0])), (q44, .inl (cA45, 1200, .inl (fun _ => 0))), (q46, .inr (4, [.ref f47, .ref f48, .ref f49, .ref f50, .ref f51, .ref f52, .ref f53, .ref f54, .ref f55, .ref f56, .ref f57, .int 64, .int 0, .int 0, .int 0])), (f47, .inl (cA60, 1200, .inl (fun _ => 0))), (f48, .inr (2, [.ref qw58, .ref qt59, .int 0])), (qw58, .inr (0, [.ref f47, .int 0, .int 0, .int 0])), (q61, .inr (4, [.ref f62, .ref f63, .ref f64, .ref f65, .ref f66, .ref f67, .ref f68, .ref f69, .ref f70, .ref f71, .ref f72, .int 64, .int 0, .int 0, .int 0])), (f62, .inl (cA75, 1200, .inl (fun _ => 0))), (f63, .inr (2, [.ref qw73, .ref qt74, .int 0])), (qw73, .inr (0, [.ref f62, .int 0, .int 0, .int 0])), (q77, .inr (7, [.ref q78, .ref q79])), (q78, .inl (cA80, 24, .inr (.inl (fun _ => 0))))] := hD
  have hK : va_K (dC, dI) cls_ [(cA45, .int), (cA60, .int), (cA75, .int), (cA80, .long)] s := hK
  refine va_putF (D := (dC, dI)) (ci := 9) (v := .ref q77) (ty := .object "GlyphLines$Picture") (C := R_GL) (T := F_GL) (N := 10) hx hb hts in_GL t_GL t_GL_ok n_GL hown hK hP hD hS 0 rfl rfl 6 (by decide) (hts _ (List.mem_cons_of_mem _ w_293)) (fun _ h9 => h9) rfl hin rfl (by decide +kernel) rfl rfl (Nat.le_of_ble_eq_true rfl) d_GL_init_64 (fun H locs hP hD hS => ?_)
  have hP : va_P (dC, dI) cls_ [(h0, .inr (9, [.ref q44, .int 0, .ref q46, .ref q61, .int 0, .ref q76, .ref q77, .null, .null, .int 0])), (q44, .inl (cA45, 1200, .inl (fun _ => 0))), (q46, .inr (4, [.ref f47, .ref f48, .ref f49, .ref f50, .ref f51, .ref f52, .ref f53, .ref f54, .ref f55, .ref f56, .ref f57, .int 64, .int 0, .int 0, .int 0])), (f47, .inl (cA60, 1200, .inl (fun _ => 0))), (f48, .inr (2, [.ref qw58, .ref qt59, .int 0])), (qw58, .inr (0, [.ref f47, .int 0, .int 0, .int 0])), (q61, .inr (4, [.ref f62, .ref f63, .ref f64, .ref f65, .ref f66, .ref f67, .ref f68, .ref f69, .ref f70, .ref f71, .ref f72, .int 64, .int 0, .int 0, .int 0])), (f62, .inl (cA75, 1200, .inl (fun _ => 0))), (f63, .inr (2, [.ref qw73, .ref qt74, .int 0])), (qw73, .inr (0, [.ref f62, .int 0, .int 0, .int 0])), (q77, .inr (7, [.ref q78, .ref q79])), (q78, .inl (cA80, 24, .inr (.inl (fun _ => 0))))] H := hP
  have hD : va_D A [(h0, .inr (9, [.ref q44, .int 0, .ref q46, .ref q61, .int 0, .ref q76, .ref q77, .null, .null, .int 0])), (q44, .inl (cA45, 1200, .inl (fun _ => 0))), (q46, .inr (4, [.ref f47, .ref f48, .ref f49, .ref f50, .ref f51, .ref f52, .ref f53, .ref f54, .ref f55, .ref f56, .ref f57, .int 64, .int 0, .int 0, .int 0])), (f47, .inl (cA60, 1200, .inl (fun _ => 0))), (f48, .inr (2, [.ref qw58, .ref qt59, .int 0])), (qw58, .inr (0, [.ref f47, .int 0, .int 0, .int 0])), (q61, .inr (4, [.ref f62, .ref f63, .ref f64, .ref f65, .ref f66, .ref f67, .ref f68, .ref f69, .ref f70, .ref f71, .ref f72, .int 64, .int 0, .int 0, .int 0])), (f62, .inl (cA75, 1200, .inl (fun _ => 0))), (f63, .inr (2, [.ref qw73, .ref qt74, .int 0])), (qw73, .inr (0, [.ref f62, .int 0, .int 0, .int 0])), (q77, .inr (7, [.ref q78, .ref q79])), (q78, .inl (cA80, 24, .inr (.inl (fun _ => 0))))] := hD
  refine lv_aload_n hx hb d_GL_init_67 rfl (lv_at hl 0 rfl) ?_
  refine va_new (ci := 8) (fs := [.null, .null, .null, .null, .null, .int 0, .int 0, .int 0, .int 0, .int 0]) (C := R_BR) (T := F_BR) (N := 10) hx hb hts in_BR t_BR t_BR_ok hown (hts _ (List.mem_cons_of_mem _ w_249)) (hts _ (List.mem_cons_of_mem _ w_250)) (hts _ (List.mem_cons_of_mem _ w_10)) hK hP hD hS hA rfl (fun j hj => by rcases (show j = 0 ∨ j = 1 ∨ j = 2 ∨ j = 3 ∨ j = 4 ∨ j = 5 ∨ j = 6 ∨ j = 7 ∨ j = 8 ∨ j = 9 by omega) with rfl | rfl | rfl | rfl | rfl | rfl | rfl | rfl | rfl | rfl <;> rfl) (Nat.le_of_ble_eq_true rfl) (Nat.le_of_ble_eq_true rfl) d_GL_init_68 (fun q81 H hP hD hS => ?_)
  have hP : va_P (dC, dI) cls_ [(h0, .inr (9, [.ref q44, .int 0, .ref q46, .ref q61, .int 0, .ref q76, .ref q77, .null, .null, .int 0])), (q44, .inl (cA45, 1200, .inl (fun _ => 0))), (q46, .inr (4, [.ref f47, .ref f48, .ref f49, .ref f50, .ref f51, .ref f52, .ref f53, .ref f54, .ref f55, .ref f56, .ref f57, .int 64, .int 0, .int 0, .int 0])), (f47, .inl (cA60, 1200, .inl (fun _ => 0))), (f48, .inr (2, [.ref qw58, .ref qt59, .int 0])), (qw58, .inr (0, [.ref f47, .int 0, .int 0, .int 0])), (q61, .inr (4, [.ref f62, .ref f63, .ref f64, .ref f65, .ref f66, .ref f67, .ref f68, .ref f69, .ref f70, .ref f71, .ref f72, .int 64, .int 0, .int 0, .int 0])), (f62, .inl (cA75, 1200, .inl (fun _ => 0))), (f63, .inr (2, [.ref qw73, .ref qt74, .int 0])), (qw73, .inr (0, [.ref f62, .int 0, .int 0, .int 0])), (q77, .inr (7, [.ref q78, .ref q79])), (q78, .inl (cA80, 24, .inr (.inl (fun _ => 0)))), (q81, .inr (8, [.null, .null, .null, .null, .null, .int 0, .int 0, .int 0, .int 0, .int 0]))] H := hP
  have hD : va_D A [(h0, .inr (9, [.ref q44, .int 0, .ref q46, .ref q61, .int 0, .ref q76, .ref q77, .null, .null, .int 0])), (q44, .inl (cA45, 1200, .inl (fun _ => 0))), (q46, .inr (4, [.ref f47, .ref f48, .ref f49, .ref f50, .ref f51, .ref f52, .ref f53, .ref f54, .ref f55, .ref f56, .ref f57, .int 64, .int 0, .int 0, .int 0])), (f47, .inl (cA60, 1200, .inl (fun _ => 0))), (f48, .inr (2, [.ref qw58, .ref qt59, .int 0])), (qw58, .inr (0, [.ref f47, .int 0, .int 0, .int 0])), (q61, .inr (4, [.ref f62, .ref f63, .ref f64, .ref f65, .ref f66, .ref f67, .ref f68, .ref f69, .ref f70, .ref f71, .ref f72, .int 64, .int 0, .int 0, .int 0])), (f62, .inl (cA75, 1200, .inl (fun _ => 0))), (f63, .inr (2, [.ref qw73, .ref qt74, .int 0])), (qw73, .inr (0, [.ref f62, .int 0, .int 0, .int 0])), (q77, .inr (7, [.ref q78, .ref q79])), (q78, .inl (cA80, 24, .inr (.inl (fun _ => 0)))), (q81, .inr (8, [.null, .null, .null, .null, .null, .int 0, .int 0, .int 0, .int 0, .int 0]))] := hD
  refine lv_dup hx hb d_GL_init_71 rfl ?_
  refine lv_aload_n hx hb d_GL_init_72 rfl (lv_at hl 0 rfl) ?_
  refine va_get (D := (dC, dI)) (ci := 9) (v := .ref q77) (C := R_GL) (T := F_GL) (N := 10) hx hb hts in_GL hown hK hP 0 rfl rfl 6 (by decide) (hts _ (List.mem_cons_of_mem _ w_293)) (fun _ h9 => h9) rfl d_GL_init_73 ?_
  refine lv_aload_n hx hb d_GL_init_76 rfl (lv_at hl 0 rfl) ?_
  refine va_get (D := (dC, dI)) (ci := 9) (v := .ref q76) (C := R_GL) (T := F_GL) (N := 10) hx hb hts in_GL hown hK hP 0 rfl rfl 5 (by decide) (hts _ (List.mem_cons_of_mem _ w_292)) (fun _ h9 => h9) rfl d_GL_init_77 ?_
  have hPc := hP.sub (ws' := [(q81, .inr (8, [.null, .null, .null, .null, .null, .int 0, .int 0, .int 0, .int 0, .int 0]))]) [12] rfl
  have hDc := hD.sub (ws' := [(q81, .inr (8, [.null, .null, .null, .null, .null, .int 0, .int 0, .int 0, .int 0, .int 0]))]) [12] (by decide) rfl
  have hKc := hK.sub (tys' := []) [] rfl
  have hFc := va_free (wc := [(q81, .inr (8, [.null, .null, .null, .null, .null, .int 0, .int 0, .int 0, .int 0, .int 0]))]) hD hS hA [12] rfl
  refine va_callv (va_runI (As := [.ref q77, .ref q76]) (rest := [.ref q81, .ref h0]) ⟨hx, hb, hml, hown, hts⟩ (c_BR_init l dC dI q81 q77 q76 H.size) (cwI 2 hts (tw_in w_253) rfl rfl rfl (hts _ (List.mem_cons_of_mem _ w_10)) (hts _ (List.mem_cons_of_mem _ w_251)) (hts _ (List.mem_cons_of_mem _ w_252)) rfl (by decide +kernel) ⟨Nat.le_of_ble_eq_true rfl, Nat.le_of_ble_eq_true rfl⟩) ⟨fun a U g mk q => by obtain ⟨q0, q1, qP, qK, qD⟩ := q; exact ⟨q0, q1, qP, va_K.moved (u := U) (U := U.calling g mk a) (Vm.Alike.refl U.vm) qK, qD⟩, fun U hU hW => ⟨rfl, by rw [hU], by rw [hU]; exact hPc, va_K.moved hW.alike hKc, hDc.weaken (fun _ _ _ _ => trivial)⟩⟩ rfl rfl hl.1 rfl (lv_room (Nat.le_of_ble_eq_true rfl)) d_GL_init_80 ⟨Nat.le_of_ble_eq_true rfl, Nat.le_of_ble_eq_true rfl⟩) hS (fun q _ h => hFc q h) hFc (fun u t H1 locs ht hvm hw hB hz1 hk1 hS => ?_)
  have hP1 : va_P (dC, dI) cls_ [] H1 := fun k q h => by simp at h
  have hD1 : va_D (va_A [(q81, .inr (8, [.null, .null, .null, .null, .null, .int 0, .int 0, .int 0, .int 0, .int 0]))] H.size) [] := ⟨fun i j p q h => by simp at h, fun k q h => by simp at h⟩
  obtain ⟨hP, hD⟩ := va_join (wr := [(h0, .inr (9, [.ref q44, .int 0, .ref q46, .ref q61, .int 0, .ref q76, .ref q77, .null, .null, .int 0])), (q44, .inl (cA45, 1200, .inl (fun _ => 0))), (q46, .inr (4, [.ref f47, .ref f48, .ref f49, .ref f50, .ref f51, .ref f52, .ref f53, .ref f54, .ref f55, .ref f56, .ref f57, .int 64, .int 0, .int 0, .int 0])), (f47, .inl (cA60, 1200, .inl (fun _ => 0))), (f48, .inr (2, [.ref qw58, .ref qt59, .int 0])), (qw58, .inr (0, [.ref f47, .int 0, .int 0, .int 0])), (q61, .inr (4, [.ref f62, .ref f63, .ref f64, .ref f65, .ref f66, .ref f67, .ref f68, .ref f69, .ref f70, .ref f71, .ref f72, .int 64, .int 0, .int 0, .int 0])), (f62, .inl (cA75, 1200, .inl (fun _ => 0))), (f63, .inr (2, [.ref qw73, .ref qt74, .int 0])), (qw73, .inr (0, [.ref f62, .int 0, .int 0, .int 0])), (q77, .inr (7, [.ref q78, .ref q79])), (q78, .inl (cA80, 24, .inr (.inl (fun _ => 0))))]) (w1 := []) hP hD [12] [0, 1, 2, 3, 4, 5, 6, 7, 8, 9, 10, 11] rfl rfl (by decide) (by decide) hk1 hFc hP1 hD1
  generalize H1 = H at hP hS ⊢
  have hP : va_P (dC, dI) cls_ [(h0, .inr (9, [.ref q44, .int 0, .ref q46, .ref q61, .int 0, .ref q76, .ref q77, .null, .null, .int 0])), (q44, .inl (cA45, 1200, .inl (fun _ => 0))), (q46, .inr (4, [.ref f47, .ref f48, .ref f49, .ref f50, .ref f51, .ref f52, .ref f53, .ref f54, .ref f55, .ref f56, .ref f57, .int 64, .int 0, .int 0, .int 0])), (f47, .inl (cA60, 1200, .inl (fun _ => 0))), (f48, .inr (2, [.ref qw58, .ref qt59, .int 0])), (qw58, .inr (0, [.ref f47, .int 0, .int 0, .int 0])), (q61, .inr (4, [.ref f62, .ref f63, .ref f64, .ref f65, .ref f66, .ref f67, .ref f68, .ref f69, .ref f70, .ref f71, .ref f72, .int 64, .int 0, .int 0, .int 0])), (f62, .inl (cA75, 1200, .inl (fun _ => 0))), (f63, .inr (2, [.ref qw73, .ref qt74, .int 0])), (qw73, .inr (0, [.ref f62, .int 0, .int 0, .int 0])), (q77, .inr (7, [.ref q78, .ref q79])), (q78, .inl (cA80, 24, .inr (.inl (fun _ => 0))))] H := hP
  have hD : va_D A [(h0, .inr (9, [.ref q44, .int 0, .ref q46, .ref q61, .int 0, .ref q76, .ref q77, .null, .null, .int 0])), (q44, .inl (cA45, 1200, .inl (fun _ => 0))), (q46, .inr (4, [.ref f47, .ref f48, .ref f49, .ref f50, .ref f51, .ref f52, .ref f53, .ref f54, .ref f55, .ref f56, .ref f57, .int 64, .int 0, .int 0, .int 0])), (f47, .inl (cA60, 1200, .inl (fun _ => 0))), (f48, .inr (2, [.ref qw58, .ref qt59, .int 0])), (qw58, .inr (0, [.ref f47, .int 0, .int 0, .int 0])), (q61, .inr (4, [.ref f62, .ref f63, .ref f64, .ref f65, .ref f66, .ref f67, .ref f68, .ref f69, .ref f70, .ref f71, .ref f72, .int 64, .int 0, .int 0, .int 0])), (f62, .inl (cA75, 1200, .inl (fun _ => 0))), (f63, .inr (2, [.ref qw73, .ref qt74, .int 0])), (qw73, .inr (0, [.ref f62, .int 0, .int 0, .int 0])), (q77, .inr (7, [.ref q78, .ref q79])), (q78, .inl (cA80, 24, .inr (.inl (fun _ => 0))))] := hD
  refine va_putF (D := (dC, dI)) (ci := 9) (v := .ref q81) (ty := .object "GlyphLines$Brush") (C := R_GL) (T := F_GL) (N := 10) hx hb hts in_GL t_GL t_GL_ok n_GL hown hK hP hD hS 0 rfl rfl 7 (by decide) (hts _ (List.mem_cons_of_mem _ w_294)) (fun _ h9 => h9) rfl hin rfl (by decide +kernel) rfl rfl (Nat.le_of_ble_eq_true rfl) d_GL_init_83 (fun H locs hP hD hS => ?_)
  have hP : va_P (dC, dI) cls_ [(h0, .inr (9, [.ref q44, .int 0, .ref q46, .ref q61, .int 0, .ref q76, .ref q77, .ref q81, .null, .int 0])), (q44, .inl (cA45, 1200, .inl (fun _ => 0))), (q46, .inr (4, [.ref f47, .ref f48, .ref f49, .ref f50, .ref f51, .ref f52, .ref f53, .ref f54, .ref f55, .ref f56, .ref f57, .int 64, .int 0, .int 0, .int 0])), (f47, .inl (cA60, 1200, .inl (fun _ => 0))), (f48, .inr (2, [.ref qw58, .ref qt59, .int 0])), (qw58, .inr (0, [.ref f47, .int 0, .int 0, .int 0])), (q61, .inr (4, [.ref f62, .ref f63, .ref f64, .ref f65, .ref f66, .ref f67, .ref f68, .ref f69, .ref f70, .ref f71, .ref f72, .int 64, .int 0, .int 0, .int 0])), (f62, .inl (cA75, 1200, .inl (fun _ => 0))), (f63, .inr (2, [.ref qw73, .ref qt74, .int 0])), (qw73, .inr (0, [.ref f62, .int 0, .int 0, .int 0])), (q77, .inr (7, [.ref q78, .ref q79])), (q78, .inl (cA80, 24, .inr (.inl (fun _ => 0))))] H := hP
  have hD : va_D A [(h0, .inr (9, [.ref q44, .int 0, .ref q46, .ref q61, .int 0, .ref q76, .ref q77, .ref q81, .null, .int 0])), (q44, .inl (cA45, 1200, .inl (fun _ => 0))), (q46, .inr (4, [.ref f47, .ref f48, .ref f49, .ref f50, .ref f51, .ref f52, .ref f53, .ref f54, .ref f55, .ref f56, .ref f57, .int 64, .int 0, .int 0, .int 0])), (f47, .inl (cA60, 1200, .inl (fun _ => 0))), (f48, .inr (2, [.ref qw58, .ref qt59, .int 0])), (qw58, .inr (0, [.ref f47, .int 0, .int 0, .int 0])), (q61, .inr (4, [.ref f62, .ref f63, .ref f64, .ref f65, .ref f66, .ref f67, .ref f68, .ref f69, .ref f70, .ref f71, .ref f72, .int 64, .int 0, .int 0, .int 0])), (f62, .inl (cA75, 1200, .inl (fun _ => 0))), (f63, .inr (2, [.ref qw73, .ref qt74, .int 0])), (qw73, .inr (0, [.ref f62, .int 0, .int 0, .int 0])), (q77, .inr (7, [.ref q78, .ref q79])), (q78, .inl (cA80, 24, .inr (.inl (fun _ => 0))))] := hD
  refine lv_aload_n hx hb d_GL_init_86 rfl (lv_at hl 0 rfl) ?_
  refine lv_bipush (v := 12) hx hb d_GL_init_87 (by decide) ?_
  refine va_newa (atype := .int) (a0 := (12, .inl (fun _ => 0))) (ty := .int) (N' := 12) hx hb (hts _ (List.mem_cons_of_mem _ w_68)) rfl hK hP hD hS hA (fun _ => rfl) (by decide +kernel) (by decide +kernel) (by decide +kernel) (Nat.le_of_ble_eq_true rfl) (Nat.le_of_ble_eq_true rfl) d_GL_init_89 (fun q82 cA83 H hK hP hD hS => ?_)
  have hP : va_P (dC, dI) cls_ [(h0, .inr (9, [.ref q44, .int 0, .ref q46, .ref q61, .int 0, .ref q76, .ref q77, .ref q81, .null, .int 0])), (q44, .inl (cA45, 1200, .inl (fun _ => 0))), (q46, .inr (4, [.ref f47, .ref f48, .ref f49, .ref f50, .ref f51, .ref f52, .ref f53, .ref f54, .ref f55, .ref f56, .ref f57, .int 64, .int 0, .int 0, .int 0])), (f47, .inl (cA60, 1200, .inl (fun _ => 0))), (f48, .inr (2, [.ref qw58, .ref qt59, .int 0])), (qw58, .inr (0, [.ref f47, .int 0, .int 0, .int 0])), (q61, .inr (4, [.ref f62, .ref f63, .ref f64, .ref f65, .ref f66, .ref f67, .ref f68, .ref f69, .ref f70, .ref f71, .ref f72, .int 64, .int 0, .int 0, .int 0])), (f62, .inl (cA75, 1200, .inl (fun _ => 0))), (f63, .inr (2, [.ref qw73, .ref qt74, .int 0])), (qw73, .inr (0, [.ref f62, .int 0, .int 0, .int 0])), (q77, .inr (7, [.ref q78, .ref q79])), (q78, .inl (cA80, 24, .inr (.inl (fun _ => 0)))), (q82, .inl (cA83, 12, .inl (fun _ => 0)))] H := hP
  have hD : va_D A [(h0, .inr (9, [.ref q44, .int 0, .ref q46, .ref q61, .int 0, .ref q76, .ref q77, .ref q81, .null, .int 0])), (q44, .inl (cA45, 1200, .inl (fun _ => 0))), (q46, .inr (4, [.ref f47, .ref f48, .ref f49, .ref f50, .ref f51, .ref f52, .ref f53, .ref f54, .ref f55, .ref f56, .ref f57, .int 64, .int 0, .int 0, .int 0])), (f47, .inl (cA60, 1200, .inl (fun _ => 0))), (f48, .inr (2, [.ref qw58, .ref qt59, .int 0])), (qw58, .inr (0, [.ref f47, .int 0, .int 0, .int 0])), (q61, .inr (4, [.ref f62, .ref f63, .ref f64, .ref f65, .ref f66, .ref f67, .ref f68, .ref f69, .ref f70, .ref f71, .ref f72, .int 64, .int 0, .int 0, .int 0])), (f62, .inl (cA75, 1200, .inl (fun _ => 0))), (f63, .inr (2, [.ref qw73, .ref qt74, .int 0])), (qw73, .inr (0, [.ref f62, .int 0, .int 0, .int 0])), (q77, .inr (7, [.ref q78, .ref q79])), (q78, .inl (cA80, 24, .inr (.inl (fun _ => 0)))), (q82, .inl (cA83, 12, .inl (fun _ => 0)))] := hD
  have hK : va_K (dC, dI) cls_ [(cA45, .int), (cA60, .int), (cA75, .int), (cA80, .long), (cA83, .int)] s := hK
  refine va_putF (D := (dC, dI)) (ci := 9) (v := .ref q82) (ty := .array .int) (C := R_GL) (T := F_GL) (N := 10) hx hb hts in_GL t_GL t_GL_ok n_GL hown hK hP hD hS 0 rfl rfl 8 (by decide) (hts _ (List.mem_cons_of_mem _ w_295)) (fun _ h9 => h9) rfl hin rfl (by decide +kernel) rfl rfl (Nat.le_of_ble_eq_true rfl) d_GL_init_91 (fun H locs hP hD hS => ?_)
  have hP : va_P (dC, dI) cls_ [(h0, .inr (9, [.ref q44, .int 0, .ref q46, .ref q61, .int 0, .ref q76, .ref q77, .ref q81, .ref q82, .int 0])), (q44, .inl (cA45, 1200, .inl (fun _ => 0))), (q46, .inr (4, [.ref f47, .ref f48, .ref f49, .ref f50, .ref f51, .ref f52, .ref f53, .ref f54, .ref f55, .ref f56, .ref f57, .int 64, .int 0, .int 0, .int 0])), (f47, .inl (cA60, 1200, .inl (fun _ => 0))), (f48, .inr (2, [.ref qw58, .ref qt59, .int 0])), (qw58, .inr (0, [.ref f47, .int 0, .int 0, .int 0])), (q61, .inr (4, [.ref f62, .ref f63, .ref f64, .ref f65, .ref f66, .ref f67, .ref f68, .ref f69, .ref f70, .ref f71, .ref f72, .int 64, .int 0, .int 0, .int 0])), (f62, .inl (cA75, 1200, .inl (fun _ => 0))), (f63, .inr (2, [.ref qw73, .ref qt74, .int 0])), (qw73, .inr (0, [.ref f62, .int 0, .int 0, .int 0])), (q77, .inr (7, [.ref q78, .ref q79])), (q78, .inl (cA80, 24, .inr (.inl (fun _ => 0)))), (q82, .inl (cA83, 12, .inl (fun _ => 0)))] H := hP
  have hD : va_D A [(h0, .inr (9, [.ref q44, .int 0, .ref q46, .ref q61, .int 0, .ref q76, .ref q77, .ref q81, .ref q82, .int 0])), (q44, .inl (cA45, 1200, .inl (fun _ => 0))), (q46, .inr (4, [.ref f47, .ref f48, .ref f49, .ref f50, .ref f51, .ref f52, .ref f53, .ref f54, .ref f55, .ref f56, .ref f57, .int 64, .int 0, .int 0, .int 0])), (f47, .inl (cA60, 1200, .inl (fun _ => 0))), (f48, .inr (2, [.ref qw58, .ref qt59, .int 0])), (qw58, .inr (0, [.ref f47, .int 0, .int 0, .int 0])), (q61, .inr (4, [.ref f62, .ref f63, .ref f64, .ref f65, .ref f66, .ref f67, .ref f68, .ref f69, .ref f70, .ref f71, .ref f72, .int 64, .int 0, .int 0, .int 0])), (f62, .inl (cA75, 1200, .inl (fun _ => 0))), (f63, .inr (2, [.ref qw73, .ref qt74, .int 0])), (qw73, .inr (0, [.ref f62, .int 0, .int 0, .int 0])), (q77, .inr (7, [.ref q78, .ref q79])), (q78, .inl (cA80, 24, .inr (.inl (fun _ => 0)))), (q82, .inl (cA83, 12, .inl (fun _ => 0)))] := hD
  refine lv_aload_n hx hb d_GL_init_94 rfl (lv_at hl 0 rfl) ?_
  refine lv_iconst (v := 0) hx hb d_GL_init_95 (by decide) ?_
  refine va_put (D := (dC, dI)) (ci := 9) (v := .int 0) (ty := .int) (C := R_GL) (T := F_GL) (N := 10) hx hb hts in_GL t_GL t_GL_ok n_GL hown hK hP hD hS 0 rfl rfl 9 (by decide) (hts _ (List.mem_cons_of_mem _ w_296)) (fun _ h9 => h9) rfl  (by decide +kernel) rfl rfl (Nat.le_of_ble_eq_true rfl) d_GL_init_96 (fun H locs hP hD hS => ?_)
  have hP : va_P (dC, dI) cls_ [(h0, .inr (9, [.ref q44, .int 0, .ref q46, .ref q61, .int 0, .ref q76, .ref q77, .ref q81, .ref q82, .int 0])), (q44, .inl (cA45, 1200, .inl (fun _ => 0))), (q46, .inr (4, [.ref f47, .ref f48, .ref f49, .ref f50, .ref f51, .ref f52, .ref f53, .ref f54, .ref f55, .ref f56, .ref f57, .int 64, .int 0, .int 0, .int 0])), (f47, .inl (cA60, 1200, .inl (fun _ => 0))), (f48, .inr (2, [.ref qw58, .ref qt59, .int 0])), (qw58, .inr (0, [.ref f47, .int 0, .int 0, .int 0])), (q61, .inr (4, [.ref f62, .ref f63, .ref f64, .ref f65, .ref f66, .ref f67, .ref f68, .ref f69, .ref f70, .ref f71, .ref f72, .int 64, .int 0, .int 0, .int 0])), (f62, .inl (cA75, 1200, .inl (fun _ => 0))), (f63, .inr (2, [.ref qw73, .ref qt74, .int 0])), (qw73, .inr (0, [.ref f62, .int 0, .int 0, .int 0])), (q77, .inr (7, [.ref q78, .ref q79])), (q78, .inl (cA80, 24, .inr (.inl (fun _ => 0)))), (q82, .inl (cA83, 12, .inl (fun _ => 0)))] H := hP
  have hD : va_D A [(h0, .inr (9, [.ref q44, .int 0, .ref q46, .ref q61, .int 0, .ref q76, .ref q77, .ref q81, .ref q82, .int 0])), (q44, .inl (cA45, 1200, .inl (fun _ => 0))), (q46, .inr (4, [.ref f47, .ref f48, .ref f49, .ref f50, .ref f51, .ref f52, .ref f53, .ref f54, .ref f55, .ref f56, .ref f57, .int 64, .int 0, .int 0, .int 0])), (f47, .inl (cA60, 1200, .inl (fun _ => 0))), (f48, .inr (2, [.ref qw58, .ref qt59, .int 0])), (qw58, .inr (0, [.ref f47, .int 0, .int 0, .int 0])), (q61, .inr (4, [.ref f62, .ref f63, .ref f64, .ref f65, .ref f66, .ref f67, .ref f68, .ref f69, .ref f70, .ref f71, .ref f72, .int 64, .int 0, .int 0, .int 0])), (f62, .inl (cA75, 1200, .inl (fun _ => 0))), (f63, .inr (2, [.ref qw73, .ref qt74, .int 0])), (qw73, .inr (0, [.ref f62, .int 0, .int 0, .int 0])), (q77, .inr (7, [.ref q78, .ref q79])), (q78, .inl (cA80, 24, .inr (.inl (fun _ => 0)))), (q82, .inl (cA83, 12, .inl (fun _ => 0)))] := hD
  refine W.widen (k := 54) (n := 5394) (Nat.le_of_ble_eq_true rfl) (Nat.le_of_ble_eq_true rfl) ?_
  have hP9 := hP.sub (ws' := [(h0, .inr (9, [.ref q44, .int 0, .ref q46, .ref q61, .int 0, .ref q76, .ref q77, .ref q81, .ref q82, .int 0])), (q44, .inl (cA45, 1200, .inl (fun _ => 0))), (q61, .inr (4, [.ref f62, .ref f63, .ref f64, .ref f65, .ref f66, .ref f67, .ref f68, .ref f69, .ref f70, .ref f71, .ref f72, .int 64, .int 0, .int 0, .int 0])), (f62, .inl (cA75, 1200, .inl (fun _ => 0))), (f63, .inr (2, [.ref qw73, .ref qt74, .int 0])), (qw73, .inr (0, [.ref f62, .int 0, .int 0, .int 0])), (q77, .inr (7, [.ref q78, .ref q79])), (q78, .inl (cA80, 24, .inr (.inl (fun _ => 0)))), (q82, .inl (cA83, 12, .inl (fun _ => 0)))]) [0, 1, 6, 7, 8, 9, 10, 11, 12] rfl
  have hD9 := hD.sub (ws' := [(h0, .inr (9, [.ref q44, .int 0, .ref q46, .ref q61, .int 0, .ref q76, .ref q77, .ref q81, .ref q82, .int 0])), (q44, .inl (cA45, 1200, .inl (fun _ => 0))), (q61, .inr (4, [.ref f62, .ref f63, .ref f64, .ref f65, .ref f66, .ref f67, .ref f68, .ref f69, .ref f70, .ref f71, .ref f72, .int 64, .int 0, .int 0, .int 0])), (f62, .inl (cA75, 1200, .inl (fun _ => 0))), (f63, .inr (2, [.ref qw73, .ref qt74, .int 0])), (qw73, .inr (0, [.ref f62, .int 0, .int 0, .int 0])), (q77, .inr (7, [.ref q78, .ref q79])), (q78, .inl (cA80, 24, .inr (.inl (fun _ => 0)))), (q82, .inl (cA83, 12, .inl (fun _ => 0)))]) [0, 1, 6, 7, 8, 9, 10, 11, 12] (by decide) rfl
  have hK9 := hK.sub (tys' := [(cA45, .int), (cA75, .int), (cA80, .long), (cA83, .int)]) [0, 2, 3, 4] rfl
  exact W.vret hx hb hr (fun t ht hW => ⟨⟨(), rfl, trivial, q44, q46, q61, q76, q77, q81, q82, f62, f63, f64, f65, f66, f67, f68, f69, f70, f71, f72, qw73, qt74, q78, q79, cA45, cA75, cA80, cA83, by rw [ht]; exact hP9, va_K.moved hW.alike hK9, hD9⟩, hS.F ht⟩) hS.2.2 d_GL_init_99
set_option maxHeartbeats 4000000 in
set_option maxRecDepth 100000 in
/-- GlyphLinesModel.<init> -/
theorem c_MD_init (l : Launch) (dC : Nat → ClassId) (dI : Nat → Nat → Nat) (h1 : Nat) (sz : Nat) : Met l y_MD_init s_MD_init ({ frames := 10, cells := 26, slots := 13680, locals := 300 }) (va_Pc [.ref h1] (fun U => U.heap.size = sz ∧ va_P (dC, dI) cls_ [(h1, .inr (10, [.int 0, .int 0, .null, .int 0, .int 0, .null, .null, .null, .null, .null, .null, .null, .null, .null, .null, .null, .null, .null, .null, .null, .null, .int 0, .int 0, .int 0, .null, .null, .int 0, .null, .int 0, .null, .null, .null, .int 0, .null, .null, .null]))] U.heap ∧ va_K (dC, dI) cls_ [] U ∧ va_D (fun _ => True) [(h1, .inr (10, [.int 0, .int 0, .null, .int 0, .int 0, .null, .null, .null, .null, .null, .null, .null, .null, .null, .null, .null, .null, .null, .null, .null, .null, .int 0, .int 0, .int 0, .null, .null, .int 0, .null, .int 0, .null, .null, .null, .int 0, .null, .null, .null]))])) (va_Qv (fun _ : Unit => True) (fun (_ : Unit) (t : State) => ∃ m_file m_bytes m_places m_lengths m_glyphCount m_ems m_wides m_forms m_parts m_charts m_pointCount m_contourCount m_depths m_xs m_ys m_ons m_contours m_flags m_part m_text m_ringX m_ringY m_ringOn m_curves m_windings m_rows c_file c_bytes c_places c_text c_rows, va_P (dC, dI) cls_ [(h1, .inr (10, [.int 0, .int 0, .ref m_file, .int 0, .int 0, .ref m_bytes, .ref m_places, .ref m_lengths, .ref m_glyphCount, .ref m_ems, .ref m_wides, .ref m_forms, .ref m_parts, .ref m_charts, .ref m_pointCount, .ref m_contourCount, .ref m_depths, .ref m_xs, .ref m_ys, .ref m_ons, .ref m_contours, .int 0, .int 0, .int 0, .ref m_flags, .ref m_part, .int 0, .ref m_text, .int 0, .ref m_ringX, .ref m_ringY, .ref m_ringOn, .int 0, .ref m_curves, .ref m_windings, .ref m_rows])), (m_file, .inl (c_file, 1200, .inl (fun _ => 0))), (m_bytes, .inl (c_bytes, 2400, .inl (fun _ => 0))), (m_places, .inl (c_places, 16, .inl (fun _ => 0))), (m_text, .inl (c_text, 12, .inl (fun _ => 0))), (m_rows, .inl (c_rows, 24, .inr (.inl (fun _ => 0))))] t.heap ∧ va_K (dC, dI) cls_ [(c_file, .int), (c_bytes, .int), (c_places, .int), (c_text, .int), (c_rows, .long)] t ∧ va_D (va_A [(h1, .inr (10, [.int 0, .int 0, .null, .int 0, .int 0, .null, .null, .null, .null, .null, .null, .null, .null, .null, .null, .null, .null, .null, .null, .null, .null, .int 0, .int 0, .int 0, .null, .null, .int 0, .null, .int 0, .null, .null, .null, .int 0, .null, .null, .null]))] sz) [(h1, .inr (10, [.int 0, .int 0, .ref m_file, .int 0, .int 0, .ref m_bytes, .ref m_places, .ref m_lengths, .ref m_glyphCount, .ref m_ems, .ref m_wides, .ref m_forms, .ref m_parts, .ref m_charts, .ref m_pointCount, .ref m_contourCount, .ref m_depths, .ref m_xs, .ref m_ys, .ref m_ons, .ref m_contours, .int 0, .int 0, .int 0, .ref m_flags, .ref m_part, .int 0, .ref m_text, .int 0, .ref m_ringX, .ref m_ringY, .ref m_ringOn, .int 0, .ref m_curves, .ref m_windings, .ref m_rows])), (m_file, .inl (c_file, 1200, .inl (fun _ => 0))), (m_bytes, .inl (c_bytes, 2400, .inl (fun _ => 0))), (m_places, .inl (c_places, 16, .inl (fun _ => 0))), (m_text, .inl (c_text, 12, .inl (fun _ => 0))), (m_rows, .inl (c_rows, 24, .inr (.inl (fun _ => 0))))]) (va_A [(h1, .inr (10, [.int 0, .int 0, .null, .int 0, .int 0, .null, .null, .null, .null, .null, .null, .null, .null, .null, .null, .null, .null, .null, .null, .null, .null, .int 0, .int 0, .int 0, .null, .null, .int 0, .null, .int 0, .null, .null, .null, .int 0, .null, .null, .null]))] sz)) 26 13680 (va_A [(h1, .inr (10, [.int 0, .int 0, .null, .int 0, .int 0, .null, .null, .null, .null, .null, .null, .null, .null, .null, .null, .null, .null, .null, .null, .null, .null, .int 0, .int 0, .int 0, .null, .null, .int 0, .null, .int 0, .null, .null, .null, .int 0, .null, .null, .null]))] sz) := by
  refine Met.ofW (cc := b_MD_init) (maxL := 1) (ret := none) (by decide) rfl ?_
  intro p e s m args below meth c s₁ B hml hv
  obtain ⟨rfl, hsz, hP, hK, hD0⟩ := hv
  have hx := B.exec
  have hb := B.bytes
  have hr := B.returns
  have hts := atoms_spec (ws := s_MD_init) B.pre
  have hown : s.vm.findClass R_MD = some m.cls := findClass_of_methodNamed B.named
  have hlocks := B.notSynchronized
  have hin : meth.name = "<init>" := (name_of_methodNamed B.named B.method).1
  subst hsz
  have hD := hD0.self (sz := s.heap.size)
  generalize hAe : va_A [(h1, .inr (10, [.int 0, .int 0, .null, .int 0, .int 0, .null, .null, .null, .null, .null, .null, .null, .null, .null, .null, .null, .null, .null, .null, .null, .null, .int 0, .int 0, .int 0, .null, .null, .int 0, .null, .int 0, .null, .null, .null, .int 0, .null, .null, .null]))] s.heap.size = A at hD ⊢
  have hA : ∀ q : Nat, s.heap.size ≤ q → A q := fun q h => by rw [← hAe]; exact Or.inr h
  have hS : va_S A s.heap s.heap [] := va_S.rf
  have hP : va_P (dC, dI) cls_ [(h1, .inr (10, [.int 0, .int 0, .null, .int 0, .int 0, .null, .null, .null, .null, .null, .null, .null, .null, .null, .null, .null, .null, .null, .null, .null, .null, .int 0, .int 0, .int 0, .null, .null, .int 0, .null, .int 0, .null, .null, .null, .int 0, .null, .null, .null]))] s.heap := hP
  have hl := lv_entry ([.ref h1]) (n := 1) (Nat.le_of_ble_eq_true rfl)
  rw [lg_entry_eq]
  generalize (lg_sl ([.ref h1]) ++ List.replicate (1 - (lg_sl ([.ref h1])).length) Slot.unset).toArray = ls at hl ⊢
  have hl : lv_has ls 1 [(0, .ref h1)] := hl
  refine lv_aload_n hx hb d_MD_init_0 rfl (lv_at hl 0 rfl) ?_
  refine W.objInit hx hb hown (hts _ (List.mem_cons_of_mem _ w_851)) (hts _ (List.mem_cons_of_mem _ w_28)) (hts _ (List.mem_cons_of_mem _ w_29)) rfl (by rw [hml]; exact hl.1) rfl d_MD_init_1 (Nat.le_of_ble_eq_true rfl) (Nat.le_of_ble_eq_true rfl) ?_
  refine W.eq (g2 := F0 m 4 ls []) rfl ?_
  refine lv_aload_n hx hb d_MD_init_4 rfl (lv_at hl 0 rfl) ?_
  refine lv_sipush (v := 1200) hx hb d_MD_init_5 (by decide) ?_
  refine va_newa (atype := .int) (a0 := (1200, .inl (fun _ => 0))) (ty := .int) (N' := 1200) hx hb (hts _ (List.mem_cons_of_mem _ w_68)) rfl hK hP hD hS hA (fun _ => rfl) (by decide +kernel) (by decide +kernel) (by decide +kernel) (Nat.le_of_ble_eq_true rfl) (Nat.le_of_ble_eq_true rfl) d_MD_init_8 (fun q84 cA85 H hK hP hD hS => ?_)
  have hP : va_P (dC, dI) cls_ [(h1, .inr (10, [.int 0, .int 0, .null, .int 0, .int 0, .null, .null, .null, .null, .null, .null, .null, .null, .null, .null, .null, .null, .null, .null, .null, .null, .int 0, .int 0, .int 0, .null, .null, .int 0, .null, .int 0, .null, .null, .null, .int 0, .null, .null, .null])), (q84, .inl (cA85, 1200, .inl (fun _ => 0)))] H := hP
  have hD : va_D A [(h1, .inr (10, [.int 0, .int 0, .null, .int 0, .int 0, .null, .null, .null, .null, .null, .null, .null, .null, .null, .null, .null, .null, .null, .null, .null, .null, .int 0, .int 0, .int 0, .null, .null, .int 0, .null, .int 0, .null, .null, .null, .int 0, .null, .null, .null])), (q84, .inl (cA85, 1200, .inl (fun _ => 0)))] := hD
  have hK : va_K (dC, dI) cls_ [(cA85, .int)] s := hK
  refine va_putF (D := (dC, dI)) (ci := 10) (v := .ref q84) (ty := .array .int) (C := R_MD) (T := F_MD) (N := 36) hx hb hts in_MD t_MD t_MD_ok n_MD hown hK hP hD hS 0 rfl rfl 2 (by decide) (hts _ (List.mem_cons_of_mem _ w_854)) (fun _ h9 => h9) rfl hin rfl (by decide +kernel) rfl rfl (Nat.le_of_ble_eq_true rfl) d_MD_init_10 (fun H locs hP hD hS => ?_)
  have hP : va_P (dC, dI) cls_ [(h1, .inr (10, [.int 0, .int 0, .ref q84, .int 0, .int 0, .null, .null, .null, .null, .null, .null, .null, .null, .null, .null, .null, .null, .null, .null, .null, .null, .int 0, .int 0, .int 0, .null, .null, .int 0, .null, .int 0, .null, .null, .null, .int 0, .null, .null, .null])), (q84, .inl (cA85, 1200, .inl (fun _ => 0)))] H := hP
  have hD : va_D A [(h1, .inr (10, [.int 0, .int 0, .ref q84, .int 0, .int 0, .null, .null, .null, .null, .null, .null, .null, .null, .null, .null, .null, .null, .null, .null, .null, .null, .int 0, .int 0, .int 0, .null, .null, .int 0, .null, .int 0, .null, .null, .null, .int 0, .null, .null, .null])), (q84, .inl (cA85, 1200, .inl (fun _ => 0)))] := hD
  refine lv_aload_n hx hb d_MD_init_13 rfl (lv_at hl 0 rfl) ?_
  refine lv_sipush (v := 2400) hx hb d_MD_init_14 (by decide) ?_
  refine va_newa (atype := .int) (a0 := (2400, .inl (fun _ => 0))) (ty := .int) (N' := 2400) hx hb (hts _ (List.mem_cons_of_mem _ w_68)) rfl hK hP hD hS hA (fun _ => rfl) (by decide +kernel) (by decide +kernel) (by decide +kernel) (Nat.le_of_ble_eq_true rfl) (Nat.le_of_ble_eq_true rfl) d_MD_init_17 (fun q86 cA87 H hK hP hD hS => ?_)
  have hP : va_P (dC, dI) cls_ [(h1, .inr (10, [.int 0, .int 0, .ref q84, .int 0, .int 0, .null, .null, .null, .null, .null, .null, .null, .null, .null, .null, .null, .null, .null, .null, .null, .null, .int 0, .int 0, .int 0, .null, .null, .int 0, .null, .int 0, .null, .null, .null, .int 0, .null, .null, .null])), (q84, .inl (cA85, 1200, .inl (fun _ => 0))), (q86, .inl (cA87, 2400, .inl (fun _ => 0)))] H := hP
  have hD : va_D A [(h1, .inr (10, [.int 0, .int 0, .ref q84, .int 0, .int 0, .null, .null, .null, .null, .null, .null, .null, .null, .null, .null, .null, .null, .null, .null, .null, .null, .int 0, .int 0, .int 0, .null, .null, .int 0, .null, .int 0, .null, .null, .null, .int 0, .null, .null, .null])), (q84, .inl (cA85, 1200, .inl (fun _ => 0))), (q86, .inl (cA87, 2400, .inl (fun _ => 0)))] := hD
  have hK : va_K (dC, dI) cls_ [(cA85, .int), (cA87, .int)] s := hK
  refine va_putF (D := (dC, dI)) (ci := 10) (v := .ref q86) (ty := .array .int) (C := R_MD) (T := F_MD) (N := 36) hx hb hts in_MD t_MD t_MD_ok n_MD hown hK hP hD hS 0 rfl rfl 5 (by decide) (hts _ (List.mem_cons_of_mem _ w_857)) (fun _ h9 => h9) rfl hin rfl (by decide +kernel) rfl rfl (Nat.le_of_ble_eq_true rfl) d_MD_init_19 (fun H locs hP hD hS => ?_)
  have hP : va_P (dC, dI) cls_ [(h1, .inr (10, [.int 0, .int 0, .ref q84, .int 0, .int 0, .ref q86, .null, .null, .null, .null, .null, .null, .null, .null, .null, .null, .null, .null, .null, .null, .null, .int 0, .int 0, .int 0, .null, .null, .int 0, .null, .int 0, .null, .null, .null, .int 0, .null, .null, .null])), (q84, .inl (cA85, 1200, .inl (fun _ => 0))), (q86, .inl (cA87, 2400, .inl (fun _ => 0)))] H := hP
  have hD : va_D A [(h1, .inr (10, [.int 0, .int 0, .ref q84, .int 0, .int 0, .ref q86, .null, .null, .null, .null, .null, .null, .null, .null, .null, .null, .null, .null, .null, .null, .null, .int 0, .int 0, .int 0, .null, .null, .int 0, .null, .int 0, .null, .null, .null, .int 0, .null, .null, .null])), (q84, .inl (cA85, 1200, .inl (fun _ => 0))), (q86, .inl (cA87, 2400, .inl (fun _ => 0)))] := hD
  refine lv_aload_n hx hb d_MD_init_22 rfl (lv_at hl 0 rfl) ?_
  refine lv_bipush (v := 16) hx hb d_MD_init_23 (by decide) ?_
  refine va_newa (atype := .int) (a0 := (16, .inl (fun _ => 0))) (ty := .int) (N' := 16) hx hb (hts _ (List.mem_cons_of_mem _ w_68)) rfl hK hP hD hS hA (fun _ => rfl) (by decide +kernel) (by decide +kernel) (by decide +kernel) (Nat.le_of_ble_eq_true rfl) (Nat.le_of_ble_eq_true rfl) d_MD_init_25 (fun q88 cA89 H hK hP hD hS => ?_)
  have hP : va_P (dC, dI) cls_ [(h1, .inr (10, [.int 0, .int 0, .ref q84, .int 0, .int 0, .ref q86, .null, .null, .null, .null, .null, .null, .null, .null, .null, .null, .null, .null, .null, .null, .null, .int 0, .int 0, .int 0, .null, .null, .int 0, .null, .int 0, .null, .null, .null, .int 0, .null, .null, .null])), (q84, .inl (cA85, 1200, .inl (fun _ => 0))), (q86, .inl (cA87, 2400, .inl (fun _ => 0))), (q88, .inl (cA89, 16, .inl (fun _ => 0)))] H := hP
  have hD : va_D A [(h1, .inr (10, [.int 0, .int 0, .ref q84, .int 0, .int 0, .ref q86, .null, .null, .null, .null, .null, .null, .null, .null, .null, .null, .null, .null, .null, .null, .null, .int 0, .int 0, .int 0, .null, .null, .int 0, .null, .int 0, .null, .null, .null, .int 0, .null, .null, .null])), (q84, .inl (cA85, 1200, .inl (fun _ => 0))), (q86, .inl (cA87, 2400, .inl (fun _ => 0))), (q88, .inl (cA89, 16, .inl (fun _ => 0)))] := hD
  have hK : va_K (dC, dI) cls_ [(cA85, .int), (cA87, .int), (cA89, .int)] s := hK
  refine va_putF (D := (dC, dI)) (ci := 10) (v := .ref q88) (ty := .array .int) (C := R_MD) (T := F_MD) (N := 36) hx hb hts in_MD t_MD t_MD_ok n_MD hown hK hP hD hS 0 rfl rfl 6 (by decide) (hts _ (List.mem_cons_of_mem _ w_858)) (fun _ h9 => h9) rfl hin rfl (by decide +kernel) rfl rfl (Nat.le_of_ble_eq_true rfl) d_MD_init_27 (fun H locs hP hD hS => ?_)
  have hP : va_P (dC, dI) cls_ [(h1, .inr (10, [.int 0, .int 0, .ref q84, .int 0, .int 0, .ref q86, .ref q88, .null, .null, .null, .null, .null, .null, .null, .null, .null, .null, .null, .null, .null, .null, .int 0, .int 0, .int 0, .null, .null, .int 0, .null, .int 0, .null, .null, .null, .int 0, .null, .null, .null])), (q84, .inl (cA85, 1200, .inl (fun _ => 0))), (q86, .inl (cA87, 2400, .inl (fun _ => 0))), (q88, .inl (cA89, 16, .inl (fun _ => 0)))] H := hP
  have hD : va_D A [(h1, .inr (10, [.int 0, .int 0, .ref q84, .int 0, .int 0, .ref q86, .ref q88, .null, .null, .null, .null, .null, .null, .null, .null, .null, .null, .null, .null, .null, .null, .int 0, .int 0, .int 0, .null, .null, .int 0, .null, .int 0, .null, .null, .null, .int 0, .null, .null, .null])), (q84, .inl (cA85, 1200, .inl (fun _ => 0))), (q86, .inl (cA87, 2400, .inl (fun _ => 0))), (q88, .inl (cA89, 16, .inl (fun _ => 0)))] := hD
  refine lv_aload_n hx hb d_MD_init_30 rfl (lv_at hl 0 rfl) ?_
  refine lv_bipush (v := 16) hx hb d_MD_init_31 (by decide) ?_
  refine va_newa (atype := .int) (a0 := (16, .inl (fun _ => 0))) (ty := .int) (N' := 16) hx hb (hts _ (List.mem_cons_of_mem _ w_68)) rfl hK hP hD hS hA (fun _ => rfl) (by decide +kernel) (by decide +kernel) (by decide +kernel) (Nat.le_of_ble_eq_true rfl) (Nat.le_of_ble_eq_true rfl) d_MD_init_33 (fun q90 cA91 H hK hP hD hS => ?_)
  have hP : va_P (dC, dI) cls_ [(h1, .inr (10, [.int 0, .int 0, .ref q84, .int 0, .int 0, .ref q86, .ref q88, .null, .null, .null, .null, .null, .null, .null, .null, .null, .null, .null, .null, .null, .null, .int 0, .int 0, .int 0, .null, .null, .int 0, .null, .int 0, .null, .null, .null, .int 0, .null, .null, .null])), (q84, .inl (cA85, 1200, .inl (fun _ => 0))), (q86, .inl (cA87, 2400, .inl (fun _ => 0))), (q88, .inl (cA89, 16, .inl (fun _ => 0))), (q90, .inl (cA91, 16, .inl (fun _ => 0)))] H := hP
  have hD : va_D A [(h1, .inr (10, [.int 0, .int 0, .ref q84, .int 0, .int 0, .ref q86, .ref q88, .null, .null, .null, .null, .null, .null, .null, .null, .null, .null, .null, .null, .null, .null, .int 0, .int 0, .int 0, .null, .null, .int 0, .null, .int 0, .null, .null, .null, .int 0, .null, .null, .null])), (q84, .inl (cA85, 1200, .inl (fun _ => 0))), (q86, .inl (cA87, 2400, .inl (fun _ => 0))), (q88, .inl (cA89, 16, .inl (fun _ => 0))), (q90, .inl (cA91, 16, .inl (fun _ => 0)))] := hD
  have hK : va_K (dC, dI) cls_ [(cA85, .int), (cA87, .int), (cA89, .int), (cA91, .int)] s := hK
  refine va_putF (D := (dC, dI)) (ci := 10) (v := .ref q90) (ty := .array .int) (C := R_MD) (T := F_MD) (N := 36) hx hb hts in_MD t_MD t_MD_ok n_MD hown hK hP hD hS 0 rfl rfl 7 (by decide) (hts _ (List.mem_cons_of_mem _ w_859)) (fun _ h9 => h9) rfl hin rfl (by decide +kernel) rfl rfl (Nat.le_of_ble_eq_true rfl) d_MD_init_35 (fun H locs hP hD hS => ?_)
  have hP : va_P (dC, dI) cls_ [(h1, .inr (10, [.int 0, .int 0, .ref q84, .int 0, .int 0, .ref q86, .ref q88, .ref q90, .null, .null, .null, .null, .null, .null, .null, .null, .null, .null, .null, .null, .null, .int 0, .int 0, .int 0, .null, .null, .int 0, .null, .int 0, .null, .null, .null, .int 0, .null, .null, .null])), (q84, .inl (cA85, 1200, .inl (fun _ => 0))), (q86, .inl (cA87, 2400, .inl (fun _ => 0))), (q88, .inl (cA89, 16, .inl (fun _ => 0))), (q90, .inl (cA91, 16, .inl (fun _ => 0)))] H := hP
  have hD : va_D A [(h1, .inr (10, [.int 0, .int 0, .ref q84, .int 0, .int 0, .ref q86, .ref q88, .ref q90, .null, .null, .null, .null, .null, .null, .null, .null, .null, .null, .null, .null, .null, .int 0, .int 0, .int 0, .null, .null, .int 0, .null, .int 0, .null, .null, .null, .int 0, .null, .null, .null])), (q84, .inl (cA85, 1200, .inl (fun _ => 0))), (q86, .inl (cA87, 2400, .inl (fun _ => 0))), (q88, .inl (cA89, 16, .inl (fun _ => 0))), (q90, .inl (cA91, 16, .inl (fun _ => 0)))] := hD
  refine lv_aload_n hx hb d_MD_init_38 rfl (lv_at hl 0 rfl) ?_
  refine lv_iconst (v := 2) hx hb d_MD_init_39 (by decide) ?_
  refine va_newa (atype := .int) (a0 := (2, .inl (fun _ => 0))) (ty := .int) (N' := 2) hx hb (hts _ (List.mem_cons_of_mem _ w_68)) rfl hK hP hD hS hA (fun _ => rfl) (by decide +kernel) (by decide +kernel) (by decide +kernel) (Nat.le_of_ble_eq_true rfl) (Nat.le_of_ble_eq_true rfl) d_MD_init_40 (fun q92 cA93 H hK hP hD hS => ?_)
  have hP : va_P (dC, dI) cls_ [(h1, .inr (10, [.int 0, .int 0, .ref q84, .int 0, .int 0, .ref q86, .ref q88, .ref q90, .null, .null, .null, .null, .null, .null, .null, .null, .null, .null, .null, .null, .null, .int 0, .int 0, .int 0, .null, .null, .int 0, .null, .int 0, .null, .null, .null, .int 0, .null, .null, .null])), (q84, .inl (cA85, 1200, .inl (fun _ => 0))), (q86, .inl (cA87, 2400, .inl (fun _ => 0))), (q88, .inl (cA89, 16, .inl (fun _ => 0))), (q90, .inl (cA91, 16, .inl (fun _ => 0))), (q92, .inl (cA93, 2, .inl (fun _ => 0)))] H := hP
  have hD : va_D A [(h1, .inr (10, [.int 0, .int 0, .ref q84, .int 0, .int 0, .ref q86, .ref q88, .ref q90, .null, .null, .null, .null, .null, .null, .null, .null, .null, .null, .null, .null, .null, .int 0, .int 0, .int 0, .null, .null, .int 0, .null, .int 0, .null, .null, .null, .int 0, .null, .null, .null])), (q84, .inl (cA85, 1200, .inl (fun _ => 0))), (q86, .inl (cA87, 2400, .inl (fun _ => 0))), (q88, .inl (cA89, 16, .inl (fun _ => 0))), (q90, .inl (cA91, 16, .inl (fun _ => 0))), (q92, .inl (cA93, 2, .inl (fun _ => 0)))] := hD
  have hK : va_K (dC, dI) cls_ [(cA85, .int), (cA87, .int), (cA89, .int), (cA91, .int), (cA93, .int)] s := hK
  refine va_putF (D := (dC, dI)) (ci := 10) (v := .ref q92) (ty := .array .int) (C := R_MD) (T := F_MD) (N := 36) hx hb hts in_MD t_MD t_MD_ok n_MD hown hK hP hD hS 0 rfl rfl 8 (by decide) (hts _ (List.mem_cons_of_mem _ w_860)) (fun _ h9 => h9) rfl hin rfl (by decide +kernel) rfl rfl (Nat.le_of_ble_eq_true rfl) d_MD_init_42 (fun H locs hP hD hS => ?_)
  have hP : va_P (dC, dI) cls_ [(h1, .inr (10, [.int 0, .int 0, .ref q84, .int 0, .int 0, .ref q86, .ref q88, .ref q90, .ref q92, .null, .null, .null, .null, .null, .null, .null, .null, .null, .null, .null, .null, .int 0, .int 0, .int 0, .null, .null, .int 0, .null, .int 0, .null, .null, .null, .int 0, .null, .null, .null])), (q84, .inl (cA85, 1200, .inl (fun _ => 0))), (q86, .inl (cA87, 2400, .inl (fun _ => 0))), (q88, .inl (cA89, 16, .inl (fun _ => 0))), (q90, .inl (cA91, 16, .inl (fun _ => 0))), (q92, .inl (cA93, 2, .inl (fun _ => 0)))] H := hP
  have hD : va_D A [(h1, .inr (10, [.int 0, .int 0, .ref q84, .int 0, .int 0, .ref q86, .ref q88, .ref q90, .ref q92, .null, .null, .null, .null, .null, .null, .null, .null, .null, .null, .null, .null, .int 0, .int 0, .int 0, .null, .null, .int 0, .null, .int 0, .null, .null, .null, .int 0, .null, .null, .null])), (q84, .inl (cA85, 1200, .inl (fun _ => 0))), (q86, .inl (cA87, 2400, .inl (fun _ => 0))), (q88, .inl (cA89, 16, .inl (fun _ => 0))), (q90, .inl (cA91, 16, .inl (fun _ => 0))), (q92, .inl (cA93, 2, .inl (fun _ => 0)))] := hD
  refine lv_aload_n hx hb d_MD_init_45 rfl (lv_at hl 0 rfl) ?_
  refine lv_iconst (v := 2) hx hb d_MD_init_46 (by decide) ?_
  refine va_newa (atype := .int) (a0 := (2, .inl (fun _ => 0))) (ty := .int) (N' := 2) hx hb (hts _ (List.mem_cons_of_mem _ w_68)) rfl hK hP hD hS hA (fun _ => rfl) (by decide +kernel) (by decide +kernel) (by decide +kernel) (Nat.le_of_ble_eq_true rfl) (Nat.le_of_ble_eq_true rfl) d_MD_init_47 (fun q94 cA95 H hK hP hD hS => ?_)
  have hP : va_P (dC, dI) cls_ [(h1, .inr (10, [.int 0, .int 0, .ref q84, .int 0, .int 0, .ref q86, .ref q88, .ref q90, .ref q92, .null, .null, .null, .null, .null, .null, .null, .null, .null, .null, .null, .null, .int 0, .int 0, .int 0, .null, .null, .int 0, .null, .int 0, .null, .null, .null, .int 0, .null, .null, .null])), (q84, .inl (cA85, 1200, .inl (fun _ => 0))), (q86, .inl (cA87, 2400, .inl (fun _ => 0))), (q88, .inl (cA89, 16, .inl (fun _ => 0))), (q90, .inl (cA91, 16, .inl (fun _ => 0))), (q92, .inl (cA93, 2, .inl (fun _ => 0))), (q94, .inl (cA95, 2, .inl (fun _ => 0)))] H := hP
  have hD : va_D A [(h1, .inr (10, [.int 0, .int 0, .ref q84, .int 0, .int 0, .ref q86, .ref q88, .ref q90, .ref q92, .null, .null, .null, .null, .null, .null, .null, .null, .null, .null, .null, .null, .int 0, .int 0, .int 0, .null, .null, .int 0, .null, .int 0, .null, .null, .null, .int 0, .null, .null, .null])), (q84, .inl (cA85, 1200, .inl (fun _ => 0))), (q86, .inl (cA87, 2400, .inl (fun _ => 0))), (q88, .inl (cA89, 16, .inl (fun _ => 0))), (q90, .inl (cA91, 16, .inl (fun _ => 0))), (q92, .inl (cA93, 2, .inl (fun _ => 0))), (q94, .inl (cA95, 2, .inl (fun _ => 0)))] := hD
  have hK : va_K (dC, dI) cls_ [(cA85, .int), (cA87, .int), (cA89, .int), (cA91, .int), (cA93, .int), (cA95, .int)] s := hK
  refine va_putF (D := (dC, dI)) (ci := 10) (v := .ref q94) (ty := .array .int) (C := R_MD) (T := F_MD) (N := 36) hx hb hts in_MD t_MD t_MD_ok n_MD hown hK hP hD hS 0 rfl rfl 9 (by decide) (hts _ (List.mem_cons_of_mem _ w_861)) (fun _ h9 => h9) rfl hin rfl (by decide +kernel) rfl rfl (Nat.le_of_ble_eq_true rfl) d_MD_init_49 (fun H locs hP hD hS => ?_)
  have hP : va_P (dC, dI) cls_ [(h1, .inr (10, [.int 0, .int 0, .ref q84, .int 0, .int 0, .ref q86, .ref q88, .ref q90, .ref q92, .ref q94, .null, .null, .null, .null, .null, .null, .null, .null, .null, .null, .null, .int 0, .int 0, .int 0, .null, .null, .int 0, .null, .int 0, .null, .null, .null, .int 0, .null, .null, .null])), (q84, .inl (cA85, 1200, .inl (fun _ => 0))), (q86, .inl (cA87, 2400, .inl (fun _ => 0))), (q88, .inl (cA89, 16, .inl (fun _ => 0))), (q90, .inl (cA91, 16, .inl (fun _ => 0))), (q92, .inl (cA93, 2, .inl (fun _ => 0))), (q94, .inl (cA95, 2, .inl (fun _ => 0)))] H := hP
  have hD : va_D A [(h1, .inr (10, [.int 0, .int 0, .ref q84, .int 0, .int 0, .ref q86, .ref q88, .ref q90, .ref q92, .ref q94, .null, .null, .null, .null, .null, .null, .null, .null, .null, .null, .null, .int 0, .int 0, .int 0, .null, .null, .int 0, .null, .int 0, .null, .null, .null, .int 0, .null, .null, .null])), (q84, .inl (cA85, 1200, .inl (fun _ => 0))), (q86, .inl (cA87, 2400, .inl (fun _ => 0))), (q88, .inl (cA89, 16, .inl (fun _ => 0))), (q90, .inl (cA91, 16, .inl (fun _ => 0))), (q92, .inl (cA93, 2, .inl (fun _ => 0))), (q94, .inl (cA95, 2, .inl (fun _ => 0)))] := hD
  refine lv_aload_n hx hb d_MD_init_52 rfl (lv_at hl 0 rfl) ?_
  refine lv_iconst (v := 2) hx hb d_MD_init_53 (by decide) ?_
  refine va_newa (atype := .int) (a0 := (2, .inl (fun _ => 0))) (ty := .int) (N' := 2) hx hb (hts _ (List.mem_cons_of_mem _ w_68)) rfl hK hP hD hS hA (fun _ => rfl) (by decide +kernel) (by decide +kernel) (by decide +kernel) (Nat.le_of_ble_eq_true rfl) (Nat.le_of_ble_eq_true rfl) d_MD_init_54 (fun q96 cA97 H hK hP hD hS => ?_)
  have hP : va_P (dC, dI) cls_ [(h1, .inr (10, [.int 0, .int 0, .ref q84, .int 0, .int 0, .ref q86, .ref q88, .ref q90, .ref q92, .ref q94, .null, .null, .null, .null, .null, .null, .null, .null, .null, .null, .null, .int 0, .int 0, .int 0, .null, .null, .int 0, .null, .int 0, .null, .null, .null, .int 0, .null, .null, .null])), (q84, .inl (cA85, 1200, .inl (fun _ => 0))), (q86, .inl (cA87, 2400, .inl (fun _ => 0))), (q88, .inl (cA89, 16, .inl (fun _ => 0))), (q90, .inl (cA91, 16, .inl (fun _ => 0))), (q92, .inl (cA93, 2, .inl (fun _ => 0))), (q94, .inl (cA95, 2, .inl (fun _ => 0))), (q96, .inl (cA97, 2, .inl (fun _ => 0)))] H := hP
  have hD : va_D A [(h1, .inr (10, [.int 0, .int 0, .ref q84, .int 0, .int 0, .ref q86, .ref q88, .ref q90, .ref q92, .ref q94, .null, .null, .null, .null, .null, .null, .null, .null, .null, .null, .null, .int 0, .int 0, .int 0, .null, .null, .int 0, .null, .int 0, .null, .null, .null, .int 0, .null, .null, .null])), (q84, .inl (cA85, 1200, .inl (fun _ => 0))), (q86, .inl (cA87, 2400, .inl (fun _ => 0))), (q88, .inl (cA89, 16, .inl (fun _ => 0))), (q90, .inl (cA91, 16, .inl (fun _ => 0))), (q92, .inl (cA93, 2, .inl (fun _ => 0))), (q94, .inl (cA95, 2, .inl (fun _ => 0))), (q96, .inl (cA97, 2, .inl (fun _ => 0)))] := hD
  have hK : va_K (dC, dI) cls_ [(cA85, .int), (cA87, .int), (cA89, .int), (cA91, .int), (cA93, .int), (cA95, .int), (cA97, .int)] s := hK
  refine va_putF (D := (dC, dI)) (ci := 10) (v := .ref q96) (ty := .array .int) (C := R_MD) (T := F_MD) (N := 36) hx hb hts in_MD t_MD t_MD_ok n_MD hown hK hP hD hS 0 rfl rfl 10 (by decide) (hts _ (List.mem_cons_of_mem _ w_862)) (fun _ h9 => h9) rfl hin rfl (by decide +kernel) rfl rfl (Nat.le_of_ble_eq_true rfl) d_MD_init_56 (fun H locs hP hD hS => ?_)
  have hP : va_P (dC, dI) cls_ [(h1, .inr (10, [.int 0, .int 0, .ref q84, .int 0, .int 0, .ref q86, .ref q88, .ref q90, .ref q92, .ref q94, .ref q96, .null, .null, .null, .null, .null, .null, .null, .null, .null, .null, .int 0, .int 0, .int 0, .null, .null, .int 0, .null, .int 0, .null, .null, .null, .int 0, .null, .null, .null])), (q84, .inl (cA85, 1200, .inl (fun _ => 0))), (q86, .inl (cA87, 2400, .inl (fun _ => 0))), (q88, .inl (cA89, 16, .inl (fun _ => 0))), (q90, .inl (cA91, 16, .inl (fun _ => 0))), (q92, .inl (cA93, 2, .inl (fun _ => 0))), (q94, .inl (cA95, 2, .inl (fun _ => 0))), (q96, .inl (cA97, 2, .inl (fun _ => 0)))] H := hP
  have hD : va_D A [(h1, .inr (10, [.int 0, .int 0, .ref q84, .int 0, .int 0, .ref q86, .ref q88, .ref q90, .ref q92, .ref q94, .ref q96, .null, .null, .null, .null, .null, .null, .null, .null, .null, .null, .int 0, .int 0, .int 0, .null, .null, .int 0, .null, .int 0, .null, .null, .null, .int 0, .null, .null, .null])), (q84, .inl (cA85, 1200, .inl (fun _ => 0))), (q86, .inl (cA87, 2400, .inl (fun _ => 0))), (q88, .inl (cA89, 16, .inl (fun _ => 0))), (q90, .inl (cA91, 16, .inl (fun _ => 0))), (q92, .inl (cA93, 2, .inl (fun _ => 0))), (q94, .inl (cA95, 2, .inl (fun _ => 0))), (q96, .inl (cA97, 2, .inl (fun _ => 0)))] := hD
  refine lv_aload_n hx hb d_MD_init_59 rfl (lv_at hl 0 rfl) ?_
  refine lv_iconst (v := 2) hx hb d_MD_init_60 (by decide) ?_
  refine va_newa (atype := .int) (a0 := (2, .inl (fun _ => 0))) (ty := .int) (N' := 2) hx hb (hts _ (List.mem_cons_of_mem _ w_68)) rfl hK hP hD hS hA (fun _ => rfl) (by decide +kernel) (by decide +kernel) (by decide +kernel) (Nat.le_of_ble_eq_true rfl) (Nat.le_of_ble_eq_true rfl) d_MD_init_61 (fun q98 cA99 H hK hP hD hS => ?_)
  have hP : va_P (dC, dI) cls_ [(h1, .inr (10, [.int 0, .int 0, .ref q84, .int 0, .int 0, .ref q86, .ref q88, .ref q90, .ref q92, .ref q94, .ref q96, .null, .null, .null, .null, .null, .null, .null, .null, .null, .null, .int 0, .int 0, .int 0, .null, .null, .int 0, .null, .int 0, .null, .null, .null, .int 0, .null, .null, .null])), (q84, .inl (cA85, 1200, .inl (fun _ => 0))), (q86, .inl (cA87, 2400, .inl (fun _ => 0))), (q88, .inl (cA89, 16, .inl (fun _ => 0))), (q90, .inl (cA91, 16, .inl (fun _ => 0))), (q92, .inl (cA93, 2, .inl (fun _ => 0))), (q94, .inl (cA95, 2, .inl (fun _ => 0))), (q96, .inl (cA97, 2, .inl (fun _ => 0))), (q98, .inl (cA99, 2, .inl (fun _ => 0)))] H := hP
  have hD : va_D A [(h1, .inr (10, [.int 0, .int 0, .ref q84, .int 0, .int 0, .ref q86, .ref q88, .ref q90, .ref q92, .ref q94, .ref q96, .null, .null, .null, .null, .null, .null, .null, .null, .null, .null, .int 0, .int 0, .int 0, .null, .null, .int 0, .null, .int 0, .null, .null, .null, .int 0, .null, .null, .null])), (q84, .inl (cA85, 1200, .inl (fun _ => 0))), (q86, .inl (cA87, 2400, .inl (fun _ => 0))), (q88, .inl (cA89, 16, .inl (fun _ => 0))), (q90, .inl (cA91, 16, .inl (fun _ => 0))), (q92, .inl (cA93, 2, .inl (fun _ => 0))), (q94, .inl (cA95, 2, .inl (fun _ => 0))), (q96, .inl (cA97, 2, .inl (fun _ => 0))), (q98, .inl (cA99, 2, .inl (fun _ => 0)))] := hD
  have hK : va_K (dC, dI) cls_ [(cA85, .int), (cA87, .int), (cA89, .int), (cA91, .int), (cA93, .int), (cA95, .int), (cA97, .int), (cA99, .int)] s := hK
  refine va_putF (D := (dC, dI)) (ci := 10) (v := .ref q98) (ty := .array .int) (C := R_MD) (T := F_MD) (N := 36) hx hb hts in_MD t_MD t_MD_ok n_MD hown hK hP hD hS 0 rfl rfl 11 (by decide) (hts _ (List.mem_cons_of_mem _ w_863)) (fun _ h9 => h9) rfl hin rfl (by decide +kernel) rfl rfl (Nat.le_of_ble_eq_true rfl) d_MD_init_63 (fun H locs hP hD hS => ?_)
  have hP : va_P (dC, dI) cls_ [(h1, .inr (10, [.int 0, .int 0, .ref q84, .int 0, .int 0, .ref q86, .ref q88, .ref q90, .ref q92, .ref q94, .ref q96, .ref q98, .null, .null, .null, .null, .null, .null, .null, .null, .null, .int 0, .int 0, .int 0, .null, .null, .int 0, .null, .int 0, .null, .null, .null, .int 0, .null, .null, .null])), (q84, .inl (cA85, 1200, .inl (fun _ => 0))), (q86, .inl (cA87, 2400, .inl (fun _ => 0))), (q88, .inl (cA89, 16, .inl (fun _ => 0))), (q90, .inl (cA91, 16, .inl (fun _ => 0))), (q92, .inl (cA93, 2, .inl (fun _ => 0))), (q94, .inl (cA95, 2, .inl (fun _ => 0))), (q96, .inl (cA97, 2, .inl (fun _ => 0))), (q98, .inl (cA99, 2, .inl (fun _ => 0)))] H := hP
  have hD : va_D A [(h1, .inr (10, [.int 0, .int 0, .ref q84, .int 0, .int 0, .ref q86, .ref q88, .ref q90, .ref q92, .ref q94, .ref q96, .ref q98, .null, .null, .null, .null, .null, .null, .null, .null, .null, .int 0, .int 0, .int 0, .null, .null, .int 0, .null, .int 0, .null, .null, .null, .int 0, .null, .null, .null])), (q84, .inl (cA85, 1200, .inl (fun _ => 0))), (q86, .inl (cA87, 2400, .inl (fun _ => 0))), (q88, .inl (cA89, 16, .inl (fun _ => 0))), (q90, .inl (cA91, 16, .inl (fun _ => 0))), (q92, .inl (cA93, 2, .inl (fun _ => 0))), (q94, .inl (cA95, 2, .inl (fun _ => 0))), (q96, .inl (cA97, 2, .inl (fun _ => 0))), (q98, .inl (cA99, 2, .inl (fun _ => 0)))] := hD
  refine lv_aload_n hx hb d_MD_init_66 rfl (lv_at hl 0 rfl) ?_
  refine lv_iconst (v := 2) hx hb d_MD_init_67 (by decide) ?_
  refine va_newa (atype := .int) (a0 := (2, .inl (fun _ => 0))) (ty := .int) (N' := 2) hx hb (hts _ (List.mem_cons_of_mem _ w_68)) rfl hK hP hD hS hA (fun _ => rfl) (by decide +kernel) (by decide +kernel) (by decide +kernel) (Nat.le_of_ble_eq_true rfl) (Nat.le_of_ble_eq_true rfl) d_MD_init_68 (fun q100 cA101 H hK hP hD hS => ?_)
  have hP : va_P (dC, dI) cls_ [(h1, .inr (10, [.int 0, .int 0, .ref q84, .int 0, .int 0, .ref q86, .ref q88, .ref q90, .ref q92, .ref q94, .ref q96, .ref q98, .null, .null, .null, .null, .null, .null, .null, .null, .null, .int 0, .int 0, .int 0, .null, .null, .int 0, .null, .int 0, .null, .null, .null, .int 0, .null, .null, .null])), (q84, .inl (cA85, 1200, .inl (fun _ => 0))), (q86, .inl (cA87, 2400, .inl (fun _ => 0))), (q88, .inl (cA89, 16, .inl (fun _ => 0))), (q90, .inl (cA91, 16, .inl (fun _ => 0))), (q92, .inl (cA93, 2, .inl (fun _ => 0))), (q94, .inl (cA95, 2, .inl (fun _ => 0))), (q96, .inl (cA97, 2, .inl (fun _ => 0))), (q98, .inl (cA99, 2, .inl (fun _ => 0))), (q100, .inl (cA101, 2, .inl (fun _ => 0)))] H := hP
  have hD : va_D A [(h1, .inr (10, [.int 0, .int 0, .ref q84, .int 0, .int 0, .ref q86, .ref q88, .ref q90, .ref q92, .ref q94, .ref q96, .ref q98, .null, .null, .null, .null, .null, .null, .null, .null, .null, .int 0, .int 0, .int 0, .null, .null, .int 0, .null, .int 0, .null, .null, .null, .int 0, .null, .null, .null])), (q84, .inl (cA85, 1200, .inl (fun _ => 0))), (q86, .inl (cA87, 2400, .inl (fun _ => 0))), (q88, .inl (cA89, 16, .inl (fun _ => 0))), (q90, .inl (cA91, 16, .inl (fun _ => 0))), (q92, .inl (cA93, 2, .inl (fun _ => 0))), (q94, .inl (cA95, 2, .inl (fun _ => 0))), (q96, .inl (cA97, 2, .inl (fun _ => 0))), (q98, .inl (cA99, 2, .inl (fun _ => 0))), (q100, .inl (cA101, 2, .inl (fun _ => 0)))] := hD
  have hK : va_K (dC, dI) cls_ [(cA85, .int), (cA87, .int), (cA89, .int), (cA91, .int), (cA93, .int), (cA95, .int), (cA97, .int), (cA99, .int), (cA101, .int)] s := hK
  refine va_putF (D := (dC, dI)) (ci := 10) (v := .ref q100) (ty := .array .int) (C := R_MD) (T := F_MD) (N := 36) hx hb hts in_MD t_MD t_MD_ok n_MD hown hK hP hD hS 0 rfl rfl 12 (by decide) (hts _ (List.mem_cons_of_mem _ w_864)) (fun _ h9 => h9) rfl hin rfl (by decide +kernel) rfl rfl (Nat.le_of_ble_eq_true rfl) d_MD_init_70 (fun H locs hP hD hS => ?_)
  have hP : va_P (dC, dI) cls_ [(h1, .inr (10, [.int 0, .int 0, .ref q84, .int 0, .int 0, .ref q86, .ref q88, .ref q90, .ref q92, .ref q94, .ref q96, .ref q98, .ref q100, .null, .null, .null, .null, .null, .null, .null, .null, .int 0, .int 0, .int 0, .null, .null, .int 0, .null, .int 0, .null, .null, .null, .int 0, .null, .null, .null])), (q84, .inl (cA85, 1200, .inl (fun _ => 0))), (q86, .inl (cA87, 2400, .inl (fun _ => 0))), (q88, .inl (cA89, 16, .inl (fun _ => 0))), (q90, .inl (cA91, 16, .inl (fun _ => 0))), (q92, .inl (cA93, 2, .inl (fun _ => 0))), (q94, .inl (cA95, 2, .inl (fun _ => 0))), (q96, .inl (cA97, 2, .inl (fun _ => 0))), (q98, .inl (cA99, 2, .inl (fun _ => 0))), (q100, .inl (cA101, 2, .inl (fun _ => 0)))] H := hP
  have hD : va_D A [(h1, .inr (10, [.int 0, .int 0, .ref q84, .int 0, .int 0, .ref q86, .ref q88, .ref q90, .ref q92, .ref q94, .ref q96, .ref q98, .ref q100, .null, .null, .null, .null, .null, .null, .null, .null, .int 0, .int 0, .int 0, .null, .null, .int 0, .null, .int 0, .null, .null, .null, .int 0, .null, .null, .null])), (q84, .inl (cA85, 1200, .inl (fun _ => 0))), (q86, .inl (cA87, 2400, .inl (fun _ => 0))), (q88, .inl (cA89, 16, .inl (fun _ => 0))), (q90, .inl (cA91, 16, .inl (fun _ => 0))), (q92, .inl (cA93, 2, .inl (fun _ => 0))), (q94, .inl (cA95, 2, .inl (fun _ => 0))), (q96, .inl (cA97, 2, .inl (fun _ => 0))), (q98, .inl (cA99, 2, .inl (fun _ => 0))), (q100, .inl (cA101, 2, .inl (fun _ => 0)))] := hD
  refine lv_aload_n hx hb d_MD_init_73 rfl (lv_at hl 0 rfl) ?_
  refine lv_iconst (v := 2) hx hb d_MD_init_74 (by decide) ?_
  refine va_newa (atype := .int) (a0 := (2, .inl (fun _ => 0))) (ty := .int) (N' := 2) hx hb (hts _ (List.mem_cons_of_mem _ w_68)) rfl hK hP hD hS hA (fun _ => rfl) (by decide +kernel) (by decide +kernel) (by decide +kernel) (Nat.le_of_ble_eq_true rfl) (Nat.le_of_ble_eq_true rfl) d_MD_init_75 (fun q102 cA103 H hK hP hD hS => ?_)
  have hP : va_P (dC, dI) cls_ [(h1, .inr (10, [.int 0, .int 0, .ref q84, .int 0, .int 0, .ref q86, .ref q88, .ref q90, .ref q92, .ref q94, .ref q96, .ref q98, .ref q100, .null, .null, .null, .null, .null, .null, .null, .null, .int 0, .int 0, .int 0, .null, .null, .int 0, .null, .int 0, .null, .null, .null, .int 0, .null, .null, .null])), (q84, .inl (cA85, 1200, .inl (fun _ => 0))), (q86, .inl (cA87, 2400, .inl (fun _ => 0))), (q88, .inl (cA89, 16, .inl (fun _ => 0))), (q90, .inl (cA91, 16, .inl (fun _ => 0))), (q92, .inl (cA93, 2, .inl (fun _ => 0))), (q94, .inl (cA95, 2, .inl (fun _ => 0))), (q96, .inl (cA97, 2, .inl (fun _ => 0))), (q98, .inl (cA99, 2, .inl (fun _ => 0))), (q100, .inl (cA101, 2, .inl (fun _ => 0))), (q102, .inl (cA103, 2, .inl (fun _ => 0)))] H := hP
  have hD : va_D A [(h1, .inr (10, [.int 0, .int 0, .ref q84, .int 0, .int 0, .ref q86, .ref q88, .ref q90, .ref q92, .ref q94, .ref q96, .ref q98, .ref q100, .null, .null, .null, .null, .null, .null, .null, .null, .int 0, .int 0, .int 0, .null, .null, .int 0, .null, .int 0, .null, .null, .null, .int 0, .null, .null, .null])), (q84, .inl (cA85, 1200, .inl (fun _ => 0))), (q86, .inl (cA87, 2400, .inl (fun _ => 0))), (q88, .inl (cA89, 16, .inl (fun _ => 0))), (q90, .inl (cA91, 16, .inl (fun _ => 0))), (q92, .inl (cA93, 2, .inl (fun _ => 0))), (q94, .inl (cA95, 2, .inl (fun _ => 0))), (q96, .inl (cA97, 2, .inl (fun _ => 0))), (q98, .inl (cA99, 2, .inl (fun _ => 0))), (q100, .inl (cA101, 2, .inl (fun _ => 0))), (q102, .inl (cA103, 2, .inl (fun _ => 0)))] := hD
  have hK : va_K (dC, dI) cls_ [(cA85, .int), (cA87, .int), (cA89, .int), (cA91, .int), (cA93, .int), (cA95, .int), (cA97, .int), (cA99, .int), (cA101, .int), (cA103, .int)] s := hK
  refine va_putF (D := (dC, dI)) (ci := 10) (v := .ref q102) (ty := .array .int) (C := R_MD) (T := F_MD) (N := 36) hx hb hts in_MD t_MD t_MD_ok n_MD hown hK hP hD hS 0 rfl rfl 13 (by decide) (hts _ (List.mem_cons_of_mem _ w_865)) (fun _ h9 => h9) rfl hin rfl (by decide +kernel) rfl rfl (Nat.le_of_ble_eq_true rfl) d_MD_init_77 (fun H locs hP hD hS => ?_)
  have hP : va_P (dC, dI) cls_ [(h1, .inr (10, [.int 0, .int 0, .ref q84, .int 0, .int 0, .ref q86, .ref q88, .ref q90, .ref q92, .ref q94, .ref q96, .ref q98, .ref q100, .ref q102, .null, .null, .null, .null, .null, .null, .null, .int 0, .int 0, .int 0, .null, .null, .int 0, .null, .int 0, .null, .null, .null, .int 0, .null, .null, .null])), (q84, .inl (cA85, 1200, .inl (fun _ => 0))), (q86, .inl (cA87, 2400, .inl (fun _ => 0))), (q88, .inl (cA89, 16, .inl (fun _ => 0))), (q90, .inl (cA91, 16, .inl (fun _ => 0))), (q92, .inl (cA93, 2, .inl (fun _ => 0))), (q94, .inl (cA95, 2, .inl (fun _ => 0))), (q96, .inl (cA97, 2, .inl (fun _ => 0))), (q98, .inl (cA99, 2, .inl (fun _ => 0))), (q100, .inl (cA101, 2, .inl (fun _ => 0))), (q102, .inl (cA103, 2, .inl (fun _ => 0)))] H := hP
  have hD : va_D A [(h1, .inr (10, [.int 0, .int 0, .ref q84, .int 0, .int 0, .ref q86, .ref q88, .ref q90, .ref q92, .ref q94, .ref q96, .ref q98, .ref q100, .ref q102, .null, .null, .null, .null, .null, .null, .null, .int 0, .int 0, .int 0, .null, .null, .int 0, .null, .int 0, .null, .null, .null, .int 0, .null, .null, .null])), (q84, .inl (cA85, 1200, .inl (fun _ => 0))), (q86, .inl (cA87, 2400, .inl (fun _ => 0))), (q88, .inl (cA89, 16, .inl (fun _ => 0))), (q90, .inl (cA91, 16, .inl (fun _ => 0))), (q92, .inl (cA93, 2, .inl (fun _ => 0))), (q94, .inl (cA95, 2, .inl (fun _ => 0))), (q96, .inl (cA97, 2, .inl (fun _ => 0))), (q98, .inl (cA99, 2, .inl (fun _ => 0))), (q100, .inl (cA101, 2, .inl (fun _ => 0))), (q102, .inl (cA103, 2, .inl (fun _ => 0)))] := hD
  refine lv_aload_n hx hb d_MD_init_80 rfl (lv_at hl 0 rfl) ?_
  refine lv_bipush (v := 32) hx hb d_MD_init_81 (by decide) ?_
  refine va_newa (atype := .int) (a0 := (32, .inl (fun _ => 0))) (ty := .int) (N' := 32) hx hb (hts _ (List.mem_cons_of_mem _ w_68)) rfl hK hP hD hS hA (fun _ => rfl) (by decide +kernel) (by decide +kernel) (by decide +kernel) (Nat.le_of_ble_eq_true rfl) (Nat.le_of_ble_eq_true rfl) d_MD_init_83 (fun q104 cA105 H hK hP hD hS => ?_)
  have hP : va_P (dC, dI) cls_ [(h1, .inr (10, [.int 0, .int 0, .ref q84, .int 0, .int 0, .ref q86, .ref q88, .ref q90, .ref q92, .ref q94, .ref q96, .ref q98, .ref q100, .ref q102, .null, .null, .null, .null, .null, .null, .null, .int 0, .int 0, .int 0, .null, .null, .int 0, .null, .int 0, .null, .null, .null, .int 0, .null, .null, .null])), (q84, .inl (cA85, 1200, .inl (fun _ => 0))), (q86, .inl (cA87, 2400, .inl (fun _ => 0))), (q88, .inl (cA89, 16, .inl (fun _ => 0))), (q90, .inl (cA91, 16, .inl (fun _ => 0))), (q92, .inl (cA93, 2, .inl (fun _ => 0))), (q94, .inl (cA95, 2, .inl (fun _ => 0))), (q96, .inl (cA97, 2, .inl (fun _ => 0))), (q98, .inl (cA99, 2, .inl (fun _ => 0))), (q100, .inl (cA101, 2, .inl (fun _ => 0))), (q102, .inl (cA103, 2, .inl (fun _ => 0))), (q104, .inl (cA105, 32, .inl (fun _ => 0)))] H := hP
  have hD : va_D A [(h1, .inr (10, [.int 0, .int 0, .ref q84, .int 0, .int 0, .ref q86, .ref q88, .ref q90, .ref q92, .ref q94, .ref q96, .ref q98, .ref q100, .ref q102, .null, .null, .null, .null, .null, .null, .null, .int 0, .int 0, .int 0, .null, .null, .int 0, .null, .int 0, .null, .null, .null, .int 0, .null, .null, .null])), (q84, .inl (cA85, 1200, .inl (fun _ => 0))), (q86, .inl (cA87, 2400, .inl (fun _ => 0))), (q88, .inl (cA89, 16, .inl (fun _ => 0))), (q90, .inl (cA91, 16, .inl (fun _ => 0))), (q92, .inl (cA93, 2, .inl (fun _ => 0))), (q94, .inl (cA95, 2, .inl (fun _ => 0))), (q96, .inl (cA97, 2, .inl (fun _ => 0))), (q98, .inl (cA99, 2, .inl (fun _ => 0))), (q100, .inl (cA101, 2, .inl (fun _ => 0))), (q102, .inl (cA103, 2, .inl (fun _ => 0))), (q104, .inl (cA105, 32, .inl (fun _ => 0)))] := hD
  have hK : va_K (dC, dI) cls_ [(cA85, .int), (cA87, .int), (cA89, .int), (cA91, .int), (cA93, .int), (cA95, .int), (cA97, .int), (cA99, .int), (cA101, .int), (cA103, .int), (cA105, .int)] s := hK
  refine va_putF (D := (dC, dI)) (ci := 10) (v := .ref q104) (ty := .array .int) (C := R_MD) (T := F_MD) (N := 36) hx hb hts in_MD t_MD t_MD_ok n_MD hown hK hP hD hS 0 rfl rfl 14 (by decide) (hts _ (List.mem_cons_of_mem _ w_866)) (fun _ h9 => h9) rfl hin rfl (by decide +kernel) rfl rfl (Nat.le_of_ble_eq_true rfl) d_MD_init_85 (fun H locs hP hD hS => ?_)
  have hP : va_P (dC, dI) cls_ [(h1, .inr (10, [.int 0, .int 0, .ref q84, .int 0, .int 0, .ref q86, .ref q88, .ref q90, .ref q92, .ref q94, .ref q96, .ref q98, .ref q100, .ref q102, .ref q104, .null, .null, .null, .null, .null, .null, .int 0, .int 0, .int 0, .null, .null, .int 0, .null, .int 0, .null, .null, .null, .int 0, .null, .null, .null])), (q84, .inl (cA85, 1200, .inl (fun _ => 0))), (q86, .inl (cA87, 2400, .inl (fun _ => 0))), (q88, .inl (cA89, 16, .inl (fun _ => 0))), (q90, .inl (cA91, 16, .inl (fun _ => 0))), (q92, .inl (cA93, 2, .inl (fun _ => 0))), (q94, .inl (cA95, 2, .inl (fun _ => 0))), (q96, .inl (cA97, 2, .inl (fun _ => 0))), (q98, .inl (cA99, 2, .inl (fun _ => 0))), (q100, .inl (cA101, 2, .inl (fun _ => 0))), (q102, .inl (cA103, 2, .inl (fun _ => 0))), (q104, .inl (cA105, 32, .inl (fun _ => 0)))] H := hP
  have hD : va_D A [(h1, .inr (10, [.int 0, .int 0, .ref q84, .int 0, .int 0, .ref q86, .ref q88, .ref q90, .ref q92, .ref q94, .ref q96, .ref q98, .ref q100, .ref q102, .ref q104, .null, .null, .null, .null, .null, .null, .int 0, .int 0, .int 0, .null, .null, .int 0, .null, .int 0, .null, .null, .null, .int 0, .null, .null, .null])), (q84, .inl (cA85, 1200, .inl (fun _ => 0))), (q86, .inl (cA87, 2400, .inl (fun _ => 0))), (q88, .inl (cA89, 16, .inl (fun _ => 0))), (q90, .inl (cA91, 16, .inl (fun _ => 0))), (q92, .inl (cA93, 2, .inl (fun _ => 0))), (q94, .inl (cA95, 2, .inl (fun _ => 0))), (q96, .inl (cA97, 2, .inl (fun _ => 0))), (q98, .inl (cA99, 2, .inl (fun _ => 0))), (q100, .inl (cA101, 2, .inl (fun _ => 0))), (q102, .inl (cA103, 2, .inl (fun _ => 0))), (q104, .inl (cA105, 32, .inl (fun _ => 0)))] := hD
  refine lv_aload_n hx hb d_MD_init_88 rfl (lv_at hl 0 rfl) ?_
  refine lv_bipush (v := 32) hx hb d_MD_init_89 (by decide) ?_
  refine va_newa (atype := .int) (a0 := (32, .inl (fun _ => 0))) (ty := .int) (N' := 32) hx hb (hts _ (List.mem_cons_of_mem _ w_68)) rfl hK hP hD hS hA (fun _ => rfl) (by decide +kernel) (by decide +kernel) (by decide +kernel) (Nat.le_of_ble_eq_true rfl) (Nat.le_of_ble_eq_true rfl) d_MD_init_91 (fun q106 cA107 H hK hP hD hS => ?_)
  have hP : va_P (dC, dI) cls_ [(h1, .inr (10, [.int 0, .int 0, .ref q84, .int 0, .int 0, .ref q86, .ref q88, .ref q90, .ref q92, .ref q94, .ref q96, .ref q98, .ref q100, .ref q102, .ref q104, .null, .null, .null, .null, .null, .null, .int 0, .int 0, .int 0, .null, .null, .int 0, .null, .int 0, .null, .null, .null, .int 0, .null, .null, .null])), (q84, .inl (cA85, 1200, .inl (fun _ => 0))), (q86, .inl (cA87, 2400, .inl (fun _ => 0))), (q88, .inl (cA89, 16, .inl (fun _ => 0))), (q90, .inl (cA91, 16, .inl (fun _ => 0))), (q92, .inl (cA93, 2, .inl (fun _ => 0))), (q94, .inl (cA95, 2, .inl (fun _ => 0))), (q96, .inl (cA97, 2, .inl (fun _ => 0))), (q98, .inl (cA99, 2, .inl (fun _ => 0))), (q100, .inl (cA101, 2, .inl (fun _ => 0))), (q102, .inl (cA103, 2, .inl (fun _ => 0))), (q104, .inl (cA105, 32, .inl (fun _ => 0))), (q106, .inl (cA107, 32, .inl (fun _ => 0)))] H := hP
  have hD : va_D A [(h1, .inr (10, [.int 0, .int 0, .ref q84, .int 0, .int 0, .ref q86, .ref q88, .ref q90, .ref q92, .ref q94, .ref q96, .ref q98, .ref q100, .ref q102, .ref q104, .null, .null, .null, .null, .null, .null, .int 0, .int 0, .int 0, .null, .null, .int 0, .null, .int 0, .null, .null, .null, .int 0, .null, .null, .null])), (q84, .inl (cA85, 1200, .inl (fun _ => 0))), (q86, .inl (cA87, 2400, .inl (fun _ => 0))), (q88, .inl (cA89, 16, .inl (fun _ => 0))), (q90, .inl (cA91, 16, .inl (fun _ => 0))), (q92, .inl (cA93, 2, .inl (fun _ => 0))), (q94, .inl (cA95, 2, .inl (fun _ => 0))), (q96, .inl (cA97, 2, .inl (fun _ => 0))), (q98, .inl (cA99, 2, .inl (fun _ => 0))), (q100, .inl (cA101, 2, .inl (fun _ => 0))), (q102, .inl (cA103, 2, .inl (fun _ => 0))), (q104, .inl (cA105, 32, .inl (fun _ => 0))), (q106, .inl (cA107, 32, .inl (fun _ => 0)))] := hD
  have hK : va_K (dC, dI) cls_ [(cA85, .int), (cA87, .int), (cA89, .int), (cA91, .int), (cA93, .int), (cA95, .int), (cA97, .int), (cA99, .int), (cA101, .int), (cA103, .int), (cA105, .int), (cA107, .int)] s := hK
  refine va_putF (D := (dC, dI)) (ci := 10) (v := .ref q106) (ty := .array .int) (C := R_MD) (T := F_MD) (N := 36) hx hb hts in_MD t_MD t_MD_ok n_MD hown hK hP hD hS 0 rfl rfl 15 (by decide) (hts _ (List.mem_cons_of_mem _ w_867)) (fun _ h9 => h9) rfl hin rfl (by decide +kernel) rfl rfl (Nat.le_of_ble_eq_true rfl) d_MD_init_93 (fun H locs hP hD hS => ?_)
  have hP : va_P (dC, dI) cls_ [(h1, .inr (10, [.int 0, .int 0, .ref q84, .int 0, .int 0, .ref q86, .ref q88, .ref q90, .ref q92, .ref q94, .ref q96, .ref q98, .ref q100, .ref q102, .ref q104, .ref q106, .null, .null, .null, .null, .null, .int 0, .int 0, .int 0, .null, .null, .int 0, .null, .int 0, .null, .null, .null, .int 0, .null, .null, .null])), (q84, .inl (cA85, 1200, .inl (fun _ => 0))), (q86, .inl (cA87, 2400, .inl (fun _ => 0))), (q88, .inl (cA89, 16, .inl (fun _ => 0))), (q90, .inl (cA91, 16, .inl (fun _ => 0))), (q92, .inl (cA93, 2, .inl (fun _ => 0))), (q94, .inl (cA95, 2, .inl (fun _ => 0))), (q96, .inl (cA97, 2, .inl (fun _ => 0))), (q98, .inl (cA99, 2, .inl (fun _ => 0))), (q100, .inl (cA101, 2, .inl (fun _ => 0))), (q102, .inl (cA103, 2, .inl (fun _ => 0))), (q104, .inl (cA105, 32, .inl (fun _ => 0))), (q106, .inl (cA107, 32, .inl (fun _ => 0)))] H := hP
  have hD : va_D A [(h1, .inr (10, [.int 0, .int 0, .ref q84, .int 0, .int 0, .ref q86, .ref q88, .ref q90, .ref q92, .ref q94, .ref q96, .ref q98, .ref q100, .ref q102, .ref q104, .ref q106, .null, .null, .null, .null, .null, .int 0, .int 0, .int 0, .null, .null, .int 0, .null, .int 0, .null, .null, .null, .int 0, .null, .null, .null])), (q84, .inl (cA85, 1200, .inl (fun _ => 0))), (q86, .inl (cA87, 2400, .inl (fun _ => 0))), (q88, .inl (cA89, 16, .inl (fun _ => 0))), (q90, .inl (cA91, 16, .inl (fun _ => 0))), (q92, .inl (cA93, 2, .inl (fun _ => 0))), (q94, .inl (cA95, 2, .inl (fun _ => 0))), (q96, .inl (cA97, 2, .inl (fun _ => 0))), (q98, .inl (cA99, 2, .inl (fun _ => 0))), (q100, .inl (cA101, 2, .inl (fun _ => 0))), (q102, .inl (cA103, 2, .inl (fun _ => 0))), (q104, .inl (cA105, 32, .inl (fun _ => 0))), (q106, .inl (cA107, 32, .inl (fun _ => 0)))] := hD
  refine lv_aload_n hx hb d_MD_init_96 rfl (lv_at hl 0 rfl) ?_
  refine lv_bipush (v := 32) hx hb d_MD_init_97 (by decide) ?_
  refine va_newa (atype := .int) (a0 := (32, .inl (fun _ => 0))) (ty := .int) (N' := 32) hx hb (hts _ (List.mem_cons_of_mem _ w_68)) rfl hK hP hD hS hA (fun _ => rfl) (by decide +kernel) (by decide +kernel) (by decide +kernel) (Nat.le_of_ble_eq_true rfl) (Nat.le_of_ble_eq_true rfl) d_MD_init_99 (fun q108 cA109 H hK hP hD hS => ?_)
  have hP : va_P (dC, dI) cls_ [(h1, .inr (10, [.int 0, .int 0, .ref q84, .int 0, .int 0, .ref q86, .ref q88, .ref q90, .ref q92, .ref q94, .ref q96, .ref q98, .ref q100, .ref q102, .ref q104, .ref q106, .null, .null, .null, .null, .null, .int 0, .int 0, .int 0, .null, .null, .int 0, .null, .int 0, .null, .null, .null, .int 0, .null, .null, .null])), (q84, .inl (cA85, 1200, .inl (fun _ => 0))), (q86, .inl (cA87, 2400, .inl (fun _ => 0))), (q88, .inl (cA89, 16, .inl (fun _ => 0))), (q90, .inl (cA91, 16, .inl (fun _ => 0))), (q92, .inl (cA93, 2, .inl (fun _ => 0))), (q94, .inl (cA95, 2, .inl (fun _ => 0))), (q96, .inl (cA97, 2, .inl (fun _ => 0))), (q98, .inl (cA99, 2, .inl (fun _ => 0))), (q100, .inl (cA101, 2, .inl (fun _ => 0))), (q102, .inl (cA103, 2, .inl (fun _ => 0))), (q104, .inl (cA105, 32, .inl (fun _ => 0))), (q106, .inl (cA107, 32, .inl (fun _ => 0))), (q108, .inl (cA109, 32, .inl (fun _ => 0)))] H := hP
  have hD : va_D A [(h1, .inr (10, [.int 0, .int 0, .ref q84, .int 0, .int 0, .ref q86, .ref q88, .ref q90, .ref q92, .ref q94, .ref q96, .ref q98, .ref q100, .ref q102, .ref q104, .ref q106, .null, .null, .null, .null, .null, .int 0, .int 0, .int 0, .null, .null, .int 0, .null, .int 0, .null, .null, .null, .int 0, .null, .null, .null])), (q84, .inl (cA85, 1200, .inl (fun _ => 0))), (q86, .inl (cA87, 2400, .inl (fun _ => 0))), (q88, .inl (cA89, 16, .inl (fun _ => 0))), (q90, .inl (cA91, 16, .inl (fun _ => 0))), (q92, .inl (cA93, 2, .inl (fun _ => 0))), (q94, .inl (cA95, 2, .inl (fun _ => 0))), (q96, .inl (cA97, 2, .inl (fun _ => 0))), (q98, .inl (cA99, 2, .inl (fun _ => 0))), (q100, .inl (cA101, 2, .inl (fun _ => 0))), (q102, .inl (cA103, 2, .inl (fun _ => 0))), (q104, .inl (cA105, 32, .inl (fun _ => 0))), (q106, .inl (cA107, 32, .inl (fun _ => 0))), (q108, .inl (cA109, 32, .inl (fun _ => 0)))] := hD
  have hK : va_K (dC, dI) cls_ [(cA85, .int), (cA87, .int), (cA89, .int), (cA91, .int), (cA93, .int), (cA95, .int), (cA97, .int), (cA99, .int), (cA101, .int), (cA103, .int), (cA105, .int), (cA107, .int), (cA109, .int)] s := hK
  refine va_putF (D := (dC, dI)) (ci := 10) (v := .ref q108) (ty := .array .int) (C := R_MD) (T := F_MD) (N := 36) hx hb hts in_MD t_MD t_MD_ok n_MD hown hK hP hD hS 0 rfl rfl 16 (by decide) (hts _ (List.mem_cons_of_mem _ w_868)) (fun _ h9 => h9) rfl hin rfl (by decide +kernel) rfl rfl (Nat.le_of_ble_eq_true rfl) d_MD_init_101 (fun H locs hP hD hS => ?_)
  have hP : va_P (dC, dI) cls_ [(h1, .inr (10, [.int 0, .int 0, .ref q84, .int 0, .int 0, .ref q86, .ref q88, .ref q90, .ref q92, .ref q94, .ref q96, .ref q98, .ref q100, .ref q102, .ref q104, .ref q106, .ref q108, .null, .null, .null, .null, .int 0, .int 0, .int 0, .null, .null, .int 0, .null, .int 0, .null, .null, .null, .int 0, .null, .null, .null])), (q84, .inl (cA85, 1200, .inl (fun _ => 0))), (q86, .inl (cA87, 2400, .inl (fun _ => 0))), (q88, .inl (cA89, 16, .inl (fun _ => 0))), (q90, .inl (cA91, 16, .inl (fun _ => 0))), (q92, .inl (cA93, 2, .inl (fun _ => 0))), (q94, .inl (cA95, 2, .inl (fun _ => 0))), (q96, .inl (cA97, 2, .inl (fun _ => 0))), (q98, .inl (cA99, 2, .inl (fun _ => 0))), (q100, .inl (cA101, 2, .inl (fun _ => 0))), (q102, .inl (cA103, 2, .inl (fun _ => 0))), (q104, .inl (cA105, 32, .inl (fun _ => 0))), (q106, .inl (cA107, 32, .inl (fun _ => 0))), (q108, .inl (cA109, 32, .inl (fun _ => 0)))] H := hP
  have hD : va_D A [(h1, .inr (10, [.int 0, .int 0, .ref q84, .int 0, .int 0, .ref q86, .ref q88, .ref q90, .ref q92, .ref q94, .ref q96, .ref q98, .ref q100, .ref q102, .ref q104, .ref q106, .ref q108, .null, .null, .null, .null, .int 0, .int 0, .int 0, .null, .null, .int 0, .null, .int 0, .null, .null, .null, .int 0, .null, .null, .null])), (q84, .inl (cA85, 1200, .inl (fun _ => 0))), (q86, .inl (cA87, 2400, .inl (fun _ => 0))), (q88, .inl (cA89, 16, .inl (fun _ => 0))), (q90, .inl (cA91, 16, .inl (fun _ => 0))), (q92, .inl (cA93, 2, .inl (fun _ => 0))), (q94, .inl (cA95, 2, .inl (fun _ => 0))), (q96, .inl (cA97, 2, .inl (fun _ => 0))), (q98, .inl (cA99, 2, .inl (fun _ => 0))), (q100, .inl (cA101, 2, .inl (fun _ => 0))), (q102, .inl (cA103, 2, .inl (fun _ => 0))), (q104, .inl (cA105, 32, .inl (fun _ => 0))), (q106, .inl (cA107, 32, .inl (fun _ => 0))), (q108, .inl (cA109, 32, .inl (fun _ => 0)))] := hD
  refine lv_aload_n hx hb d_MD_init_104 rfl (lv_at hl 0 rfl) ?_
  refine lv_sipush (v := 2048) hx hb d_MD_init_105 (by decide) ?_
  refine va_newa (atype := .int) (a0 := (2048, .inl (fun _ => 0))) (ty := .int) (N' := 2048) hx hb (hts _ (List.mem_cons_of_mem _ w_68)) rfl hK hP hD hS hA (fun _ => rfl) (by decide +kernel) (by decide +kernel) (by decide +kernel) (Nat.le_of_ble_eq_true rfl) (Nat.le_of_ble_eq_true rfl) d_MD_init_108 (fun q110 cA111 H hK hP hD hS => ?_)
  have hP : va_P (dC, dI) cls_ [(h1, .inr (10, [.int 0, .int 0, .ref q84, .int 0, .int 0, .ref q86, .ref q88, .ref q90, .ref q92, .ref q94, .ref q96, .ref q98, .ref q100, .ref q102, .ref q104, .ref q106, .ref q108, .null, .null, .null, .null, .int 0, .int 0, .int 0, .null, .null, .int 0, .null, .int 0, .null, .null, .null, .int 0, .null, .null, .null])), (q84, .inl (cA85, 1200, .inl (fun _ => 0))), (q86, .inl (cA87, 2400, .inl (fun _ => 0))), (q88, .inl (cA89, 16, .inl (fun _ => 0))), (q90, .inl (cA91, 16, .inl (fun _ => 0))), (q92, .inl (cA93, 2, .inl (fun _ => 0))), (q94, .inl (cA95, 2, .inl (fun _ => 0))), (q96, .inl (cA97, 2, .inl (fun _ => 0))), (q98, .inl (cA99, 2, .inl (fun _ => 0))), (q100, .inl (cA101, 2, .inl (fun _ => 0))), (q102, .inl (cA103, 2, .inl (fun _ => 0))), (q104, .inl (cA105, 32, .inl (fun _ => 0))), (q106, .inl (cA107, 32, .inl (fun _ => 0))), (q108, .inl (cA109, 32, .inl (fun _ => 0))), (q110, .inl (cA111, 2048, .inl (fun _ => 0)))] H := hP
  have hD : va_D A [(h1, .inr (10, [.int 0, .int 0, .ref q84, .int 0, .int 0, .ref q86, .ref q88, .ref q90, .ref q92, .ref q94, .ref q96, .ref q98, .ref q100, .ref q102, .ref q104, .ref q106, .ref q108, .null, .null, .null, .null, .int 0, .int 0, .int 0, .null, .null, .int 0, .null, .int 0, .null, .null, .null, .int 0, .null, .null, .null])), (q84, .inl (cA85, 1200, .inl (fun _ => 0))), (q86, .inl (cA87, 2400, .inl (fun _ => 0))), (q88, .inl (cA89, 16, .inl (fun _ => 0))), (q90, .inl (cA91, 16, .inl (fun _ => 0))), (q92, .inl (cA93, 2, .inl (fun _ => 0))), (q94, .inl (cA95, 2, .inl (fun _ => 0))), (q96, .inl (cA97, 2, .inl (fun _ => 0))), (q98, .inl (cA99, 2, .inl (fun _ => 0))), (q100, .inl (cA101, 2, .inl (fun _ => 0))), (q102, .inl (cA103, 2, .inl (fun _ => 0))), (q104, .inl (cA105, 32, .inl (fun _ => 0))), (q106, .inl (cA107, 32, .inl (fun _ => 0))), (q108, .inl (cA109, 32, .inl (fun _ => 0))), (q110, .inl (cA111, 2048, .inl (fun _ => 0)))] := hD
  have hK : va_K (dC, dI) cls_ [(cA85, .int), (cA87, .int), (cA89, .int), (cA91, .int), (cA93, .int), (cA95, .int), (cA97, .int), (cA99, .int), (cA101, .int), (cA103, .int), (cA105, .int), (cA107, .int), (cA109, .int), (cA111, .int)] s := hK
  refine va_putF (D := (dC, dI)) (ci := 10) (v := .ref q110) (ty := .array .int) (C := R_MD) (T := F_MD) (N := 36) hx hb hts in_MD t_MD t_MD_ok n_MD hown hK hP hD hS 0 rfl rfl 17 (by decide) (hts _ (List.mem_cons_of_mem _ w_869)) (fun _ h9 => h9) rfl hin rfl (by decide +kernel) rfl rfl (Nat.le_of_ble_eq_true rfl) d_MD_init_110 (fun H locs hP hD hS => ?_)
  have hP : va_P (dC, dI) cls_ [(h1, .inr (10, [.int 0, .int 0, .ref q84, .int 0, .int 0, .ref q86, .ref q88, .ref q90, .ref q92, .ref q94, .ref q96, .ref q98, .ref q100, .ref q102, .ref q104, .ref q106, .ref q108, .ref q110, .null, .null, .null, .int 0, .int 0, .int 0, .null, .null, .int 0, .null, .int 0, .null, .null, .null, .int 0, .null, .null, .null])), (q84, .inl (cA85, 1200, .inl (fun _ => 0))), (q86, .inl (cA87, 2400, .inl (fun _ => 0))), (q88, .inl (cA89, 16, .inl (fun _ => 0))), (q90, .inl (cA91, 16, .inl (fun _ => 0))), (q92, .inl (cA93, 2, .inl (fun _ => 0))), (q94, .inl (cA95, 2, .inl (fun _ => 0))), (q96, .inl (cA97, 2, .inl (fun _ => 0))), (q98, .inl (cA99, 2, .inl (fun _ => 0))), (q100, .inl (cA101, 2, .inl (fun _ => 0))), (q102, .inl (cA103, 2, .inl (fun _ => 0))), (q104, .inl (cA105, 32, .inl (fun _ => 0))), (q106, .inl (cA107, 32, .inl (fun _ => 0))), (q108, .inl (cA109, 32, .inl (fun _ => 0))), (q110, .inl (cA111, 2048, .inl (fun _ => 0)))] H := hP
  have hD : va_D A [(h1, .inr (10, [.int 0, .int 0, .ref q84, .int 0, .int 0, .ref q86, .ref q88, .ref q90, .ref q92, .ref q94, .ref q96, .ref q98, .ref q100, .ref q102, .ref q104, .ref q106, .ref q108, .ref q110, .null, .null, .null, .int 0, .int 0, .int 0, .null, .null, .int 0, .null, .int 0, .null, .null, .null, .int 0, .null, .null, .null])), (q84, .inl (cA85, 1200, .inl (fun _ => 0))), (q86, .inl (cA87, 2400, .inl (fun _ => 0))), (q88, .inl (cA89, 16, .inl (fun _ => 0))), (q90, .inl (cA91, 16, .inl (fun _ => 0))), (q92, .inl (cA93, 2, .inl (fun _ => 0))), (q94, .inl (cA95, 2, .inl (fun _ => 0))), (q96, .inl (cA97, 2, .inl (fun _ => 0))), (q98, .inl (cA99, 2, .inl (fun _ => 0))), (q100, .inl (cA101, 2, .inl (fun _ => 0))), (q102, .inl (cA103, 2, .inl (fun _ => 0))), (q104, .inl (cA105, 32, .inl (fun _ => 0))), (q106, .inl (cA107, 32, .inl (fun _ => 0))), (q108, .inl (cA109, 32, .inl (fun _ => 0))), (q110, .inl (cA111, 2048, .inl (fun _ => 0)))] := hD
  refine lv_aload_n hx hb d_MD_init_113 rfl (lv_at hl 0 rfl) ?_
  refine lv_sipush (v := 2048) hx hb d_MD_init_114 (by decide) ?_
  refine va_newa (atype := .int) (a0 := (2048, .inl (fun _ => 0))) (ty := .int) (N' := 2048) hx hb (hts _ (List.mem_cons_of_mem _ w_68)) rfl hK hP hD hS hA (fun _ => rfl) (by decide +kernel) (by decide +kernel) (by decide +kernel) (Nat.le_of_ble_eq_true rfl) (Nat.le_of_ble_eq_true rfl) d_MD_init_117 (fun q112 cA113 H hK hP hD hS => ?_)
  have hP : va_P (dC, dI) cls_ [(h1, .inr (10, [.int 0, .int 0, .ref q84, .int 0, .int 0, .ref q86, .ref q88, .ref q90, .ref q92, .ref q94, .ref q96, .ref q98, .ref q100, .ref q102, .ref q104, .ref q106, .ref q108, .ref q110, .null, .null, .null, .int 0, .int 0, .int 0, .null, .null, .int 0, .null, .int 0, .null, .null, .null, .int 0, .null, .null, .null])), (q84, .inl (cA85, 1200, .inl (fun _ => 0))), (q86, .inl (cA87, 2400, .inl (fun _ => 0))), (q88, .inl (cA89, 16, .inl (fun _ => 0))), (q90, .inl (cA91, 16, .inl (fun _ => 0))), (q92, .inl (cA93, 2, .inl (fun _ => 0))), (q94, .inl (cA95, 2, .inl (fun _ => 0))), (q96, .inl (cA97, 2, .inl (fun _ => 0))), (q98, .inl (cA99, 2, .inl (fun _ => 0))), (q100, .inl (cA101, 2, .inl (fun _ => 0))), (q102, .inl (cA103, 2, .inl (fun _ => 0))), (q104, .inl (cA105, 32, .inl (fun _ => 0))), (q106, .inl (cA107, 32, .inl (fun _ => 0))), (q108, .inl (cA109, 32, .inl (fun _ => 0))), (q110, .inl (cA111, 2048, .inl (fun _ => 0))), (q112, .inl (cA113, 2048, .inl (fun _ => 0)))] H := hP
  have hD : va_D A [(h1, .inr (10, [.int 0, .int 0, .ref q84, .int 0, .int 0, .ref q86, .ref q88, .ref q90, .ref q92, .ref q94, .ref q96, .ref q98, .ref q100, .ref q102, .ref q104, .ref q106, .ref q108, .ref q110, .null, .null, .null, .int 0, .int 0, .int 0, .null, .null, .int 0, .null, .int 0, .null, .null, .null, .int 0, .null, .null, .null])), (q84, .inl (cA85, 1200, .inl (fun _ => 0))), (q86, .inl (cA87, 2400, .inl (fun _ => 0))), (q88, .inl (cA89, 16, .inl (fun _ => 0))), (q90, .inl (cA91, 16, .inl (fun _ => 0))), (q92, .inl (cA93, 2, .inl (fun _ => 0))), (q94, .inl (cA95, 2, .inl (fun _ => 0))), (q96, .inl (cA97, 2, .inl (fun _ => 0))), (q98, .inl (cA99, 2, .inl (fun _ => 0))), (q100, .inl (cA101, 2, .inl (fun _ => 0))), (q102, .inl (cA103, 2, .inl (fun _ => 0))), (q104, .inl (cA105, 32, .inl (fun _ => 0))), (q106, .inl (cA107, 32, .inl (fun _ => 0))), (q108, .inl (cA109, 32, .inl (fun _ => 0))), (q110, .inl (cA111, 2048, .inl (fun _ => 0))), (q112, .inl (cA113, 2048, .inl (fun _ => 0)))] := hD
  have hK : va_K (dC, dI) cls_ [(cA85, .int), (cA87, .int), (cA89, .int), (cA91, .int), (cA93, .int), (cA95, .int), (cA97, .int), (cA99, .int), (cA101, .int), (cA103, .int), (cA105, .int), (cA107, .int), (cA109, .int), (cA111, .int), (cA113, .int)] s := hK
  refine va_putF (D := (dC, dI)) (ci := 10) (v := .ref q112) (ty := .array .int) (C := R_MD) (T := F_MD) (N := 36) hx hb hts in_MD t_MD t_MD_ok n_MD hown hK hP hD hS 0 rfl rfl 18 (by decide) (hts _ (List.mem_cons_of_mem _ w_870)) (fun _ h9 => h9) rfl hin rfl (by decide +kernel) rfl rfl (Nat.le_of_ble_eq_true rfl) d_MD_init_119 (fun H locs hP hD hS => ?_)
  have hP : va_P (dC, dI) cls_ [(h1, .inr (10, [.int 0, .int 0, .ref q84, .int 0, .int 0, .ref q86, .ref q88, .ref q90, .ref q92, .ref q94, .ref q96, .ref q98, .ref q100, .ref q102, .ref q104, .ref q106, .ref q108, .ref q110, .ref q112, .null, .null, .int 0, .int 0, .int 0, .null, .null, .int 0, .null, .int 0, .null, .null, .null, .int 0, .null, .null, .null])), (q84, .inl (cA85, 1200, .inl (fun _ => 0))), (q86, .inl (cA87, 2400, .inl (fun _ => 0))), (q88, .inl (cA89, 16, .inl (fun _ => 0))), (q90, .inl (cA91, 16, .inl (fun _ => 0))), (q92, .inl (cA93, 2, .inl (fun _ => 0))), (q94, .inl (cA95, 2, .inl (fun _ => 0))), (q96, .inl (cA97, 2, .inl (fun _ => 0))), (q98, .inl (cA99, 2, .inl (fun _ => 0))), (q100, .inl (cA101, 2, .inl (fun _ => 0))), (q102, .inl (cA103, 2, .inl (fun _ => 0))), (q104, .inl (cA105, 32, .inl (fun _ => 0))), (q106, .inl (cA107, 32, .inl (fun _ => 0))), (q108, .inl (cA109, 32, .inl (fun _ => 0))), (q110, .inl (cA111, 2048, .inl (fun _ => 0))), (q112, .inl (cA113, 2048, .inl (fun _ => 0)))] H := hP
  have hD : va_D A [(h1, .inr (10, [.int 0, .int 0, .ref q84, .int 0, .int 0, .ref q86, .ref q88, .ref q90, .ref q92, .ref q94, .ref q96, .ref q98, .ref q100, .ref q102, .ref q104, .ref q106, .ref q108, .ref q110, .ref q112, .null, .null, .int 0, .int 0, .int 0, .null, .null, .int 0, .null, .int 0, .null, .null, .null, .int 0, .null, .null, .null])), (q84, .inl (cA85, 1200, .inl (fun _ => 0))), (q86, .inl (cA87, 2400, .inl (fun _ => 0))), (q88, .inl (cA89, 16, .inl (fun _ => 0))), (q90, .inl (cA91, 16, .inl (fun _ => 0))), (q92, .inl (cA93, 2, .inl (fun _ => 0))), (q94, .inl (cA95, 2, .inl (fun _ => 0))), (q96, .inl (cA97, 2, .inl (fun _ => 0))), (q98, .inl (cA99, 2, .inl (fun _ => 0))), (q100, .inl (cA101, 2, .inl (fun _ => 0))), (q102, .inl (cA103, 2, .inl (fun _ => 0))), (q104, .inl (cA105, 32, .inl (fun _ => 0))), (q106, .inl (cA107, 32, .inl (fun _ => 0))), (q108, .inl (cA109, 32, .inl (fun _ => 0))), (q110, .inl (cA111, 2048, .inl (fun _ => 0))), (q112, .inl (cA113, 2048, .inl (fun _ => 0)))] := hD
  refine lv_aload_n hx hb d_MD_init_122 rfl (lv_at hl 0 rfl) ?_
  refine lv_sipush (v := 2048) hx hb d_MD_init_123 (by decide) ?_
  refine va_newa (atype := .int) (a0 := (2048, .inl (fun _ => 0))) (ty := .int) (N' := 2048) hx hb (hts _ (List.mem_cons_of_mem _ w_68)) rfl hK hP hD hS hA (fun _ => rfl) (by decide +kernel) (by decide +kernel) (by decide +kernel) (Nat.le_of_ble_eq_true rfl) (Nat.le_of_ble_eq_true rfl) d_MD_init_126 (fun q114 cA115 H hK hP hD hS => ?_)
  have hP : va_P (dC, dI) cls_ [(h1, .inr (10, [.int 0, .int 0, .ref q84, .int 0, .int 0, .ref q86, .ref q88, .ref q90, .ref q92, .ref q94, .ref q96, .ref q98, .ref q100, .ref q102, .ref q104, .ref q106, .ref q108, .ref q110, .ref q112, .null, .null, .int 0, .int 0, .int 0, .null, .null, .int 0, .null, .int 0, .null, .null, .null, .int 0, .null, .null, .null])), (q84, .inl (cA85, 1200, .inl (fun _ => 0))), (q86, .inl (cA87, 2400, .inl (fun _ => 0))), (q88, .inl (cA89, 16, .inl (fun _ => 0))), (q90, .inl (cA91, 16, .inl (fun _ => 0))), (q92, .inl (cA93, 2, .inl (fun _ => 0))), (q94, .inl (cA95, 2, .inl (fun _ => 0))), (q96, .inl (cA97, 2, .inl (fun _ => 0))), (q98, .inl (cA99, 2, .inl (fun _ => 0))), (q100, .inl (cA101, 2, .inl (fun _ => 0))), (q102, .inl (cA103, 2, .inl (fun _ => 0))), (q104, .inl (cA105, 32, .inl (fun _ => 0))), (q106, .inl (cA107, 32, .inl (fun _ => 0))), (q108, .inl (cA109, 32, .inl (fun _ => 0))), (q110, .inl (cA111, 2048, .inl (fun _ => 0))), (q112, .inl (cA113, 2048, .inl (fun _ => 0))), (q114, .inl (cA115, 2048, .inl (fun _ => 0)))] H := hP
  have hD : va_D A [(h1, .inr (10, [.int 0, .int 0, .ref q84, .int 0, .int 0, .ref q86, .ref q88, .ref q90, .ref q92, .ref q94, .ref q96, .ref q98, .ref q100, .ref q102, .ref q104, .ref q106, .ref q108, .ref q110, .ref q112, .null, .null, .int 0, .int 0, .int 0, .null, .null, .int 0, .null, .int 0, .null, .null, .null, .int 0, .null, .null, .null])), (q84, .inl (cA85, 1200, .inl (fun _ => 0))), (q86, .inl (cA87, 2400, .inl (fun _ => 0))), (q88, .inl (cA89, 16, .inl (fun _ => 0))), (q90, .inl (cA91, 16, .inl (fun _ => 0))), (q92, .inl (cA93, 2, .inl (fun _ => 0))), (q94, .inl (cA95, 2, .inl (fun _ => 0))), (q96, .inl (cA97, 2, .inl (fun _ => 0))), (q98, .inl (cA99, 2, .inl (fun _ => 0))), (q100, .inl (cA101, 2, .inl (fun _ => 0))), (q102, .inl (cA103, 2, .inl (fun _ => 0))), (q104, .inl (cA105, 32, .inl (fun _ => 0))), (q106, .inl (cA107, 32, .inl (fun _ => 0))), (q108, .inl (cA109, 32, .inl (fun _ => 0))), (q110, .inl (cA111, 2048, .inl (fun _ => 0))), (q112, .inl (cA113, 2048, .inl (fun _ => 0))), (q114, .inl (cA115, 2048, .inl (fun _ => 0)))] := hD
  have hK : va_K (dC, dI) cls_ [(cA85, .int), (cA87, .int), (cA89, .int), (cA91, .int), (cA93, .int), (cA95, .int), (cA97, .int), (cA99, .int), (cA101, .int), (cA103, .int), (cA105, .int), (cA107, .int), (cA109, .int), (cA111, .int), (cA113, .int), (cA115, .int)] s := hK
  refine va_putF (D := (dC, dI)) (ci := 10) (v := .ref q114) (ty := .array .int) (C := R_MD) (T := F_MD) (N := 36) hx hb hts in_MD t_MD t_MD_ok n_MD hown hK hP hD hS 0 rfl rfl 19 (by decide) (hts _ (List.mem_cons_of_mem _ w_871)) (fun _ h9 => h9) rfl hin rfl (by decide +kernel) rfl rfl (Nat.le_of_ble_eq_true rfl) d_MD_init_128 (fun H locs hP hD hS => ?_)
  have hP : va_P (dC, dI) cls_ [(h1, .inr (10, [.int 0, .int 0, .ref q84, .int 0, .int 0, .ref q86, .ref q88, .ref q90, .ref q92, .ref q94, .ref q96, .ref q98, .ref q100, .ref q102, .ref q104, .ref q106, .ref q108, .ref q110, .ref q112, .ref q114, .null, .int 0, .int 0, .int 0, .null, .null, .int 0, .null, .int 0, .null, .null, .null, .int 0, .null, .null, .null])), (q84, .inl (cA85, 1200, .inl (fun _ => 0))), (q86, .inl (cA87, 2400, .inl (fun _ => 0))), (q88, .inl (cA89, 16, .inl (fun _ => 0))), (q90, .inl (cA91, 16, .inl (fun _ => 0))), (q92, .inl (cA93, 2, .inl (fun _ => 0))), (q94, .inl (cA95, 2, .inl (fun _ => 0))), (q96, .inl (cA97, 2, .inl (fun _ => 0))), (q98, .inl (cA99, 2, .inl (fun _ => 0))), (q100, .inl (cA101, 2, .inl (fun _ => 0))), (q102, .inl (cA103, 2, .inl (fun _ => 0))), (q104, .inl (cA105, 32, .inl (fun _ => 0))), (q106, .inl (cA107, 32, .inl (fun _ => 0))), (q108, .inl (cA109, 32, .inl (fun _ => 0))), (q110, .inl (cA111, 2048, .inl (fun _ => 0))), (q112, .inl (cA113, 2048, .inl (fun _ => 0))), (q114, .inl (cA115, 2048, .inl (fun _ => 0)))] H := hP
  have hD : va_D A [(h1, .inr (10, [.int 0, .int 0, .ref q84, .int 0, .int 0, .ref q86, .ref q88, .ref q90, .ref q92, .ref q94, .ref q96, .ref q98, .ref q100, .ref q102, .ref q104, .ref q106, .ref q108, .ref q110, .ref q112, .ref q114, .null, .int 0, .int 0, .int 0, .null, .null, .int 0, .null, .int 0, .null, .null, .null, .int 0, .null, .null, .null])), (q84, .inl (cA85, 1200, .inl (fun _ => 0))), (q86, .inl (cA87, 2400, .inl (fun _ => 0))), (q88, .inl (cA89, 16, .inl (fun _ => 0))), (q90, .inl (cA91, 16, .inl (fun _ => 0))), (q92, .inl (cA93, 2, .inl (fun _ => 0))), (q94, .inl (cA95, 2, .inl (fun _ => 0))), (q96, .inl (cA97, 2, .inl (fun _ => 0))), (q98, .inl (cA99, 2, .inl (fun _ => 0))), (q100, .inl (cA101, 2, .inl (fun _ => 0))), (q102, .inl (cA103, 2, .inl (fun _ => 0))), (q104, .inl (cA105, 32, .inl (fun _ => 0))), (q106, .inl (cA107, 32, .inl (fun _ => 0))), (q108, .inl (cA109, 32, .inl (fun _ => 0))), (q110, .inl (cA111, 2048, .inl (fun _ => 0))), (q112, .inl (cA113, 2048, .inl (fun _ => 0))), (q114, .inl (cA115, 2048, .inl (fun _ => 0)))] := hD
  refine lv_aload_n hx hb d_MD_init_131 rfl (lv_at hl 0 rfl) ?_
  refine lv_sipush (v := 2048) hx hb d_MD_init_132 (by decide) ?_
  refine va_newa (atype := .int) (a0 := (2048, .inl (fun _ => 0))) (ty := .int) (N' := 2048) hx hb (hts _ (List.mem_cons_of_mem _ w_68)) rfl hK hP hD hS hA (fun _ => rfl) (by decide +kernel) (by decide +kernel) (by decide +kernel) (Nat.le_of_ble_eq_true rfl) (Nat.le_of_ble_eq_true rfl) d_MD_init_135 (fun q116 cA117 H hK hP hD hS => ?_)
  have hP : va_P (dC, dI) cls_ [(h1, .inr (10, [.int 0, .int 0, .ref q84, .int 0, .int 0, .ref q86, .ref q88, .ref q90, .ref q92, .ref q94, .ref q96, .ref q98, .ref q100, .ref q102, .ref q104, .ref q106, .ref q108, .ref q110, .ref q112, .ref q114, .null, .int 0, .int 0, .int 0, .null, .null, .int 0, .null, .int 0, .null, .null, .null, .int 0, .null, .null, .null])), (q84, .inl (cA85, 1200, .inl (fun _ => 0))), (q86, .inl (cA87, 2400, .inl (fun _ => 0))), (q88, .inl (cA89, 16, .inl (fun _ => 0))), (q90, .inl (cA91, 16, .inl (fun _ => 0))), (q92, .inl (cA93, 2, .inl (fun _ => 0))), (q94, .inl (cA95, 2, .inl (fun _ => 0))), (q96, .inl (cA97, 2, .inl (fun _ => 0))), (q98, .inl (cA99, 2, .inl (fun _ => 0))), (q100, .inl (cA101, 2, .inl (fun _ => 0))), (q102, .inl (cA103, 2, .inl (fun _ => 0))), (q104, .inl (cA105, 32, .inl (fun _ => 0))), (q106, .inl (cA107, 32, .inl (fun _ => 0))), (q108, .inl (cA109, 32, .inl (fun _ => 0))), (q110, .inl (cA111, 2048, .inl (fun _ => 0))), (q112, .inl (cA113, 2048, .inl (fun _ => 0))), (q114, .inl (cA115, 2048, .inl (fun _ => 0))), (q116, .inl (cA117, 2048, .inl (fun _ => 0)))] H := hP
  have hD : va_D A [(h1, .inr (10, [.int 0, .int 0, .ref q84, .int 0, .int 0, .ref q86, .ref q88, .ref q90, .ref q92, .ref q94, .ref q96, .ref q98, .ref q100, .ref q102, .ref q104, .ref q106, .ref q108, .ref q110, .ref q112, .ref q114, .null, .int 0, .int 0, .int 0, .null, .null, .int 0, .null, .int 0, .null, .null, .null, .int 0, .null, .null, .null])), (q84, .inl (cA85, 1200, .inl (fun _ => 0))), (q86, .inl (cA87, 2400, .inl (fun _ => 0))), (q88, .inl (cA89, 16, .inl (fun _ => 0))), (q90, .inl (cA91, 16, .inl (fun _ => 0))), (q92, .inl (cA93, 2, .inl (fun _ => 0))), (q94, .inl (cA95, 2, .inl (fun _ => 0))), (q96, .inl (cA97, 2, .inl (fun _ => 0))), (q98, .inl (cA99, 2, .inl (fun _ => 0))), (q100, .inl (cA101, 2, .inl (fun _ => 0))), (q102, .inl (cA103, 2, .inl (fun _ => 0))), (q104, .inl (cA105, 32, .inl (fun _ => 0))), (q106, .inl (cA107, 32, .inl (fun _ => 0))), (q108, .inl (cA109, 32, .inl (fun _ => 0))), (q110, .inl (cA111, 2048, .inl (fun _ => 0))), (q112, .inl (cA113, 2048, .inl (fun _ => 0))), (q114, .inl (cA115, 2048, .inl (fun _ => 0))), (q116, .inl (cA117, 2048, .inl (fun _ => 0)))] := hD
  have hK : va_K (dC, dI) cls_ [(cA85, .int), (cA87, .int), (cA89, .int), (cA91, .int), (cA93, .int), (cA95, .int), (cA97, .int), (cA99, .int), (cA101, .int), (cA103, .int), (cA105, .int), (cA107, .int), (cA109, .int), (cA111, .int), (cA113, .int), (cA115, .int), (cA117, .int)] s := hK
  refine va_putF (D := (dC, dI)) (ci := 10) (v := .ref q116) (ty := .array .int) (C := R_MD) (T := F_MD) (N := 36) hx hb hts in_MD t_MD t_MD_ok n_MD hown hK hP hD hS 0 rfl rfl 20 (by decide) (hts _ (List.mem_cons_of_mem _ w_872)) (fun _ h9 => h9) rfl hin rfl (by decide +kernel) rfl rfl (Nat.le_of_ble_eq_true rfl) d_MD_init_137 (fun H locs hP hD hS => ?_)
  have hP : va_P (dC, dI) cls_ [(h1, .inr (10, [.int 0, .int 0, .ref q84, .int 0, .int 0, .ref q86, .ref q88, .ref q90, .ref q92, .ref q94, .ref q96, .ref q98, .ref q100, .ref q102, .ref q104, .ref q106, .ref q108, .ref q110, .ref q112, .ref q114, .ref q116, .int 0, .int 0, .int 0, .null, .null, .int 0, .null, .int 0, .null, .null, .null, .int 0, .null, .null, .null])), (q84, .inl (cA85, 1200, .inl (fun _ => 0))), (q86, .inl (cA87, 2400, .inl (fun _ => 0))), (q88, .inl (cA89, 16, .inl (fun _ => 0))), (q90, .inl (cA91, 16, .inl (fun _ => 0))), (q92, .inl (cA93, 2, .inl (fun _ => 0))), (q94, .inl (cA95, 2, .inl (fun _ => 0))), (q96, .inl (cA97, 2, .inl (fun _ => 0))), (q98, .inl (cA99, 2, .inl (fun _ => 0))), (q100, .inl (cA101, 2, .inl (fun _ => 0))), (q102, .inl (cA103, 2, .inl (fun _ => 0))), (q104, .inl (cA105, 32, .inl (fun _ => 0))), (q106, .inl (cA107, 32, .inl (fun _ => 0))), (q108, .inl (cA109, 32, .inl (fun _ => 0))), (q110, .inl (cA111, 2048, .inl (fun _ => 0))), (q112, .inl (cA113, 2048, .inl (fun _ => 0))), (q114, .inl (cA115, 2048, .inl (fun _ => 0))), (q116, .inl (cA117, 2048, .inl (fun _ => 0)))] H := hP
  have hD : va_D A [(h1, .inr (10, [.int 0, .int 0, .ref q84, .int 0, .int 0, .ref q86, .ref q88, .ref q90, .ref q92, .ref q94, .ref q96, .ref q98, .ref q100, .ref q102, .ref q104, .ref q106, .ref q108, .ref q110, .ref q112, .ref q114, .ref q116, .int 0, .int 0, .int 0, .null, .null, .int 0, .null, .int 0, .null, .null, .null, .int 0, .null, .null, .null])), (q84, .inl (cA85, 1200, .inl (fun _ => 0))), (q86, .inl (cA87, 2400, .inl (fun _ => 0))), (q88, .inl (cA89, 16, .inl (fun _ => 0))), (q90, .inl (cA91, 16, .inl (fun _ => 0))), (q92, .inl (cA93, 2, .inl (fun _ => 0))), (q94, .inl (cA95, 2, .inl (fun _ => 0))), (q96, .inl (cA97, 2, .inl (fun _ => 0))), (q98, .inl (cA99, 2, .inl (fun _ => 0))), (q100, .inl (cA101, 2, .inl (fun _ => 0))), (q102, .inl (cA103, 2, .inl (fun _ => 0))), (q104, .inl (cA105, 32, .inl (fun _ => 0))), (q106, .inl (cA107, 32, .inl (fun _ => 0))), (q108, .inl (cA109, 32, .inl (fun _ => 0))), (q110, .inl (cA111, 2048, .inl (fun _ => 0))), (q112, .inl (cA113, 2048, .inl (fun _ => 0))), (q114, .inl (cA115, 2048, .inl (fun _ => 0))), (q116, .inl (cA117, 2048, .inl (fun _ => 0)))] := hD
  refine lv_aload_n hx hb d_MD_init_140 rfl (lv_at hl 0 rfl) ?_
  refine lv_bipush (v := 24) hx hb d_MD_init_141 (by decide) ?_
  refine va_newa (atype := .int) (a0 := (24, .inl (fun _ => 0))) (ty := .int) (N' := 24) hx hb (hts _ (List.mem_cons_of_mem _ w_68)) rfl hK hP hD hS hA (fun _ => rfl) (by decide +kernel) (by decide +kernel) (by decide +kernel) (Nat.le_of_ble_eq_true rfl) (Nat.le_of_ble_eq_true rfl) d_MD_init_143 (fun q118 cA119 H hK hP hD hS => ?_)
  have hP : va_P (dC, dI) cls_ [(h1, .inr (10, [.int 0, .int 0, .ref q84, .int 0, .int 0, .ref q86, .ref q88, .ref q90, .ref q92, .ref q94, .ref q96, .ref q98, .ref q100, .ref q102, .ref q104, .ref q106, .ref q108, .ref q110, .ref q112, .ref q114, .ref q116, .int 0, .int 0, .int 0, .null, .null, .int 0, .null, .int 0, .null, .null, .null, .int 0, .null, .null, .null])), (q84, .inl (cA85, 1200, .inl (fun _ => 0))), (q86, .inl (cA87, 2400, .inl (fun _ => 0))), (q88, .inl (cA89, 16, .inl (fun _ => 0))), (q90, .inl (cA91, 16, .inl (fun _ => 0))), (q92, .inl (cA93, 2, .inl (fun _ => 0))), (q94, .inl (cA95, 2, .inl (fun _ => 0))), (q96, .inl (cA97, 2, .inl (fun _ => 0))), (q98, .inl (cA99, 2, .inl (fun _ => 0))), (q100, .inl (cA101, 2, .inl (fun _ => 0))), (q102, .inl (cA103, 2, .inl (fun _ => 0))), (q104, .inl (cA105, 32, .inl (fun _ => 0))), (q106, .inl (cA107, 32, .inl (fun _ => 0))), (q108, .inl (cA109, 32, .inl (fun _ => 0))), (q110, .inl (cA111, 2048, .inl (fun _ => 0))), (q112, .inl (cA113, 2048, .inl (fun _ => 0))), (q114, .inl (cA115, 2048, .inl (fun _ => 0))), (q116, .inl (cA117, 2048, .inl (fun _ => 0))), (q118, .inl (cA119, 24, .inl (fun _ => 0)))] H := hP
  have hD : va_D A [(h1, .inr (10, [.int 0, .int 0, .ref q84, .int 0, .int 0, .ref q86, .ref q88, .ref q90, .ref q92, .ref q94, .ref q96, .ref q98, .ref q100, .ref q102, .ref q104, .ref q106, .ref q108, .ref q110, .ref q112, .ref q114, .ref q116, .int 0, .int 0, .int 0, .null, .null, .int 0, .null, .int 0, .null, .null, .null, .int 0, .null, .null, .null])), (q84, .inl (cA85, 1200, .inl (fun _ => 0))), (q86, .inl (cA87, 2400, .inl (fun _ => 0))), (q88, .inl (cA89, 16, .inl (fun _ => 0))), (q90, .inl (cA91, 16, .inl (fun _ => 0))), (q92, .inl (cA93, 2, .inl (fun _ => 0))), (q94, .inl (cA95, 2, .inl (fun _ => 0))), (q96, .inl (cA97, 2, .inl (fun _ => 0))), (q98, .inl (cA99, 2, .inl (fun _ => 0))), (q100, .inl (cA101, 2, .inl (fun _ => 0))), (q102, .inl (cA103, 2, .inl (fun _ => 0))), (q104, .inl (cA105, 32, .inl (fun _ => 0))), (q106, .inl (cA107, 32, .inl (fun _ => 0))), (q108, .inl (cA109, 32, .inl (fun _ => 0))), (q110, .inl (cA111, 2048, .inl (fun _ => 0))), (q112, .inl (cA113, 2048, .inl (fun _ => 0))), (q114, .inl (cA115, 2048, .inl (fun _ => 0))), (q116, .inl (cA117, 2048, .inl (fun _ => 0))), (q118, .inl (cA119, 24, .inl (fun _ => 0)))] := hD
  have hK : va_K (dC, dI) cls_ [(cA85, .int), (cA87, .int), (cA89, .int), (cA91, .int), (cA93, .int), (cA95, .int), (cA97, .int), (cA99, .int), (cA101, .int), (cA103, .int), (cA105, .int), (cA107, .int), (cA109, .int), (cA111, .int), (cA113, .int), (cA115, .int), (cA117, .int), (cA119, .int)] s := hK
  refine va_putF (D := (dC, dI)) (ci := 10) (v := .ref q118) (ty := .array .int) (C := R_MD) (T := F_MD) (N := 36) hx hb hts in_MD t_MD t_MD_ok n_MD hown hK hP hD hS 0 rfl rfl 24 (by decide) (hts _ (List.mem_cons_of_mem _ w_876)) (fun _ h9 => h9) rfl hin rfl (by decide +kernel) rfl rfl (Nat.le_of_ble_eq_true rfl) d_MD_init_145 (fun H locs hP hD hS => ?_)
  have hP : va_P (dC, dI) cls_ [(h1, .inr (10, [.int 0, .int 0, .ref q84, .int 0, .int 0, .ref q86, .ref q88, .ref q90, .ref q92, .ref q94, .ref q96, .ref q98, .ref q100, .ref q102, .ref q104, .ref q106, .ref q108, .ref q110, .ref q112, .ref q114, .ref q116, .int 0, .int 0, .int 0, .ref q118, .null, .int 0, .null, .int 0, .null, .null, .null, .int 0, .null, .null, .null])), (q84, .inl (cA85, 1200, .inl (fun _ => 0))), (q86, .inl (cA87, 2400, .inl (fun _ => 0))), (q88, .inl (cA89, 16, .inl (fun _ => 0))), (q90, .inl (cA91, 16, .inl (fun _ => 0))), (q92, .inl (cA93, 2, .inl (fun _ => 0))), (q94, .inl (cA95, 2, .inl (fun _ => 0))), (q96, .inl (cA97, 2, .inl (fun _ => 0))), (q98, .inl (cA99, 2, .inl (fun _ => 0))), (q100, .inl (cA101, 2, .inl (fun _ => 0))), (q102, .inl (cA103, 2, .inl (fun _ => 0))), (q104, .inl (cA105, 32, .inl (fun _ => 0))), (q106, .inl (cA107, 32, .inl (fun _ => 0))), (q108, .inl (cA109, 32, .inl (fun _ => 0))), (q110, .inl (cA111, 2048, .inl (fun _ => 0))), (q112, .inl (cA113, 2048, .inl (fun _ => 0))), (q114, .inl (cA115, 2048, .inl (fun _ => 0))), (q116, .inl (cA117, 2048, .inl (fun _ => 0))), (q118, .inl (cA119, 24, .inl (fun _ => 0)))] H := hP
  have hD : va_D A [(h1, .inr (10, [.int 0, .int 0, .ref q84, .int 0, .int 0, .ref q86, .ref q88, .ref q90, .ref q92, .ref q94, .ref q96, .ref q98, .ref q100, .ref q102, .ref q104, .ref q106, .ref q108, .ref q110, .ref q112, .ref q114, .ref q116, .int 0, .int 0, .int 0, .ref q118, .null, .int 0, .null, .int 0, .null, .null, .null, .int 0, .null, .null, .null])), (q84, .inl (cA85, 1200, .inl (fun _ => 0))), (q86, .inl (cA87, 2400, .inl (fun _ => 0))), (q88, .inl (cA89, 16, .inl (fun _ => 0))), (q90, .inl (cA91, 16, .inl (fun _ => 0))), (q92, .inl (cA93, 2, .inl (fun _ => 0))), (q94, .inl (cA95, 2, .inl (fun _ => 0))), (q96, .inl (cA97, 2, .inl (fun _ => 0))), (q98, .inl (cA99, 2, .inl (fun _ => 0))), (q100, .inl (cA101, 2, .inl (fun _ => 0))), (q102, .inl (cA103, 2, .inl (fun _ => 0))), (q104, .inl (cA105, 32, .inl (fun _ => 0))), (q106, .inl (cA107, 32, .inl (fun _ => 0))), (q108, .inl (cA109, 32, .inl (fun _ => 0))), (q110, .inl (cA111, 2048, .inl (fun _ => 0))), (q112, .inl (cA113, 2048, .inl (fun _ => 0))), (q114, .inl (cA115, 2048, .inl (fun _ => 0))), (q116, .inl (cA117, 2048, .inl (fun _ => 0))), (q118, .inl (cA119, 24, .inl (fun _ => 0)))] := hD
  refine lv_aload_n hx hb d_MD_init_148 rfl (lv_at hl 0 rfl) ?_
  refine lv_bipush (v := 6) hx hb d_MD_init_149 (by decide) ?_
  refine va_newa (atype := .int) (a0 := (6, .inl (fun _ => 0))) (ty := .int) (N' := 6) hx hb (hts _ (List.mem_cons_of_mem _ w_68)) rfl hK hP hD hS hA (fun _ => rfl) (by decide +kernel) (by decide +kernel) (by decide +kernel) (Nat.le_of_ble_eq_true rfl) (Nat.le_of_ble_eq_true rfl) d_MD_init_151 (fun q120 cA121 H hK hP hD hS => ?_)
  have hP : va_P (dC, dI) cls_ [(h1, .inr (10, [.int 0, .int 0, .ref q84, .int 0, .int 0, .ref q86, .ref q88, .ref q90, .ref q92, .ref q94, .ref q96, .ref q98, .ref q100, .ref q102, .ref q104, .ref q106, .ref q108, .ref q110, .ref q112, .ref q114, .ref q116, .int 0, .int 0, .int 0, .ref q118, .null, .int 0, .null, .int 0, .null, .null, .null, .int 0, .null, .null, .null])), (q84, .inl (cA85, 1200, .inl (fun _ => 0))), (q86, .inl (cA87, 2400, .inl (fun _ => 0))), (q88, .inl (cA89, 16, .inl (fun _ => 0))), (q90, .inl (cA91, 16, .inl (fun _ => 0))), (q92, .inl (cA93, 2, .inl (fun _ => 0))), (q94, .inl (cA95, 2, .inl (fun _ => 0))), (q96, .inl (cA97, 2, .inl (fun _ => 0))), (q98, .inl (cA99, 2, .inl (fun _ => 0))), (q100, .inl (cA101, 2, .inl (fun _ => 0))), (q102, .inl (cA103, 2, .inl (fun _ => 0))), (q104, .inl (cA105, 32, .inl (fun _ => 0))), (q106, .inl (cA107, 32, .inl (fun _ => 0))), (q108, .inl (cA109, 32, .inl (fun _ => 0))), (q110, .inl (cA111, 2048, .inl (fun _ => 0))), (q112, .inl (cA113, 2048, .inl (fun _ => 0))), (q114, .inl (cA115, 2048, .inl (fun _ => 0))), (q116, .inl (cA117, 2048, .inl (fun _ => 0))), (q118, .inl (cA119, 24, .inl (fun _ => 0))), (q120, .inl (cA121, 6, .inl (fun _ => 0)))] H := hP
  have hD : va_D A [(h1, .inr (10, [.int 0, .int 0, .ref q84, .int 0, .int 0, .ref q86, .ref q88, .ref q90, .ref q92, .ref q94, .ref q96, .ref q98, .ref q100, .ref q102, .ref q104, .ref q106, .ref q108, .ref q110, .ref q112, .ref q114, .ref q116, .int 0, .int 0, .int 0, .ref q118, .null, .int 0, .null, .int 0, .null, .null, .null, .int 0, .null, .null, .null])), (q84, .inl (cA85, 1200, .inl (fun _ => 0))), (q86, .inl (cA87, 2400, .inl (fun _ => 0))), (q88, .inl (cA89, 16, .inl (fun _ => 0))), (q90, .inl (cA91, 16, .inl (fun _ => 0))), (q92, .inl (cA93, 2, .inl (fun _ => 0))), (q94, .inl (cA95, 2, .inl (fun _ => 0))), (q96, .inl (cA97, 2, .inl (fun _ => 0))), (q98, .inl (cA99, 2, .inl (fun _ => 0))), (q100, .inl (cA101, 2, .inl (fun _ => 0))), (q102, .inl (cA103, 2, .inl (fun _ => 0))), (q104, .inl (cA105, 32, .inl (fun _ => 0))), (q106, .inl (cA107, 32, .inl (fun _ => 0))), (q108, .inl (cA109, 32, .inl (fun _ => 0))), (q110, .inl (cA111, 2048, .inl (fun _ => 0))), (q112, .inl (cA113, 2048, .inl (fun _ => 0))), (q114, .inl (cA115, 2048, .inl (fun _ => 0))), (q116, .inl (cA117, 2048, .inl (fun _ => 0))), (q118, .inl (cA119, 24, .inl (fun _ => 0))), (q120, .inl (cA121, 6, .inl (fun _ => 0)))] := hD
  have hK : va_K (dC, dI) cls_ [(cA85, .int), (cA87, .int), (cA89, .int), (cA91, .int), (cA93, .int), (cA95, .int), (cA97, .int), (cA99, .int), (cA101, .int), (cA103, .int), (cA105, .int), (cA107, .int), (cA109, .int), (cA111, .int), (cA113, .int), (cA115, .int), (cA117, .int), (cA119, .int), (cA121, .int)] s := hK
  refine va_putF (D := (dC, dI)) (ci := 10) (v := .ref q120) (ty := .array .int) (C := R_MD) (T := F_MD) (N := 36) hx hb hts in_MD t_MD t_MD_ok n_MD hown hK hP hD hS 0 rfl rfl 25 (by decide) (hts _ (List.mem_cons_of_mem _ w_877)) (fun _ h9 => h9) rfl hin rfl (by decide +kernel) rfl rfl (Nat.le_of_ble_eq_true rfl) d_MD_init_153 (fun H locs hP hD hS => ?_)
  have hP : va_P (dC, dI) cls_ [(h1, .inr (10, [.int 0, .int 0, .ref q84, .int 0, .int 0, .ref q86, .ref q88, .ref q90, .ref q92, .ref q94, .ref q96, .ref q98, .ref q100, .ref q102, .ref q104, .ref q106, .ref q108, .ref q110, .ref q112, .ref q114, .ref q116, .int 0, .int 0, .int 0, .ref q118, .ref q120, .int 0, .null, .int 0, .null, .null, .null, .int 0, .null, .null, .null])), (q84, .inl (cA85, 1200, .inl (fun _ => 0))), (q86, .inl (cA87, 2400, .inl (fun _ => 0))), (q88, .inl (cA89, 16, .inl (fun _ => 0))), (q90, .inl (cA91, 16, .inl (fun _ => 0))), (q92, .inl (cA93, 2, .inl (fun _ => 0))), (q94, .inl (cA95, 2, .inl (fun _ => 0))), (q96, .inl (cA97, 2, .inl (fun _ => 0))), (q98, .inl (cA99, 2, .inl (fun _ => 0))), (q100, .inl (cA101, 2, .inl (fun _ => 0))), (q102, .inl (cA103, 2, .inl (fun _ => 0))), (q104, .inl (cA105, 32, .inl (fun _ => 0))), (q106, .inl (cA107, 32, .inl (fun _ => 0))), (q108, .inl (cA109, 32, .inl (fun _ => 0))), (q110, .inl (cA111, 2048, .inl (fun _ => 0))), (q112, .inl (cA113, 2048, .inl (fun _ => 0))), (q114, .inl (cA115, 2048, .inl (fun _ => 0))), (q116, .inl (cA117, 2048, .inl (fun _ => 0))), (q118, .inl (cA119, 24, .inl (fun _ => 0))), (q120, .inl (cA121, 6, .inl (fun _ => 0)))] H := hP
  have hD : va_D A [(h1, .inr (10, [.int 0, .int 0, .ref q84, .int 0, .int 0, .ref q86, .ref q88, .ref q90, .ref q92, .ref q94, .ref q96, .ref q98, .ref q100, .ref q102, .ref q104, .ref q106, .ref q108, .ref q110, .ref q112, .ref q114, .ref q116, .int 0, .int 0, .int 0, .ref q118, .ref q120, .int 0, .null, .int 0, .null, .null, .null, .int 0, .null, .null, .null])), (q84, .inl (cA85, 1200, .inl (fun _ => 0))), (q86, .inl (cA87, 2400, .inl (fun _ => 0))), (q88, .inl (cA89, 16, .inl (fun _ => 0))), (q90, .inl (cA91, 16, .inl (fun _ => 0))), (q92, .inl (cA93, 2, .inl (fun _ => 0))), (q94, .inl (cA95, 2, .inl (fun _ => 0))), (q96, .inl (cA97, 2, .inl (fun _ => 0))), (q98, .inl (cA99, 2, .inl (fun _ => 0))), (q100, .inl (cA101, 2, .inl (fun _ => 0))), (q102, .inl (cA103, 2, .inl (fun _ => 0))), (q104, .inl (cA105, 32, .inl (fun _ => 0))), (q106, .inl (cA107, 32, .inl (fun _ => 0))), (q108, .inl (cA109, 32, .inl (fun _ => 0))), (q110, .inl (cA111, 2048, .inl (fun _ => 0))), (q112, .inl (cA113, 2048, .inl (fun _ => 0))), (q114, .inl (cA115, 2048, .inl (fun _ => 0))), (q116, .inl (cA117, 2048, .inl (fun _ => 0))), (q118, .inl (cA119, 24, .inl (fun _ => 0))), (q120, .inl (cA121, 6, .inl (fun _ => 0)))] := hD
  refine lv_aload_n hx hb d_MD_init_156 rfl (lv_at hl 0 rfl) ?_
  refine lv_bipush (v := 12) hx hb d_MD_init_157 (by decide) ?_
  refine va_newa (atype := .int) (a0 := (12, .inl (fun _ => 0))) (ty := .int) (N' := 12) hx hb (hts _ (List.mem_cons_of_mem _ w_68)) rfl hK hP hD hS hA (fun _ => rfl) (by decide +kernel) (by decide +kernel) (by decide +kernel) (Nat.le_of_ble_eq_true rfl) (Nat.le_of_ble_eq_true rfl) d_MD_init_159 (fun q122 cA123 H hK hP hD hS => ?_)
  have hP : va_P (dC, dI) cls_ [(h1, .inr (10, [.int 0, .int 0, .ref q84, .int 0, .int 0, .ref q86, .ref q88, .ref q90, .ref q92, .ref q94, .ref q96, .ref q98, .ref q100, .ref q102, .ref q104, .ref q106, .ref q108, .ref q110, .ref q112, .ref q114, .ref q116, .int 0, .int 0, .int 0, .ref q118, .ref q120, .int 0, .null, .int 0, .null, .null, .null, .int 0, .null, .null, .null])), (q84, .inl (cA85, 1200, .inl (fun _ => 0))), (q86, .inl (cA87, 2400, .inl (fun _ => 0))), (q88, .inl (cA89, 16, .inl (fun _ => 0))), (q90, .inl (cA91, 16, .inl (fun _ => 0))), (q92, .inl (cA93, 2, .inl (fun _ => 0))), (q94, .inl (cA95, 2, .inl (fun _ => 0))), (q96, .inl (cA97, 2, .inl (fun _ => 0))), (q98, .inl (cA99, 2, .inl (fun _ => 0))), (q100, .inl (cA101, 2, .inl (fun _ => 0))), (q102, .inl (cA103, 2, .inl (fun _ => 0))), (q104, .inl (cA105, 32, .inl (fun _ => 0))), (q106, .inl (cA107, 32, .inl (fun _ => 0))), (q108, .inl (cA109, 32, .inl (fun _ => 0))), (q110, .inl (cA111, 2048, .inl (fun _ => 0))), (q112, .inl (cA113, 2048, .inl (fun _ => 0))), (q114, .inl (cA115, 2048, .inl (fun _ => 0))), (q116, .inl (cA117, 2048, .inl (fun _ => 0))), (q118, .inl (cA119, 24, .inl (fun _ => 0))), (q120, .inl (cA121, 6, .inl (fun _ => 0))), (q122, .inl (cA123, 12, .inl (fun _ => 0)))] H := hP
  have hD : va_D A [(h1, .inr (10, [.int 0, .int 0, .ref q84, .int 0, .int 0, .ref q86, .ref q88, .ref q90, .ref q92, .ref q94, .ref q96, .ref q98, .ref q100, .ref q102, .ref q104, .ref q106, .ref q108, .ref q110, .ref q112, .ref q114, .ref q116, .int 0, .int 0, .int 0, .ref q118, .ref q120, .int 0, .null, .int 0, .null, .null, .null, .int 0, .null, .null, .null])), (q84, .inl (cA85, 1200, .inl (fun _ => 0))), (q86, .inl (cA87, 2400, .inl (fun _ => 0))), (q88, .inl (cA89, 16, .inl (fun _ => 0))), (q90, .inl (cA91, 16, .inl (fun _ => 0))), (q92, .inl (cA93, 2, .inl (fun _ => 0))), (q94, .inl (cA95, 2, .inl (fun _ => 0))), (q96, .inl (cA97, 2, .inl (fun _ => 0))), (q98, .inl (cA99, 2, .inl (fun _ => 0))), (q100, .inl (cA101, 2, .inl (fun _ => 0))), (q102, .inl (cA103, 2, .inl (fun _ => 0))), (q104, .inl (cA105, 32, .inl (fun _ => 0))), (q106, .inl (cA107, 32, .inl (fun _ => 0))), (q108, .inl (cA109, 32, .inl (fun _ => 0))), (q110, .inl (cA111, 2048, .inl (fun _ => 0))), (q112, .inl (cA113, 2048, .inl (fun _ => 0))), (q114, .inl (cA115, 2048, .inl (fun _ => 0))), (q116, .inl (cA117, 2048, .inl (fun _ => 0))), (q118, .inl (cA119, 24, .inl (fun _ => 0))), (q120, .inl (cA121, 6, .inl (fun _ => 0))), (q122, .inl (cA123, 12, .inl (fun _ => 0)))] := hD
  have hK : va_K (dC, dI) cls_ [(cA85, .int), (cA87, .int), (cA89, .int), (cA91, .int), (cA93, .int), (cA95, .int), (cA97, .int), (cA99, .int), (cA101, .int), (cA103, .int), (cA105, .int), (cA107, .int), (cA109, .int), (cA111, .int), (cA113, .int), (cA115, .int), (cA117, .int), (cA119, .int), (cA121, .int), (cA123, .int)] s := hK
  refine va_putF (D := (dC, dI)) (ci := 10) (v := .ref q122) (ty := .array .int) (C := R_MD) (T := F_MD) (N := 36) hx hb hts in_MD t_MD t_MD_ok n_MD hown hK hP hD hS 0 rfl rfl 27 (by decide) (hts _ (List.mem_cons_of_mem _ w_879)) (fun _ h9 => h9) rfl hin rfl (by decide +kernel) rfl rfl (Nat.le_of_ble_eq_true rfl) d_MD_init_161 (fun H locs hP hD hS => ?_)
  have hP : va_P (dC, dI) cls_ [(h1, .inr (10, [.int 0, .int 0, .ref q84, .int 0, .int 0, .ref q86, .ref q88, .ref q90, .ref q92, .ref q94, .ref q96, .ref q98, .ref q100, .ref q102, .ref q104, .ref q106, .ref q108, .ref q110, .ref q112, .ref q114, .ref q116, .int 0, .int 0, .int 0, .ref q118, .ref q120, .int 0, .ref q122, .int 0, .null, .null, .null, .int 0, .null, .null, .null])), (q84, .inl (cA85, 1200, .inl (fun _ => 0))), (q86, .inl (cA87, 2400, .inl (fun _ => 0))), (q88, .inl (cA89, 16, .inl (fun _ => 0))), (q90, .inl (cA91, 16, .inl (fun _ => 0))), (q92, .inl (cA93, 2, .inl (fun _ => 0))), (q94, .inl (cA95, 2, .inl (fun _ => 0))), (q96, .inl (cA97, 2, .inl (fun _ => 0))), (q98, .inl (cA99, 2, .inl (fun _ => 0))), (q100, .inl (cA101, 2, .inl (fun _ => 0))), (q102, .inl (cA103, 2, .inl (fun _ => 0))), (q104, .inl (cA105, 32, .inl (fun _ => 0))), (q106, .inl (cA107, 32, .inl (fun _ => 0))), (q108, .inl (cA109, 32, .inl (fun _ => 0))), (q110, .inl (cA111, 2048, .inl (fun _ => 0))), (q112, .inl (cA113, 2048, .inl (fun _ => 0))), (q114, .inl (cA115, 2048, .inl (fun _ => 0))), (q116, .inl (cA117, 2048, .inl (fun _ => 0))), (q118, .inl (cA119, 24, .inl (fun _ => 0))), (q120, .inl (cA121, 6, .inl (fun _ => 0))), (q122, .inl (cA123, 12, .inl (fun _ => 0)))] H := hP
  have hD : va_D A [(h1, .inr (10, [.int 0, .int 0, .ref q84, .int 0, .int 0, .ref q86, .ref q88, .ref q90, .ref q92, .ref q94, .ref q96, .ref q98, .ref q100, .ref q102, .ref q104, .ref q106, .ref q108, .ref q110, .ref q112, .ref q114, .ref q116, .int 0, .int 0, .int 0, .ref q118, .ref q120, .int 0, .ref q122, .int 0, .null, .null, .null, .int 0, .null, .null, .null])), (q84, .inl (cA85, 1200, .inl (fun _ => 0))), (q86, .inl (cA87, 2400, .inl (fun _ => 0))), (q88, .inl (cA89, 16, .inl (fun _ => 0))), (q90, .inl (cA91, 16, .inl (fun _ => 0))), (q92, .inl (cA93, 2, .inl (fun _ => 0))), (q94, .inl (cA95, 2, .inl (fun _ => 0))), (q96, .inl (cA97, 2, .inl (fun _ => 0))), (q98, .inl (cA99, 2, .inl (fun _ => 0))), (q100, .inl (cA101, 2, .inl (fun _ => 0))), (q102, .inl (cA103, 2, .inl (fun _ => 0))), (q104, .inl (cA105, 32, .inl (fun _ => 0))), (q106, .inl (cA107, 32, .inl (fun _ => 0))), (q108, .inl (cA109, 32, .inl (fun _ => 0))), (q110, .inl (cA111, 2048, .inl (fun _ => 0))), (q112, .inl (cA113, 2048, .inl (fun _ => 0))), (q114, .inl (cA115, 2048, .inl (fun _ => 0))), (q116, .inl (cA117, 2048, .inl (fun _ => 0))), (q118, .inl (cA119, 24, .inl (fun _ => 0))), (q120, .inl (cA121, 6, .inl (fun _ => 0))), (q122, .inl (cA123, 12, .inl (fun _ => 0)))] := hD
  refine lv_aload_n hx hb d_MD_init_164 rfl (lv_at hl 0 rfl) ?_
  refine lv_sipush (v := 130) hx hb d_MD_init_165 (by decide) ?_
  refine va_newa (atype := .int) (a0 := (130, .inl (fun _ => 0))) (ty := .int) (N' := 130) hx hb (hts _ (List.mem_cons_of_mem _ w_68)) rfl hK hP hD hS hA (fun _ => rfl) (by decide +kernel) (by decide +kernel) (by decide +kernel) (Nat.le_of_ble_eq_true rfl) (Nat.le_of_ble_eq_true rfl) d_MD_init_168 (fun q124 cA125 H hK hP hD hS => ?_)
  have hP : va_P (dC, dI) cls_ [(h1, .inr (10, [.int 0, .int 0, .ref q84, .int 0, .int 0, .ref q86, .ref q88, .ref q90, .ref q92, .ref q94, .ref q96, .ref q98, .ref q100, .ref q102, .ref q104, .ref q106, .ref q108, .ref q110, .ref q112, .ref q114, .ref q116, .int 0, .int 0, .int 0, .ref q118, .ref q120, .int 0, .ref q122, .int 0, .null, .null, .null, .int 0, .null, .null, .null])), (q84, .inl (cA85, 1200, .inl (fun _ => 0))), (q86, .inl (cA87, 2400, .inl (fun _ => 0))), (q88, .inl (cA89, 16, .inl (fun _ => 0))), (q90, .inl (cA91, 16, .inl (fun _ => 0))), (q92, .inl (cA93, 2, .inl (fun _ => 0))), (q94, .inl (cA95, 2, .inl (fun _ => 0))), (q96, .inl (cA97, 2, .inl (fun _ => 0))), (q98, .inl (cA99, 2, .inl (fun _ => 0))), (q100, .inl (cA101, 2, .inl (fun _ => 0))), (q102, .inl (cA103, 2, .inl (fun _ => 0))), (q104, .inl (cA105, 32, .inl (fun _ => 0))), (q106, .inl (cA107, 32, .inl (fun _ => 0))), (q108, .inl (cA109, 32, .inl (fun _ => 0))), (q110, .inl (cA111, 2048, .inl (fun _ => 0))), (q112, .inl (cA113, 2048, .inl (fun _ => 0))), (q114, .inl (cA115, 2048, .inl (fun _ => 0))), (q116, .inl (cA117, 2048, .inl (fun _ => 0))), (q118, .inl (cA119, 24, .inl (fun _ => 0))), (q120, .inl (cA121, 6, .inl (fun _ => 0))), (q122, .inl (cA123, 12, .inl (fun _ => 0))), (q124, .inl (cA125, 130, .inl (fun _ => 0)))] H := hP
  have hD : va_D A [(h1, .inr (10, [.int 0, .int 0, .ref q84, .int 0, .int 0, .ref q86, .ref q88, .ref q90, .ref q92, .ref q94, .ref q96, .ref q98, .ref q100, .ref q102, .ref q104, .ref q106, .ref q108, .ref q110, .ref q112, .ref q114, .ref q116, .int 0, .int 0, .int 0, .ref q118, .ref q120, .int 0, .ref q122, .int 0, .null, .null, .null, .int 0, .null, .null, .null])), (q84, .inl (cA85, 1200, .inl (fun _ => 0))), (q86, .inl (cA87, 2400, .inl (fun _ => 0))), (q88, .inl (cA89, 16, .inl (fun _ => 0))), (q90, .inl (cA91, 16, .inl (fun _ => 0))), (q92, .inl (cA93, 2, .inl (fun _ => 0))), (q94, .inl (cA95, 2, .inl (fun _ => 0))), (q96, .inl (cA97, 2, .inl (fun _ => 0))), (q98, .inl (cA99, 2, .inl (fun _ => 0))), (q100, .inl (cA101, 2, .inl (fun _ => 0))), (q102, .inl (cA103, 2, .inl (fun _ => 0))), (q104, .inl (cA105, 32, .inl (fun _ => 0))), (q106, .inl (cA107, 32, .inl (fun _ => 0))), (q108, .inl (cA109, 32, .inl (fun _ => 0))), (q110, .inl (cA111, 2048, .inl (fun _ => 0))), (q112, .inl (cA113, 2048, .inl (fun _ => 0))), (q114, .inl (cA115, 2048, .inl (fun _ => 0))), (q116, .inl (cA117, 2048, .inl (fun _ => 0))), (q118, .inl (cA119, 24, .inl (fun _ => 0))), (q120, .inl (cA121, 6, .inl (fun _ => 0))), (q122, .inl (cA123, 12, .inl (fun _ => 0))), (q124, .inl (cA125, 130, .inl (fun _ => 0)))] := hD
  have hK : va_K (dC, dI) cls_ [(cA85, .int), (cA87, .int), (cA89, .int), (cA91, .int), (cA93, .int), (cA95, .int), (cA97, .int), (cA99, .int), (cA101, .int), (cA103, .int), (cA105, .int), (cA107, .int), (cA109, .int), (cA111, .int), (cA113, .int), (cA115, .int), (cA117, .int), (cA119, .int), (cA121, .int), (cA123, .int), (cA125, .int)] s := hK
  refine va_putF (D := (dC, dI)) (ci := 10) (v := .ref q124) (ty := .array .int) (C := R_MD) (T := F_MD) (N := 36) hx hb hts in_MD t_MD t_MD_ok n_MD hown hK hP hD hS 0 rfl rfl 29 (by decide) (hts _ (List.mem_cons_of_mem _ w_881)) (fun _ h9 => h9) rfl hin rfl (by decide +kernel) rfl rfl (Nat.le_of_ble_eq_true rfl) d_MD_init_170 (fun H locs hP hD hS => ?_)
  have hP : va_P (dC, dI) cls_ [(h1, .inr (10, [.int 0, .int 0, .ref q84, .int 0, .int 0, .ref q86, .ref q88, .ref q90, .ref q92, .ref q94, .ref q96, .ref q98, .ref q100, .ref q102, .ref q104, .ref q106, .ref q108, .ref q110, .ref q112, .ref q114, .ref q116, .int 0, .int 0, .int 0, .ref q118, .ref q120, .int 0, .ref q122, .int 0, .ref q124, .null, .null, .int 0, .null, .null, .null])), (q84, .inl (cA85, 1200, .inl (fun _ => 0))), (q86, .inl (cA87, 2400, .inl (fun _ => 0))), (q88, .inl (cA89, 16, .inl (fun _ => 0))), (q90, .inl (cA91, 16, .inl (fun _ => 0))), (q92, .inl (cA93, 2, .inl (fun _ => 0))), (q94, .inl (cA95, 2, .inl (fun _ => 0))), (q96, .inl (cA97, 2, .inl (fun _ => 0))), (q98, .inl (cA99, 2, .inl (fun _ => 0))), (q100, .inl (cA101, 2, .inl (fun _ => 0))), (q102, .inl (cA103, 2, .inl (fun _ => 0))), (q104, .inl (cA105, 32, .inl (fun _ => 0))), (q106, .inl (cA107, 32, .inl (fun _ => 0))), (q108, .inl (cA109, 32, .inl (fun _ => 0))), (q110, .inl (cA111, 2048, .inl (fun _ => 0))), (q112, .inl (cA113, 2048, .inl (fun _ => 0))), (q114, .inl (cA115, 2048, .inl (fun _ => 0))), (q116, .inl (cA117, 2048, .inl (fun _ => 0))), (q118, .inl (cA119, 24, .inl (fun _ => 0))), (q120, .inl (cA121, 6, .inl (fun _ => 0))), (q122, .inl (cA123, 12, .inl (fun _ => 0))), (q124, .inl (cA125, 130, .inl (fun _ => 0)))] H := hP
  have hD : va_D A [(h1, .inr (10, [.int 0, .int 0, .ref q84, .int 0, .int 0, .ref q86, .ref q88, .ref q90, .ref q92, .ref q94, .ref q96, .ref q98, .ref q100, .ref q102, .ref q104, .ref q106, .ref q108, .ref q110, .ref q112, .ref q114, .ref q116, .int 0, .int 0, .int 0, .ref q118, .ref q120, .int 0, .ref q122, .int 0, .ref q124, .null, .null, .int 0, .null, .null, .null])), (q84, .inl (cA85, 1200, .inl (fun _ => 0))), (q86, .inl (cA87, 2400, .inl (fun _ => 0))), (q88, .inl (cA89, 16, .inl (fun _ => 0))), (q90, .inl (cA91, 16, .inl (fun _ => 0))), (q92, .inl (cA93, 2, .inl (fun _ => 0))), (q94, .inl (cA95, 2, .inl (fun _ => 0))), (q96, .inl (cA97, 2, .inl (fun _ => 0))), (q98, .inl (cA99, 2, .inl (fun _ => 0))), (q100, .inl (cA101, 2, .inl (fun _ => 0))), (q102, .inl (cA103, 2, .inl (fun _ => 0))), (q104, .inl (cA105, 32, .inl (fun _ => 0))), (q106, .inl (cA107, 32, .inl (fun _ => 0))), (q108, .inl (cA109, 32, .inl (fun _ => 0))), (q110, .inl (cA111, 2048, .inl (fun _ => 0))), (q112, .inl (cA113, 2048, .inl (fun _ => 0))), (q114, .inl (cA115, 2048, .inl (fun _ => 0))), (q116, .inl (cA117, 2048, .inl (fun _ => 0))), (q118, .inl (cA119, 24, .inl (fun _ => 0))), (q120, .inl (cA121, 6, .inl (fun _ => 0))), (q122, .inl (cA123, 12, .inl (fun _ => 0))), (q124, .inl (cA125, 130, .inl (fun _ => 0)))] := hD
  refine lv_aload_n hx hb d_MD_init_173 rfl (lv_at hl 0 rfl) ?_
  refine lv_sipush (v := 130) hx hb d_MD_init_174 (by decide) ?_
  refine va_newa (atype := .int) (a0 := (130, .inl (fun _ => 0))) (ty := .int) (N' := 130) hx hb (hts _ (List.mem_cons_of_mem _ w_68)) rfl hK hP hD hS hA (fun _ => rfl) (by decide +kernel) (by decide +kernel) (by decide +kernel) (Nat.le_of_ble_eq_true rfl) (Nat.le_of_ble_eq_true rfl) d_MD_init_177 (fun q126 cA127 H hK hP hD hS => ?_)
  have hP : va_P (dC, dI) cls_ [(h1, .inr (10, [.int 0, .int 0, .ref q84, .int 0, .int 0, .ref q86, .ref q88, .ref q90, .ref q92, .ref q94, .ref q96, .ref q98, .ref q100, .ref q102, .ref q104, .ref q106, .ref q108, .ref q110, .ref q112, .ref q114, .ref q116, .int 0, .int 0, .int 0, .ref q118, .ref q120, .int 0, .ref q122, .int 0, .ref q124, .null, .null, .int 0, .null, .null, .null])), (q84, .inl (cA85, 1200, .inl (fun _ => 0))), (q86, .inl (cA87, 2400, .inl (fun _ => 0))), (q88, .inl (cA89, 16, .inl (fun _ => 0))), (q90, .inl (cA91, 16, .inl (fun _ => 0))), (q92, .inl (cA93, 2, .inl (fun _ => 0))), (q94, .inl (cA95, 2, .inl (fun _ => 0))), (q96, .inl (cA97, 2, .inl (fun _ => 0))), (q98, .inl (cA99, 2, .inl (fun _ => 0))), (q100, .inl (cA101, 2, .inl (fun _ => 0))), (q102, .inl (cA103, 2, .inl (fun _ => 0))), (q104, .inl (cA105, 32, .inl (fun _ => 0))), (q106, .inl (cA107, 32, .inl (fun _ => 0))), (q108, .inl (cA109, 32, .inl (fun _ => 0))), (q110, .inl (cA111, 2048, .inl (fun _ => 0))), (q112, .inl (cA113, 2048, .inl (fun _ => 0))), (q114, .inl (cA115, 2048, .inl (fun _ => 0))), (q116, .inl (cA117, 2048, .inl (fun _ => 0))), (q118, .inl (cA119, 24, .inl (fun _ => 0))), (q120, .inl (cA121, 6, .inl (fun _ => 0))), (q122, .inl (cA123, 12, .inl (fun _ => 0))), (q124, .inl (cA125, 130, .inl (fun _ => 0))), (q126, .inl (cA127, 130, .inl (fun _ => 0)))] H := hP
  have hD : va_D A [(h1, .inr (10, [.int 0, .int 0, .ref q84, .int 0, .int 0, .ref q86, .ref q88, .ref q90, .ref q92, .ref q94, .ref q96, .ref q98, .ref q100, .ref q102, .ref q104, .ref q106, .ref q108, .ref q110, .ref q112, .ref q114, .ref q116, .int 0, .int 0, .int 0, .ref q118, .ref q120, .int 0, .ref q122, .int 0, .ref q124, .null, .null, .int 0, .null, .null, .null])), (q84, .inl (cA85, 1200, .inl (fun _ => 0))), (q86, .inl (cA87, 2400, .inl (fun _ => 0))), (q88, .inl (cA89, 16, .inl (fun _ => 0))), (q90, .inl (cA91, 16, .inl (fun _ => 0))), (q92, .inl (cA93, 2, .inl (fun _ => 0))), (q94, .inl (cA95, 2, .inl (fun _ => 0))), (q96, .inl (cA97, 2, .inl (fun _ => 0))), (q98, .inl (cA99, 2, .inl (fun _ => 0))), (q100, .inl (cA101, 2, .inl (fun _ => 0))), (q102, .inl (cA103, 2, .inl (fun _ => 0))), (q104, .inl (cA105, 32, .inl (fun _ => 0))), (q106, .inl (cA107, 32, .inl (fun _ => 0))), (q108, .inl (cA109, 32, .inl (fun _ => 0))), (q110, .inl (cA111, 2048, .inl (fun _ => 0))), (q112, .inl (cA113, 2048, .inl (fun _ => 0))), (q114, .inl (cA115, 2048, .inl (fun _ => 0))), (q116, .inl (cA117, 2048, .inl (fun _ => 0))), (q118, .inl (cA119, 24, .inl (fun _ => 0))), (q120, .inl (cA121, 6, .inl (fun _ => 0))), (q122, .inl (cA123, 12, .inl (fun _ => 0))), (q124, .inl (cA125, 130, .inl (fun _ => 0))), (q126, .inl (cA127, 130, .inl (fun _ => 0)))] := hD
  have hK : va_K (dC, dI) cls_ [(cA85, .int), (cA87, .int), (cA89, .int), (cA91, .int), (cA93, .int), (cA95, .int), (cA97, .int), (cA99, .int), (cA101, .int), (cA103, .int), (cA105, .int), (cA107, .int), (cA109, .int), (cA111, .int), (cA113, .int), (cA115, .int), (cA117, .int), (cA119, .int), (cA121, .int), (cA123, .int), (cA125, .int), (cA127, .int)] s := hK
  refine va_putF (D := (dC, dI)) (ci := 10) (v := .ref q126) (ty := .array .int) (C := R_MD) (T := F_MD) (N := 36) hx hb hts in_MD t_MD t_MD_ok n_MD hown hK hP hD hS 0 rfl rfl 30 (by decide) (hts _ (List.mem_cons_of_mem _ w_882)) (fun _ h9 => h9) rfl hin rfl (by decide +kernel) rfl rfl (Nat.le_of_ble_eq_true rfl) d_MD_init_179 (fun H locs hP hD hS => ?_)
  have hP : va_P (dC, dI) cls_ [(h1, .inr (10, [.int 0, .int 0, .ref q84, .int 0, .int 0, .ref q86, .ref q88, .ref q90, .ref q92, .ref q94, .ref q96, .ref q98, .ref q100, .ref q102, .ref q104, .ref q106, .ref q108, .ref q110, .ref q112, .ref q114, .ref q116, .int 0, .int 0, .int 0, .ref q118, .ref q120, .int 0, .ref q122, .int 0, .ref q124, .ref q126, .null, .int 0, .null, .null, .null])), (q84, .inl (cA85, 1200, .inl (fun _ => 0))), (q86, .inl (cA87, 2400, .inl (fun _ => 0))), (q88, .inl (cA89, 16, .inl (fun _ => 0))), (q90, .inl (cA91, 16, .inl (fun _ => 0))), (q92, .inl (cA93, 2, .inl (fun _ => 0))), (q94, .inl (cA95, 2, .inl (fun _ => 0))), (q96, .inl (cA97, 2, .inl (fun _ => 0))), (q98, .inl (cA99, 2, .inl (fun _ => 0))), (q100, .inl (cA101, 2, .inl (fun _ => 0))), (q102, .inl (cA103, 2, .inl (fun _ => 0))), (q104, .inl (cA105, 32, .inl (fun _ => 0))), (q106, .inl (cA107, 32, .inl (fun _ => 0))), (q108, .inl (cA109, 32, .inl (fun _ => 0))), (q110, .inl (cA111, 2048, .inl (fun _ => 0))), (q112, .inl (cA113, 2048, .inl (fun _ => 0))), (q114, .inl (cA115, 2048, .inl (fun _ => 0))), (q116, .inl (cA117, 2048, .inl (fun _ => 0))), (q118, .inl (cA119, 24, .inl (fun _ => 0))), (q120, .inl (cA121, 6, .inl (fun _ => 0))), (q122, .inl (cA123, 12, .inl (fun _ => 0))), (q124, .inl (cA125, 130, .inl (fun _ => 0))), (q126, .inl (cA127, 130, .inl (fun _ => 0)))] H := hP
  have hD : va_D A [(h1, .inr (10, [.int 0, .int 0, .ref q84, .int 0, .int 0, .ref q86, .ref q88, .ref q90, .ref q92, .ref q94, .ref q96, .ref q98, .ref q100, .ref q102, .ref q104, .ref q106, .ref q108, .ref q110, .ref q112, .ref q114, .ref q116, .int 0, .int 0, .int 0, .ref q118, .ref q120, .int 0, .ref q122, .int 0, .ref q124, .ref q126, .null, .int 0, .null, .null, .null])), (q84, .inl (cA85, 1200, .inl (fun _ => 0))), (q86, .inl (cA87, 2400, .inl (fun _ => 0))), (q88, .inl (cA89, 16, .inl (fun _ => 0))), (q90, .inl (cA91, 16, .inl (fun _ => 0))), (q92, .inl (cA93, 2, .inl (fun _ => 0))), (q94, .inl (cA95, 2, .inl (fun _ => 0))), (q96, .inl (cA97, 2, .inl (fun _ => 0))), (q98, .inl (cA99, 2, .inl (fun _ => 0))), (q100, .inl (cA101, 2, .inl (fun _ => 0))), (q102, .inl (cA103, 2, .inl (fun _ => 0))), (q104, .inl (cA105, 32, .inl (fun _ => 0))), (q106, .inl (cA107, 32, .inl (fun _ => 0))), (q108, .inl (cA109, 32, .inl (fun _ => 0))), (q110, .inl (cA111, 2048, .inl (fun _ => 0))), (q112, .inl (cA113, 2048, .inl (fun _ => 0))), (q114, .inl (cA115, 2048, .inl (fun _ => 0))), (q116, .inl (cA117, 2048, .inl (fun _ => 0))), (q118, .inl (cA119, 24, .inl (fun _ => 0))), (q120, .inl (cA121, 6, .inl (fun _ => 0))), (q122, .inl (cA123, 12, .inl (fun _ => 0))), (q124, .inl (cA125, 130, .inl (fun _ => 0))), (q126, .inl (cA127, 130, .inl (fun _ => 0)))] := hD
  refine lv_aload_n hx hb d_MD_init_182 rfl (lv_at hl 0 rfl) ?_
  refine lv_sipush (v := 130) hx hb d_MD_init_183 (by decide) ?_
  refine va_newa (atype := .boolean) (a0 := (130, .inl (fun _ => 0))) (ty := .boolean) (N' := 130) hx hb (hts _ (List.mem_cons_of_mem _ w_197)) rfl hK hP hD hS hA (fun _ => rfl) (by decide +kernel) (by decide +kernel) (by decide +kernel) (Nat.le_of_ble_eq_true rfl) (Nat.le_of_ble_eq_true rfl) d_MD_init_186 (fun q128 cA129 H hK hP hD hS => ?_)
  have hP : va_P (dC, dI) cls_ [(h1, .inr (10, [.int 0, .int 0, .ref q84, .int 0, .int 0, .ref q86, .ref q88, .ref q90, .ref q92, .ref q94, .ref q96, .ref q98, .ref q100, .ref q102, .ref q104, .ref q106, .ref q108, .ref q110, .ref q112, .ref q114, .ref q116, .int 0, .int 0, .int 0, .ref q118, .ref q120, .int 0, .ref q122, .int 0, .ref q124, .ref q126, .null, .int 0, .null, .null, .null])), (q84, .inl (cA85, 1200, .inl (fun _ => 0))), (q86, .inl (cA87, 2400, .inl (fun _ => 0))), (q88, .inl (cA89, 16, .inl (fun _ => 0))), (q90, .inl (cA91, 16, .inl (fun _ => 0))), (q92, .inl (cA93, 2, .inl (fun _ => 0))), (q94, .inl (cA95, 2, .inl (fun _ => 0))), (q96, .inl (cA97, 2, .inl (fun _ => 0))), (q98, .inl (cA99, 2, .inl (fun _ => 0))), (q100, .inl (cA101, 2, .inl (fun _ => 0))), (q102, .inl (cA103, 2, .inl (fun _ => 0))), (q104, .inl (cA105, 32, .inl (fun _ => 0))), (q106, .inl (cA107, 32, .inl (fun _ => 0))), (q108, .inl (cA109, 32, .inl (fun _ => 0))), (q110, .inl (cA111, 2048, .inl (fun _ => 0))), (q112, .inl (cA113, 2048, .inl (fun _ => 0))), (q114, .inl (cA115, 2048, .inl (fun _ => 0))), (q116, .inl (cA117, 2048, .inl (fun _ => 0))), (q118, .inl (cA119, 24, .inl (fun _ => 0))), (q120, .inl (cA121, 6, .inl (fun _ => 0))), (q122, .inl (cA123, 12, .inl (fun _ => 0))), (q124, .inl (cA125, 130, .inl (fun _ => 0))), (q126, .inl (cA127, 130, .inl (fun _ => 0))), (q128, .inl (cA129, 130, .inl (fun _ => 0)))] H := hP
  have hD : va_D A [(h1, .inr (10, [.int 0, .int 0, .ref q84, .int 0, .int 0, .ref q86, .ref q88, .ref q90, .ref q92, .ref q94, .ref q96, .ref q98, .ref q100, .ref q102, .ref q104, .ref q106, .ref q108, .ref q110, .ref q112, .ref q114, .ref q116, .int 0, .int 0, .int 0, .ref q118, .ref q120, .int 0, .ref q122, .int 0, .ref q124, .ref q126, .null, .int 0, .null, .null, .null])), (q84, .inl (cA85, 1200, .inl (fun _ => 0))), (q86, .inl (cA87, 2400, .inl (fun _ => 0))), (q88, .inl (cA89, 16, .inl (fun _ => 0))), (q90, .inl (cA91, 16, .inl (fun _ => 0))), (q92, .inl (cA93, 2, .inl (fun _ => 0))), (q94, .inl (cA95, 2, .inl (fun _ => 0))), (q96, .inl (cA97, 2, .inl (fun _ => 0))), (q98, .inl (cA99, 2, .inl (fun _ => 0))), (q100, .inl (cA101, 2, .inl (fun _ => 0))), (q102, .inl (cA103, 2, .inl (fun _ => 0))), (q104, .inl (cA105, 32, .inl (fun _ => 0))), (q106, .inl (cA107, 32, .inl (fun _ => 0))), (q108, .inl (cA109, 32, .inl (fun _ => 0))), (q110, .inl (cA111, 2048, .inl (fun _ => 0))), (q112, .inl (cA113, 2048, .inl (fun _ => 0))), (q114, .inl (cA115, 2048, .inl (fun _ => 0))), (q116, .inl (cA117, 2048, .inl (fun _ => 0))), (q118, .inl (cA119, 24, .inl (fun _ => 0))), (q120, .inl (cA121, 6, .inl (fun _ => 0))), (q122, .inl (cA123, 12, .inl (fun _ => 0))), (q124, .inl (cA125, 130, .inl (fun _ => 0))), (q126, .inl (cA127, 130, .inl (fun _ => 0))), (q128, .inl (cA129, 130, .inl (fun _ => 0)))] := hD
  have hK : va_K (dC, dI) cls_ [(cA85, .int), (cA87, .int), (cA89, .int), (cA91, .int), (cA93, .int), (cA95, .int), (cA97, .int), (cA99, .int), (cA101, .int), (cA103, .int), (cA105, .int), (cA107, .int), (cA109, .int), (cA111, .int), (cA113, .int), (cA115, .int), (cA117, .int), (cA119, .int), (cA121, .int), (cA123, .int), (cA125, .int), (cA127, .int), (cA129, .boolean)] s := hK
  refine va_putF (D := (dC, dI)) (ci := 10) (v := .ref q128) (ty := .array .boolean) (C := R_MD) (T := F_MD) (N := 36) hx hb hts in_MD t_MD t_MD_ok n_MD hown hK hP hD hS 0 rfl rfl 31 (by decide) (hts _ (List.mem_cons_of_mem _ w_883)) (fun _ h9 => h9) rfl hin rfl (by decide +kernel) rfl rfl (Nat.le_of_ble_eq_true rfl) d_MD_init_188 (fun H locs hP hD hS => ?_)
  have hP : va_P (dC, dI) cls_ [(h1, .inr (10, [.int 0, .int 0, .ref q84, .int 0, .int 0, .ref q86, .ref q88, .ref q90, .ref q92, .ref q94, .ref q96, .ref q98, .ref q100, .ref q102, .ref q104, .ref q106, .ref q108, .ref q110, .ref q112, .ref q114, .ref q116, .int 0, .int 0, .int 0, .ref q118, .ref q120, .int 0, .ref q122, .int 0, .ref q124, .ref q126, .ref q128, .int 0, .null, .null, .null])), (q84, .inl (cA85, 1200, .inl (fun _ => 0))), (q86, .inl (cA87, 2400, .inl (fun _ => 0))), (q88, .inl (cA89, 16, .inl (fun _ => 0))), (q90, .inl (cA91, 16, .inl (fun _ => 0))), (q92, .inl (cA93, 2, .inl (fun _ => 0))), (q94, .inl (cA95, 2, .inl (fun _ => 0))), (q96, .inl (cA97, 2, .inl (fun _ => 0))), (q98, .inl (cA99, 2, .inl (fun _ => 0))), (q100, .inl (cA101, 2, .inl (fun _ => 0))), (q102, .inl (cA103, 2, .inl (fun _ => 0))), (q104, .inl (cA105, 32, .inl (fun _ => 0))), (q106, .inl (cA107, 32, .inl (fun _ => 0))), (q108, .inl (cA109, 32, .inl (fun _ => 0))), (q110, .inl (cA111, 2048, .inl (fun _ => 0))), (q112, .inl (cA113, 2048, .inl (fun _ => 0))), (q114, .inl (cA115, 2048, .inl (fun _ => 0))), (q116, .inl (cA117, 2048, .inl (fun _ => 0))), (q118, .inl (cA119, 24, .inl (fun _ => 0))), (q120, .inl (cA121, 6, .inl (fun _ => 0))), (q122, .inl (cA123, 12, .inl (fun _ => 0))), (q124, .inl (cA125, 130, .inl (fun _ => 0))), (q126, .inl (cA127, 130, .inl (fun _ => 0))), (q128, .inl (cA129, 130, .inl (fun _ => 0)))] H := hP
  have hD : va_D A [(h1, .inr (10, [.int 0, .int 0, .ref q84, .int 0, .int 0, .ref q86, .ref q88, .ref q90, .ref q92, .ref q94, .ref q96, .ref q98, .ref q100, .ref q102, .ref q104, .ref q106, .ref q108, .ref q110, .ref q112, .ref q114, .ref q116, .int 0, .int 0, .int 0, .ref q118, .ref q120, .int 0, .ref q122, .int 0, .ref q124, .ref q126, .ref q128, .int 0, .null, .null, .null])), (q84, .inl (cA85, 1200, .inl (fun _ => 0))), (q86, .inl (cA87, 2400, .inl (fun _ => 0))), (q88, .inl (cA89, 16, .inl (fun _ => 0))), (q90, .inl (cA91, 16, .inl (fun _ => 0))), (q92, .inl (cA93, 2, .inl (fun _ => 0))), (q94, .inl (cA95, 2, .inl (fun _ => 0))), (q96, .inl (cA97, 2, .inl (fun _ => 0))), (q98, .inl (cA99, 2, .inl (fun _ => 0))), (q100, .inl (cA101, 2, .inl (fun _ => 0))), (q102, .inl (cA103, 2, .inl (fun _ => 0))), (q104, .inl (cA105, 32, .inl (fun _ => 0))), (q106, .inl (cA107, 32, .inl (fun _ => 0))), (q108, .inl (cA109, 32, .inl (fun _ => 0))), (q110, .inl (cA111, 2048, .inl (fun _ => 0))), (q112, .inl (cA113, 2048, .inl (fun _ => 0))), (q114, .inl (cA115, 2048, .inl (fun _ => 0))), (q116, .inl (cA117, 2048, .inl (fun _ => 0))), (q118, .inl (cA119, 24, .inl (fun _ => 0))), (q120, .inl (cA121, 6, .inl (fun _ => 0))), (q122, .inl (cA123, 12, .inl (fun _ => 0))), (q124, .inl (cA125, 130, .inl (fun _ => 0))), (q126, .inl (cA127, 130, .inl (fun _ => 0))), (q128, .inl (cA129, 130, .inl (fun _ => 0)))] := hD
  refine lv_aload_n hx hb d_MD_init_191 rfl (lv_at hl 0 rfl) ?_
  refine lv_sipush (v := 140) hx hb d_MD_init_192 (by decide) ?_
  refine va_newa (atype := .int) (a0 := (140, .inl (fun _ => 0))) (ty := .int) (N' := 140) hx hb (hts _ (List.mem_cons_of_mem _ w_68)) rfl hK hP hD hS hA (fun _ => rfl) (by decide +kernel) (by decide +kernel) (by decide +kernel) (Nat.le_of_ble_eq_true rfl) (Nat.le_of_ble_eq_true rfl) d_MD_init_195 (fun q130 cA131 H hK hP hD hS => ?_)
  have hP : va_P (dC, dI) cls_ [(h1, .inr (10, [.int 0, .int 0, .ref q84, .int 0, .int 0, .ref q86, .ref q88, .ref q90, .ref q92, .ref q94, .ref q96, .ref q98, .ref q100, .ref q102, .ref q104, .ref q106, .ref q108, .ref q110, .ref q112, .ref q114, .ref q116, .int 0, .int 0, .int 0, .ref q118, .ref q120, .int 0, .ref q122, .int 0, .ref q124, .ref q126, .ref q128, .int 0, .null, .null, .null])), (q84, .inl (cA85, 1200, .inl (fun _ => 0))), (q86, .inl (cA87, 2400, .inl (fun _ => 0))), (q88, .inl (cA89, 16, .inl (fun _ => 0))), (q90, .inl (cA91, 16, .inl (fun _ => 0))), (q92, .inl (cA93, 2, .inl (fun _ => 0))), (q94, .inl (cA95, 2, .inl (fun _ => 0))), (q96, .inl (cA97, 2, .inl (fun _ => 0))), (q98, .inl (cA99, 2, .inl (fun _ => 0))), (q100, .inl (cA101, 2, .inl (fun _ => 0))), (q102, .inl (cA103, 2, .inl (fun _ => 0))), (q104, .inl (cA105, 32, .inl (fun _ => 0))), (q106, .inl (cA107, 32, .inl (fun _ => 0))), (q108, .inl (cA109, 32, .inl (fun _ => 0))), (q110, .inl (cA111, 2048, .inl (fun _ => 0))), (q112, .inl (cA113, 2048, .inl (fun _ => 0))), (q114, .inl (cA115, 2048, .inl (fun _ => 0))), (q116, .inl (cA117, 2048, .inl (fun _ => 0))), (q118, .inl (cA119, 24, .inl (fun _ => 0))), (q120, .inl (cA121, 6, .inl (fun _ => 0))), (q122, .inl (cA123, 12, .inl (fun _ => 0))), (q124, .inl (cA125, 130, .inl (fun _ => 0))), (q126, .inl (cA127, 130, .inl (fun _ => 0))), (q128, .inl (cA129, 130, .inl (fun _ => 0))), (q130, .inl (cA131, 140, .inl (fun _ => 0)))] H := hP
  have hD : va_D A [(h1, .inr (10, [.int 0, .int 0, .ref q84, .int 0, .int 0, .ref q86, .ref q88, .ref q90, .ref q92, .ref q94, .ref q96, .ref q98, .ref q100, .ref q102, .ref q104, .ref q106, .ref q108, .ref q110, .ref q112, .ref q114, .ref q116, .int 0, .int 0, .int 0, .ref q118, .ref q120, .int 0, .ref q122, .int 0, .ref q124, .ref q126, .ref q128, .int 0, .null, .null, .null])), (q84, .inl (cA85, 1200, .inl (fun _ => 0))), (q86, .inl (cA87, 2400, .inl (fun _ => 0))), (q88, .inl (cA89, 16, .inl (fun _ => 0))), (q90, .inl (cA91, 16, .inl (fun _ => 0))), (q92, .inl (cA93, 2, .inl (fun _ => 0))), (q94, .inl (cA95, 2, .inl (fun _ => 0))), (q96, .inl (cA97, 2, .inl (fun _ => 0))), (q98, .inl (cA99, 2, .inl (fun _ => 0))), (q100, .inl (cA101, 2, .inl (fun _ => 0))), (q102, .inl (cA103, 2, .inl (fun _ => 0))), (q104, .inl (cA105, 32, .inl (fun _ => 0))), (q106, .inl (cA107, 32, .inl (fun _ => 0))), (q108, .inl (cA109, 32, .inl (fun _ => 0))), (q110, .inl (cA111, 2048, .inl (fun _ => 0))), (q112, .inl (cA113, 2048, .inl (fun _ => 0))), (q114, .inl (cA115, 2048, .inl (fun _ => 0))), (q116, .inl (cA117, 2048, .inl (fun _ => 0))), (q118, .inl (cA119, 24, .inl (fun _ => 0))), (q120, .inl (cA121, 6, .inl (fun _ => 0))), (q122, .inl (cA123, 12, .inl (fun _ => 0))), (q124, .inl (cA125, 130, .inl (fun _ => 0))), (q126, .inl (cA127, 130, .inl (fun _ => 0))), (q128, .inl (cA129, 130, .inl (fun _ => 0))), (q130, .inl (cA131, 140, .inl (fun _ => 0)))] := hD
  have hK : va_K (dC, dI) cls_ [(cA85, .int), (cA87, .int), (cA89, .int), (cA91, .int), (cA93, .int), (cA95, .int), (cA97, .int), (cA99, .int), (cA101, .int), (cA103, .int), (cA105, .int), (cA107, .int), (cA109, .int), (cA111, .int), (cA113, .int), (cA115, .int), (cA117, .int), (cA119, .int), (cA121, .int), (cA123, .int), (cA125, .int), (cA127, .int), (cA129, .boolean), (cA131, .int)] s := hK
  refine va_putF (D := (dC, dI)) (ci := 10) (v := .ref q130) (ty := .array .int) (C := R_MD) (T := F_MD) (N := 36) hx hb hts in_MD t_MD t_MD_ok n_MD hown hK hP hD hS 0 rfl rfl 33 (by decide) (hts _ (List.mem_cons_of_mem _ w_885)) (fun _ h9 => h9) rfl hin rfl (by decide +kernel) rfl rfl (Nat.le_of_ble_eq_true rfl) d_MD_init_197 (fun H locs hP hD hS => ?_)
  have hP : va_P (dC, dI) cls_ [(h1, .inr (10, [.int 0, .int 0, .ref q84, .int 0, .int 0, .ref q86, .ref q88, .ref q90, .ref q92, .ref q94, .ref q96, .ref q98, .ref q100, .ref q102, .ref q104, .ref q106, .ref q108, .ref q110, .ref q112, .ref q114, .ref q116, .int 0, .int 0, .int 0, .ref q118, .ref q120, .int 0, .ref q122, .int 0, .ref q124, .ref q126, .ref q128, .int 0, .ref q130, .null, .null])), (q84, .inl (cA85, 1200, .inl (fun _ => 0))), (q86, .inl (cA87, 2400, .inl (fun _ => 0))), (q88, .inl (cA89, 16, .inl (fun _ => 0))), (q90, .inl (cA91, 16, .inl (fun _ => 0))), (q92, .inl (cA93, 2, .inl (fun _ => 0))), (q94, .inl (cA95, 2, .inl (fun _ => 0))), (q96, .inl (cA97, 2, .inl (fun _ => 0))), (q98, .inl (cA99, 2, .inl (fun _ => 0))), (q100, .inl (cA101, 2, .inl (fun _ => 0))), (q102, .inl (cA103, 2, .inl (fun _ => 0))), (q104, .inl (cA105, 32, .inl (fun _ => 0))), (q106, .inl (cA107, 32, .inl (fun _ => 0))), (q108, .inl (cA109, 32, .inl (fun _ => 0))), (q110, .inl (cA111, 2048, .inl (fun _ => 0))), (q112, .inl (cA113, 2048, .inl (fun _ => 0))), (q114, .inl (cA115, 2048, .inl (fun _ => 0))), (q116, .inl (cA117, 2048, .inl (fun _ => 0))), (q118, .inl (cA119, 24, .inl (fun _ => 0))), (q120, .inl (cA121, 6, .inl (fun _ => 0))), (q122, .inl (cA123, 12, .inl (fun _ => 0))), (q124, .inl (cA125, 130, .inl (fun _ => 0))), (q126, .inl (cA127, 130, .inl (fun _ => 0))), (q128, .inl (cA129, 130, .inl (fun _ => 0))), (q130, .inl (cA131, 140, .inl (fun _ => 0)))] H := hP
  have hD : va_D A [(h1, .inr (10, [.int 0, .int 0, .ref q84, .int 0, .int 0, .ref q86, .ref q88, .ref q90, .ref q92, .ref q94, .ref q96, .ref q98, .ref q100, .ref q102, .ref q104, .ref q106, .ref q108, .ref q110, .ref q112, .ref q114, .ref q116, .int 0, .int 0, .int 0, .ref q118, .ref q120, .int 0, .ref q122, .int 0, .ref q124, .ref q126, .ref q128, .int 0, .ref q130, .null, .null])), (q84, .inl (cA85, 1200, .inl (fun _ => 0))), (q86, .inl (cA87, 2400, .inl (fun _ => 0))), (q88, .inl (cA89, 16, .inl (fun _ => 0))), (q90, .inl (cA91, 16, .inl (fun _ => 0))), (q92, .inl (cA93, 2, .inl (fun _ => 0))), (q94, .inl (cA95, 2, .inl (fun _ => 0))), (q96, .inl (cA97, 2, .inl (fun _ => 0))), (q98, .inl (cA99, 2, .inl (fun _ => 0))), (q100, .inl (cA101, 2, .inl (fun _ => 0))), (q102, .inl (cA103, 2, .inl (fun _ => 0))), (q104, .inl (cA105, 32, .inl (fun _ => 0))), (q106, .inl (cA107, 32, .inl (fun _ => 0))), (q108, .inl (cA109, 32, .inl (fun _ => 0))), (q110, .inl (cA111, 2048, .inl (fun _ => 0))), (q112, .inl (cA113, 2048, .inl (fun _ => 0))), (q114, .inl (cA115, 2048, .inl (fun _ => 0))), (q116, .inl (cA117, 2048, .inl (fun _ => 0))), (q118, .inl (cA119, 24, .inl (fun _ => 0))), (q120, .inl (cA121, 6, .inl (fun _ => 0))), (q122, .inl (cA123, 12, .inl (fun _ => 0))), (q124, .inl (cA125, 130, .inl (fun _ => 0))), (q126, .inl (cA127, 130, .inl (fun _ => 0))), (q128, .inl (cA129, 130, .inl (fun _ => 0))), (q130, .inl (cA131, 140, .inl (fun _ => 0)))] := hD
  refine lv_aload_n hx hb d_MD_init_200 rfl (lv_at hl 0 rfl) ?_
  refine lv_sipush (v := 1152) hx hb d_MD_init_201 (by decide) ?_
  refine va_newa (atype := .int) (a0 := (1152, .inl (fun _ => 0))) (ty := .int) (N' := 1152) hx hb (hts _ (List.mem_cons_of_mem _ w_68)) rfl hK hP hD hS hA (fun _ => rfl) (by decide +kernel) (by decide +kernel) (by decide +kernel) (Nat.le_of_ble_eq_true rfl) (Nat.le_of_ble_eq_true rfl) d_MD_init_204 (fun q132 cA133 H hK hP hD hS => ?_)
  have hP : va_P (dC, dI) cls_ [(h1, .inr (10, [.int 0, .int 0, .ref q84, .int 0, .int 0, .ref q86, .ref q88, .ref q90, .ref q92, .ref q94, .ref q96, .ref q98, .ref q100, .ref q102, .ref q104, .ref q106, .ref q108, .ref q110, .ref q112, .ref q114, .ref q116, .int 0, .int 0, .int 0, .ref q118, .ref q120, .int 0, .ref q122, .int 0, .ref q124, .ref q126, .ref q128, .int 0, .ref q130, .null, .null])), (q84, .inl (cA85, 1200, .inl (fun _ => 0))), (q86, .inl (cA87, 2400, .inl (fun _ => 0))), (q88, .inl (cA89, 16, .inl (fun _ => 0))), (q90, .inl (cA91, 16, .inl (fun _ => 0))), (q92, .inl (cA93, 2, .inl (fun _ => 0))), (q94, .inl (cA95, 2, .inl (fun _ => 0))), (q96, .inl (cA97, 2, .inl (fun _ => 0))), (q98, .inl (cA99, 2, .inl (fun _ => 0))), (q100, .inl (cA101, 2, .inl (fun _ => 0))), (q102, .inl (cA103, 2, .inl (fun _ => 0))), (q104, .inl (cA105, 32, .inl (fun _ => 0))), (q106, .inl (cA107, 32, .inl (fun _ => 0))), (q108, .inl (cA109, 32, .inl (fun _ => 0))), (q110, .inl (cA111, 2048, .inl (fun _ => 0))), (q112, .inl (cA113, 2048, .inl (fun _ => 0))), (q114, .inl (cA115, 2048, .inl (fun _ => 0))), (q116, .inl (cA117, 2048, .inl (fun _ => 0))), (q118, .inl (cA119, 24, .inl (fun _ => 0))), (q120, .inl (cA121, 6, .inl (fun _ => 0))), (q122, .inl (cA123, 12, .inl (fun _ => 0))), (q124, .inl (cA125, 130, .inl (fun _ => 0))), (q126, .inl (cA127, 130, .inl (fun _ => 0))), (q128, .inl (cA129, 130, .inl (fun _ => 0))), (q130, .inl (cA131, 140, .inl (fun _ => 0))), (q132, .inl (cA133, 1152, .inl (fun _ => 0)))] H := hP
  have hD : va_D A [(h1, .inr (10, [.int 0, .int 0, .ref q84, .int 0, .int 0, .ref q86, .ref q88, .ref q90, .ref q92, .ref q94, .ref q96, .ref q98, .ref q100, .ref q102, .ref q104, .ref q106, .ref q108, .ref q110, .ref q112, .ref q114, .ref q116, .int 0, .int 0, .int 0, .ref q118, .ref q120, .int 0, .ref q122, .int 0, .ref q124, .ref q126, .ref q128, .int 0, .ref q130, .null, .null])), (q84, .inl (cA85, 1200, .inl (fun _ => 0))), (q86, .inl (cA87, 2400, .inl (fun _ => 0))), (q88, .inl (cA89, 16, .inl (fun _ => 0))), (q90, .inl (cA91, 16, .inl (fun _ => 0))), (q92, .inl (cA93, 2, .inl (fun _ => 0))), (q94, .inl (cA95, 2, .inl (fun _ => 0))), (q96, .inl (cA97, 2, .inl (fun _ => 0))), (q98, .inl (cA99, 2, .inl (fun _ => 0))), (q100, .inl (cA101, 2, .inl (fun _ => 0))), (q102, .inl (cA103, 2, .inl (fun _ => 0))), (q104, .inl (cA105, 32, .inl (fun _ => 0))), (q106, .inl (cA107, 32, .inl (fun _ => 0))), (q108, .inl (cA109, 32, .inl (fun _ => 0))), (q110, .inl (cA111, 2048, .inl (fun _ => 0))), (q112, .inl (cA113, 2048, .inl (fun _ => 0))), (q114, .inl (cA115, 2048, .inl (fun _ => 0))), (q116, .inl (cA117, 2048, .inl (fun _ => 0))), (q118, .inl (cA119, 24, .inl (fun _ => 0))), (q120, .inl (cA121, 6, .inl (fun _ => 0))), (q122, .inl (cA123, 12, .inl (fun _ => 0))), (q124, .inl (cA125, 130, .inl (fun _ => 0))), (q126, .inl (cA127, 130, .inl (fun _ => 0))), (q128, .inl (cA129, 130, .inl (fun _ => 0))), (q130, .inl (cA131, 140, .inl (fun _ => 0))), (q132, .inl (cA133, 1152, .inl (fun _ => 0)))] := hD
  have hK : va_K (dC, dI) cls_ [(cA85, .int), (cA87, .int), (cA89, .int), (cA91, .int), (cA93, .int), (cA95, .int), (cA97, .int), (cA99, .int), (cA101, .int), (cA103, .int), (cA105, .int), (cA107, .int), (cA109, .int), (cA111, .int), (cA113, .int), (cA115, .int), (cA117, .int), (cA119, .int), (cA121, .int), (cA123, .int), (cA125, .int), (cA127, .int), (cA129, .boolean), (cA131, .int), (cA133, .int)] s := hK
  refine va_putF (D := (dC, dI)) (ci := 10) (v := .ref q132) (ty := .array .int) (C := R_MD) (T := F_MD) (N := 36) hx hb hts in_MD t_MD t_MD_ok n_MD hown hK hP hD hS 0 rfl rfl 34 (by decide) (hts _ (List.mem_cons_of_mem _ w_886)) (fun _ h9 => h9) rfl hin rfl (by decide +kernel) rfl rfl (Nat.le_of_ble_eq_true rfl) d_MD_init_206 (fun H locs hP hD hS => ?_)
  have hP : va_P (dC, dI) cls_ [(h1, .inr (10, [.int 0, .int 0, .ref q84, .int 0, .int 0, .ref q86, .ref q88, .ref q90, .ref q92, .ref q94, .ref q96, .ref q98, .ref q100, .ref q102, .ref q104, .ref q106, .ref q108, .ref q110, .ref q112, .ref q114, .ref q116, .int 0, .int 0, .int 0, .ref q118, .ref q120, .int 0, .ref q122, .int 0, .ref q124, .ref q126, .ref q128, .int 0, .ref q130, .ref q132, .null])), (q84, .inl (cA85, 1200, .inl (fun _ => 0))), (q86, .inl (cA87, 2400, .inl (fun _ => 0))), (q88, .inl (cA89, 16, .inl (fun _ => 0))), (q90, .inl (cA91, 16, .inl (fun _ => 0))), (q92, .inl (cA93, 2, .inl (fun _ => 0))), (q94, .inl (cA95, 2, .inl (fun _ => 0))), (q96, .inl (cA97, 2, .inl (fun _ => 0))), (q98, .inl (cA99, 2, .inl (fun _ => 0))), (q100, .inl (cA101, 2, .inl (fun _ => 0))), (q102, .inl (cA103, 2, .inl (fun _ => 0))), (q104, .inl (cA105, 32, .inl (fun _ => 0))), (q106, .inl (cA107, 32, .inl (fun _ => 0))), (q108, .inl (cA109, 32, .inl (fun _ => 0))), (q110, .inl (cA111, 2048, .inl (fun _ => 0))), (q112, .inl (cA113, 2048, .inl (fun _ => 0))), (q114, .inl (cA115, 2048, .inl (fun _ => 0))), (q116, .inl (cA117, 2048, .inl (fun _ => 0))), (q118, .inl (cA119, 24, .inl (fun _ => 0))), (q120, .inl (cA121, 6, .inl (fun _ => 0))), (q122, .inl (cA123, 12, .inl (fun _ => 0))), (q124, .inl (cA125, 130, .inl (fun _ => 0))), (q126, .inl (cA127, 130, .inl (fun _ => 0))), (q128, .inl (cA129, 130, .inl (fun _ => 0))), (q130, .inl (cA131, 140, .inl (fun _ => 0))), (q132, .inl (cA133, 1152, .inl (fun _ => 0)))] H := hP
  have hD : va_D A [(h1, .inr (10, [.int 0, .int 0, .ref q84, .int 0, .int 0, .ref q86, .ref q88, .ref q90, .ref q92, .ref q94, .ref q96, .ref q98, .ref q100, .ref q102, .ref q104, .ref q106, .ref q108, .ref q110, .ref q112, .ref q114, .ref q116, .int 0, .int 0, .int 0, .ref q118, .ref q120, .int 0, .ref q122, .int 0, .ref q124, .ref q126, .ref q128, .int 0, .ref q130, .ref q132, .null])), (q84, .inl (cA85, 1200, .inl (fun _ => 0))), (q86, .inl (cA87, 2400, .inl (fun _ => 0))), (q88, .inl (cA89, 16, .inl (fun _ => 0))), (q90, .inl (cA91, 16, .inl (fun _ => 0))), (q92, .inl (cA93, 2, .inl (fun _ => 0))), (q94, .inl (cA95, 2, .inl (fun _ => 0))), (q96, .inl (cA97, 2, .inl (fun _ => 0))), (q98, .inl (cA99, 2, .inl (fun _ => 0))), (q100, .inl (cA101, 2, .inl (fun _ => 0))), (q102, .inl (cA103, 2, .inl (fun _ => 0))), (q104, .inl (cA105, 32, .inl (fun _ => 0))), (q106, .inl (cA107, 32, .inl (fun _ => 0))), (q108, .inl (cA109, 32, .inl (fun _ => 0))), (q110, .inl (cA111, 2048, .inl (fun _ => 0))), (q112, .inl (cA113, 2048, .inl (fun _ => 0))), (q114, .inl (cA115, 2048, .inl (fun _ => 0))), (q116, .inl (cA117, 2048, .inl (fun _ => 0))), (q118, .inl (cA119, 24, .inl (fun _ => 0))), (q120, .inl (cA121, 6, .inl (fun _ => 0))), (q122, .inl (cA123, 12, .inl (fun _ => 0))), (q124, .inl (cA125, 130, .inl (fun _ => 0))), (q126, .inl (cA127, 130, .inl (fun _ => 0))), (q128, .inl (cA129, 130, .inl (fun _ => 0))), (q130, .inl (cA131, 140, .inl (fun _ => 0))), (q132, .inl (cA133, 1152, .inl (fun _ => 0)))] := hD
  refine lv_aload_n hx hb d_MD_init_209 rfl (lv_at hl 0 rfl) ?_
  refine lv_bipush (v := 24) hx hb d_MD_init_210 (by decide) ?_
  refine va_newa (atype := .long) (a0 := (24, .inr (.inl (fun _ => 0)))) (ty := .long) (N' := 24) hx hb (hts _ (List.mem_cons_of_mem _ w_248)) rfl hK hP hD hS hA (fun _ => rfl) (by decide +kernel) (by decide +kernel) (by decide +kernel) (Nat.le_of_ble_eq_true rfl) (Nat.le_of_ble_eq_true rfl) d_MD_init_212 (fun q134 cA135 H hK hP hD hS => ?_)
  have hP : va_P (dC, dI) cls_ [(h1, .inr (10, [.int 0, .int 0, .ref q84, .int 0, .int 0, .ref q86, .ref q88, .ref q90, .ref q92, .ref q94, .ref q96, .ref q98, .ref q100, .ref q102, .ref q104, .ref q106, .ref q108, .ref q110, .ref q112, .ref q114, .ref q116, .int 0, .int 0, .int 0, .ref q118, .ref q120, .int 0, .ref q122, .int 0, .ref q124, .ref q126, .ref q128, .int 0, .ref q130, .ref q132, .null])), (q84, .inl (cA85, 1200, .inl (fun _ => 0))), (q86, .inl (cA87, 2400, .inl (fun _ => 0))), (q88, .inl (cA89, 16, .inl (fun _ => 0))), (q90, .inl (cA91, 16, .inl (fun _ => 0))), (q92, .inl (cA93, 2, .inl (fun _ => 0))), (q94, .inl (cA95, 2, .inl (fun _ => 0))), (q96, .inl (cA97, 2, .inl (fun _ => 0))), (q98, .inl (cA99, 2, .inl (fun _ => 0))), (q100, .inl (cA101, 2, .inl (fun _ => 0))), (q102, .inl (cA103, 2, .inl (fun _ => 0))), (q104, .inl (cA105, 32, .inl (fun _ => 0))), (q106, .inl (cA107, 32, .inl (fun _ => 0))), (q108, .inl (cA109, 32, .inl (fun _ => 0))), (q110, .inl (cA111, 2048, .inl (fun _ => 0))), (q112, .inl (cA113, 2048, .inl (fun _ => 0))), (q114, .inl (cA115, 2048, .inl (fun _ => 0))), (q116, .inl (cA117, 2048, .inl (fun _ => 0))), (q118, .inl (cA119, 24, .inl (fun _ => 0))), (q120, .inl (cA121, 6, .inl (fun _ => 0))), (q122, .inl (cA123, 12, .inl (fun _ => 0))), (q124, .inl (cA125, 130, .inl (fun _ => 0))), (q126, .inl (cA127, 130, .inl (fun _ => 0))), (q128, .inl (cA129, 130, .inl (fun _ => 0))), (q130, .inl (cA131, 140, .inl (fun _ => 0))), (q132, .inl (cA133, 1152, .inl (fun _ => 0))), (q134, .inl (cA135, 24, .inr (.inl (fun _ => 0))))] H := hP
  have hD : va_D A [(h1, .inr (10, [.int 0, .int 0, .ref q84, .int 0, .int 0, .ref q86, .ref q88, .ref q90, .ref q92, .ref q94, .ref q96, .ref q98, .ref q100, .ref q102, .ref q104, .ref q106, .ref q108, .ref q110, .ref q112, .ref q114, .ref q116, .int 0, .int 0, .int 0, .ref q118, .ref q120, .int 0, .ref q122, .int 0, .ref q124, .ref q126, .ref q128, .int 0, .ref q130, .ref q132, .null])), (q84, .inl (cA85, 1200, .inl (fun _ => 0))), (q86, .inl (cA87, 2400, .inl (fun _ => 0))), (q88, .inl (cA89, 16, .inl (fun _ => 0))), (q90, .inl (cA91, 16, .inl (fun _ => 0))), (q92, .inl (cA93, 2, .inl (fun _ => 0))), (q94, .inl (cA95, 2, .inl (fun _ => 0))), (q96, .inl (cA97, 2, .inl (fun _ => 0))), (q98, .inl (cA99, 2, .inl (fun _ => 0))), (q100, .inl (cA101, 2, .inl (fun _ => 0))), (q102, .inl (cA103, 2, .inl (fun _ => 0))), (q104, .inl (cA105, 32, .inl (fun _ => 0))), (q106, .inl (cA107, 32, .inl (fun _ => 0))), (q108, .inl (cA109, 32, .inl (fun _ => 0))), (q110, .inl (cA111, 2048, .inl (fun _ => 0))), (q112, .inl (cA113, 2048, .inl (fun _ => 0))), (q114, .inl (cA115, 2048, .inl (fun _ => 0))), (q116, .inl (cA117, 2048, .inl (fun _ => 0))), (q118, .inl (cA119, 24, .inl (fun _ => 0))), (q120, .inl (cA121, 6, .inl (fun _ => 0))), (q122, .inl (cA123, 12, .inl (fun _ => 0))), (q124, .inl (cA125, 130, .inl (fun _ => 0))), (q126, .inl (cA127, 130, .inl (fun _ => 0))), (q128, .inl (cA129, 130, .inl (fun _ => 0))), (q130, .inl (cA131, 140, .inl (fun _ => 0))), (q132, .inl (cA133, 1152, .inl (fun _ => 0))), (q134, .inl (cA135, 24, .inr (.inl (fun _ => 0))))] := hD
  have hK : va_K (dC, dI) cls_ [(cA85, .int), (cA87, .int), (cA89, .int), (cA91, .int), (cA93, .int), (cA95, .int), (cA97, .int), (cA99, .int), (cA101, .int), (cA103, .int), (cA105, .int), (cA107, .int), (cA109, .int), (cA111, .int), (cA113, .int), (cA115, .int), (cA117, .int), (cA119, .int), (cA121, .int), (cA123, .int), (cA125, .int), (cA127, .int), (cA129, .boolean), (cA131, .int), (cA133, .int), (cA135, .long)] s := hK
  refine va_putF (D := (dC, dI)) (ci := 10) (v := .ref q134) (ty := .array .long) (C := R_MD) (T := F_MD) (N := 36) hx hb hts in_MD t_MD t_MD_ok n_MD hown hK hP hD hS 0 rfl rfl 35 (by decide) (hts _ (List.mem_cons_of_mem _ w_887)) (fun _ h9 => h9) rfl hin rfl (by decide +kernel) rfl rfl (Nat.le_of_ble_eq_true rfl) d_MD_init_214 (fun H locs hP hD hS => ?_)
  have hP : va_P (dC, dI) cls_ [(h1, .inr (10, [.int 0, .int 0, .ref q84, .int 0, .int 0, .ref q86, .ref q88, .ref q90, .ref q92, .ref q94, .ref q96, .ref q98, .ref q100, .ref q102, .ref q104, .ref q106, .ref q108, .ref q110, .ref q112, .ref q114, .ref q116, .int 0, .int 0, .int 0, .ref q118, .ref q120, .int 0, .ref q122, .int 0, .ref q124, .ref q126, .ref q128, .int 0, .ref q130, .ref q132, .ref q134])), (q84, .inl (cA85, 1200, .inl (fun _ => 0))), (q86, .inl (cA87, 2400, .inl (fun _ => 0))), (q88, .inl (cA89, 16, .inl (fun _ => 0))), (q90, .inl (cA91, 16, .inl (fun _ => 0))), (q92, .inl (cA93, 2, .inl (fun _ => 0))), (q94, .inl (cA95, 2, .inl (fun _ => 0))), (q96, .inl (cA97, 2, .inl (fun _ => 0))), (q98, .inl (cA99, 2, .inl (fun _ => 0))), (q100, .inl (cA101, 2, .inl (fun _ => 0))), (q102, .inl (cA103, 2, .inl (fun _ => 0))), (q104, .inl (cA105, 32, .inl (fun _ => 0))), (q106, .inl (cA107, 32, .inl (fun _ => 0))), (q108, .inl (cA109, 32, .inl (fun _ => 0))), (q110, .inl (cA111, 2048, .inl (fun _ => 0))), (q112, .inl (cA113, 2048, .inl (fun _ => 0))), (q114, .inl (cA115, 2048, .inl (fun _ => 0))), (q116, .inl (cA117, 2048, .inl (fun _ => 0))), (q118, .inl (cA119, 24, .inl (fun _ => 0))), (q120, .inl (cA121, 6, .inl (fun _ => 0))), (q122, .inl (cA123, 12, .inl (fun _ => 0))), (q124, .inl (cA125, 130, .inl (fun _ => 0))), (q126, .inl (cA127, 130, .inl (fun _ => 0))), (q128, .inl (cA129, 130, .inl (fun _ => 0))), (q130, .inl (cA131, 140, .inl (fun _ => 0))), (q132, .inl (cA133, 1152, .inl (fun _ => 0))), (q134, .inl (cA135, 24, .inr (.inl (fun _ => 0))))] H := hP
  have hD : va_D A [(h1, .inr (10, [.int 0, .int 0, .ref q84, .int 0, .int 0, .ref q86, .ref q88, .ref q90, .ref q92, .ref q94, .ref q96, .ref q98, .ref q100, .ref q102, .ref q104, .ref q106, .ref q108, .ref q110, .ref q112, .ref q114, .ref q116, .int 0, .int 0, .int 0, .ref q118, .ref q120, .int 0, .ref q122, .int 0, .ref q124, .ref q126, .ref q128, .int 0, .ref q130, .ref q132, .ref q134])), (q84, .inl (cA85, 1200, .inl (fun _ => 0))), (q86, .inl (cA87, 2400, .inl (fun _ => 0))), (q88, .inl (cA89, 16, .inl (fun _ => 0))), (q90, .inl (cA91, 16, .inl (fun _ => 0))), (q92, .inl (cA93, 2, .inl (fun _ => 0))), (q94, .inl (cA95, 2, .inl (fun _ => 0))), (q96, .inl (cA97, 2, .inl (fun _ => 0))), (q98, .inl (cA99, 2, .inl (fun _ => 0))), (q100, .inl (cA101, 2, .inl (fun _ => 0))), (q102, .inl (cA103, 2, .inl (fun _ => 0))), (q104, .inl (cA105, 32, .inl (fun _ => 0))), (q106, .inl (cA107, 32, .inl (fun _ => 0))), (q108, .inl (cA109, 32, .inl (fun _ => 0))), (q110, .inl (cA111, 2048, .inl (fun _ => 0))), (q112, .inl (cA113, 2048, .inl (fun _ => 0))), (q114, .inl (cA115, 2048, .inl (fun _ => 0))), (q116, .inl (cA117, 2048, .inl (fun _ => 0))), (q118, .inl (cA119, 24, .inl (fun _ => 0))), (q120, .inl (cA121, 6, .inl (fun _ => 0))), (q122, .inl (cA123, 12, .inl (fun _ => 0))), (q124, .inl (cA125, 130, .inl (fun _ => 0))), (q126, .inl (cA127, 130, .inl (fun _ => 0))), (q128, .inl (cA129, 130, .inl (fun _ => 0))), (q130, .inl (cA131, 140, .inl (fun _ => 0))), (q132, .inl (cA133, 1152, .inl (fun _ => 0))), (q134, .inl (cA135, 24, .inr (.inl (fun _ => 0))))] := hD
  refine W.widen (k := 26) (n := 13680) (Nat.le_of_ble_eq_true rfl) (Nat.le_of_ble_eq_true rfl) ?_
  have hP9 := hP.sub (ws' := [(h1, .inr (10, [.int 0, .int 0, .ref q84, .int 0, .int 0, .ref q86, .ref q88, .ref q90, .ref q92, .ref q94, .ref q96, .ref q98, .ref q100, .ref q102, .ref q104, .ref q106, .ref q108, .ref q110, .ref q112, .ref q114, .ref q116, .int 0, .int 0, .int 0, .ref q118, .ref q120, .int 0, .ref q122, .int 0, .ref q124, .ref q126, .ref q128, .int 0, .ref q130, .ref q132, .ref q134])), (q84, .inl (cA85, 1200, .inl (fun _ => 0))), (q86, .inl (cA87, 2400, .inl (fun _ => 0))), (q88, .inl (cA89, 16, .inl (fun _ => 0))), (q122, .inl (cA123, 12, .inl (fun _ => 0))), (q134, .inl (cA135, 24, .inr (.inl (fun _ => 0))))]) [0, 1, 2, 3, 20, 26] rfl
  have hD9 := hD.sub (ws' := [(h1, .inr (10, [.int 0, .int 0, .ref q84, .int 0, .int 0, .ref q86, .ref q88, .ref q90, .ref q92, .ref q94, .ref q96, .ref q98, .ref q100, .ref q102, .ref q104, .ref q106, .ref q108, .ref q110, .ref q112, .ref q114, .ref q116, .int 0, .int 0, .int 0, .ref q118, .ref q120, .int 0, .ref q122, .int 0, .ref q124, .ref q126, .ref q128, .int 0, .ref q130, .ref q132, .ref q134])), (q84, .inl (cA85, 1200, .inl (fun _ => 0))), (q86, .inl (cA87, 2400, .inl (fun _ => 0))), (q88, .inl (cA89, 16, .inl (fun _ => 0))), (q122, .inl (cA123, 12, .inl (fun _ => 0))), (q134, .inl (cA135, 24, .inr (.inl (fun _ => 0))))]) [0, 1, 2, 3, 20, 26] (by decide) rfl
  have hK9 := hK.sub (tys' := [(cA85, .int), (cA87, .int), (cA89, .int), (cA123, .int), (cA135, .long)]) [0, 1, 2, 19, 25] rfl
  exact W.vret hx hb hr (fun t ht hW => ⟨⟨(), rfl, trivial, q84, q86, q88, q90, q92, q94, q96, q98, q100, q102, q104, q106, q108, q110, q112, q114, q116, q118, q120, q122, q124, q126, q128, q130, q132, q134, cA85, cA87, cA89, cA123, cA135, by rw [ht]; exact hP9, va_K.moved hW.alike hK9, hD9⟩, hS.F ht⟩) hS.2.2 d_MD_init_217
end
section
set_option maxHeartbeats 4000000 in
set_option maxRecDepth 100000 in
/-- GlyphLines.requireFont -/
theorem c_GL_requireFont (l : Launch) (hfl : l.flags = flags0) (dC : Nat → ClassId) (dI : Nat → Nat → Nat) (h0 qf a2 a3 a5 a6 a7 qx : Nat) (sz : Nat) : th_Met l y_GL_requireFont s_GL_requireFont ({ frames := 8, cells := 1, slots := 6, locals := 200 }) (va_Pc [.ref h0] (fun U => U.heap.size = sz ∧ va_P (dC, dI) cls_ [(h0, .inr (9, [.ref qf, .int 0, .ref a2, .ref a3, .int 0, .ref a5, .ref a6, .ref a7, .ref qx, .int 0]))] U.heap ∧ va_K (dC, dI) cls_ [] U ∧ va_D (fun _ => True) [(h0, .inr (9, [.ref qf, .int 0, .ref a2, .ref a3, .int 0, .ref a5, .ref a6, .ref a7, .ref qx, .int 0]))] ∧ th_All U)) X_is 1 6 := by
  refine th_ofW (cc := b_GL_requireFont) (maxL := 1) (ret := none) (by decide) rfl ?_
  intro p e s m args below meth c s₁ B hml hv
  obtain ⟨rfl, hsz, hP, hK, hD0, hT9⟩ := hv
  have hx := B.exec
  have hb := B.bytes
  have hts := atoms_spec (ws := s_GL_requireFont) B.pre
  have hown : s.vm.findClass R_GL = some m.cls := findClass_of_methodNamed B.named
  have hlocks := B.notSynchronized
  have htr : e.platform.stackTraces = false := Launch.traces_off hfl B.admits
  have hnoh := B.noHandlers (hts _ List.mem_cons_self)
  obtain ⟨hT1, hT2, hT3, ⟨qs62, hz62⟩, ⟨qs72, hz72⟩, ⟨qs159, hz159⟩, ⟨qs151, hz151⟩⟩ := id hT9
  have hH : ∀ q : Nat, q < s.heap.size → s.heap[q]? = s.heap[q]? := fun _ _ => rfl
  subst hsz
  have hD := hD0.self (sz := s.heap.size)
  generalize hAe : va_A [(h0, .inr (9, [.ref qf, .int 0, .ref a2, .ref a3, .int 0, .ref a5, .ref a6, .ref a7, .ref qx, .int 0]))] s.heap.size = A at hD
  have hA : ∀ q : Nat, s.heap.size ≤ q → A q := fun q h => by rw [← hAe]; exact Or.inr h
  have hS : va_S A s.heap s.heap [] := va_S.rf
  have hP : va_P (dC, dI) cls_ [(h0, .inr (9, [.ref qf, .int 0, .ref a2, .ref a3, .int 0, .ref a5, .ref a6, .ref a7, .ref qx, .int 0]))] s.heap := hP
  have hl := lv_entry ([.ref h0]) (n := 1) (Nat.le_of_ble_eq_true rfl)
  rw [lg_entry_eq]
  generalize (lg_sl ([.ref h0]) ++ List.replicate (1 - (lg_sl ([.ref h0])).length) Slot.unset).toArray = ls at hl ⊢
  have hl : lv_has ls 1 [(0, .ref h0)] := hl
  refine lv_aload_n hx hb d_GL_requireFont_0 rfl (lv_at hl 0 rfl) ?_
  refine va_get (D := (dC, dI)) (ci := 9) (v := .int 0) (C := R_GL) (T := F_GL) (N := 10) hx hb hts in_GL hown hK hP 0 rfl rfl 4 (by decide) (hts _ (List.mem_cons_of_mem _ w_291)) (fun _ h9 => h9) rfl d_GL_requireFont_1 ?_
  refine lv_if_ne (tgt := 17) hx hb d_GL_requireFont_4 (by decide) (fun hc => absurd hc (by decide +kernel)) (fun _ => ?_)
  exact th_throwS (names := th_nm) (tx := "there is no font") hx htr hb (by rw [hml]; exact hl.1.symm) hown (by decide +kernel) (by decide +kernel) (hT3 _) (hts _ (List.mem_cons_of_mem _ w_662)) (hts _ (List.mem_cons_of_mem _ w_20)) hz159 hnoh hlocks d_GL_requireFont_7 d_GL_requireFont_10 d_GL_requireFont_11 d_GL_requireFont_13 d_GL_requireFont_16 (Nat.le_of_ble_eq_true rfl) (Nat.le_of_ble_eq_true rfl) (Nat.le_of_ble_eq_true rfl) (Nat.le_of_ble_eq_true rfl)
set_option maxHeartbeats 4000000 in
set_option maxRecDepth 100000 in
/-- GlyphLines.glyph -/
theorem c_GL_glyph (l : Launch) (hfl : l.flags = flags0) (dC : Nat → ClassId) (dI : Nat → Nat → Nat) (h0 qf a2 a3 a5 a6 a7 qx : Nat) (ch : Int32) (sz : Nat) : th_Met l y_GL_glyph s_GL_glyph ({ frames := 10, cells := 1, slots := 6, locals := 300 }) (va_Pc [.ref h0, .int ch] (fun U => U.heap.size = sz ∧ va_P (dC, dI) cls_ [(h0, .inr (9, [.ref qf, .int 0, .ref a2, .ref a3, .int 0, .ref a5, .ref a6, .ref a7, .ref qx, .int 0]))] U.heap ∧ va_K (dC, dI) cls_ [] U ∧ va_D (fun _ => True) [(h0, .inr (9, [.ref qf, .int 0, .ref a2, .ref a3, .int 0, .ref a5, .ref a6, .ref a7, .ref qx, .int 0]))] ∧ th_All U)) X_is 1 6 := by
  refine th_ofW (cc := b_GL_glyph) (maxL := 2) (ret := (some .int)) (by decide) rfl ?_
  intro p e s m args below meth c s₁ B hml hv
  obtain ⟨rfl, hsz, hP, hK, hD0, hT9⟩ := hv
  have hx := B.exec
  have hb := B.bytes
  have hts := atoms_spec (ws := s_GL_glyph) B.pre
  have hown : s.vm.findClass R_GL = some m.cls := findClass_of_methodNamed B.named
  have hlocks := B.notSynchronized
  have htr : e.platform.stackTraces = false := Launch.traces_off hfl B.admits
  have hnoh := B.noHandlers (hts _ List.mem_cons_self)
  obtain ⟨hT1, hT2, hT3, ⟨qs62, hz62⟩, ⟨qs72, hz72⟩, ⟨qs159, hz159⟩, ⟨qs151, hz151⟩⟩ := id hT9
  have hH : ∀ q : Nat, q < s.heap.size → s.heap[q]? = s.heap[q]? := fun _ _ => rfl
  subst hsz
  have hD := hD0.self (sz := s.heap.size)
  generalize hAe : va_A [(h0, .inr (9, [.ref qf, .int 0, .ref a2, .ref a3, .int 0, .ref a5, .ref a6, .ref a7, .ref qx, .int 0]))] s.heap.size = A at hD
  have hA : ∀ q : Nat, s.heap.size ≤ q → A q := fun q h => by rw [← hAe]; exact Or.inr h
  have hS : va_S A s.heap s.heap [] := va_S.rf
  have hP : va_P (dC, dI) cls_ [(h0, .inr (9, [.ref qf, .int 0, .ref a2, .ref a3, .int 0, .ref a5, .ref a6, .ref a7, .ref qx, .int 0]))] s.heap := hP
  have hl := lv_entry ([.ref h0, .int ch]) (n := 2) (Nat.le_of_ble_eq_true rfl)
  rw [lg_entry_eq]
  generalize (lg_sl ([.ref h0, .int ch]) ++ List.replicate (2 - (lg_sl ([.ref h0, .int ch])).length) Slot.unset).toArray = ls at hl ⊢
  have hl : lv_has ls 2 [(0, .ref h0), (1, .int ch)] := hl
  refine lv_aload_n hx hb d_GL_glyph_0 rfl (lv_at hl 0 rfl) ?_
  have hPc := hP.sub (ws' := [(h0, .inr (9, [.ref qf, .int 0, .ref a2, .ref a3, .int 0, .ref a5, .ref a6, .ref a7, .ref qx, .int 0]))]) [0] rfl
  have hDc := hD.sub (ws' := [(h0, .inr (9, [.ref qf, .int 0, .ref a2, .ref a3, .int 0, .ref a5, .ref a6, .ref a7, .ref qx, .int 0]))]) [0] (by decide) rfl
  have hKc := hK.sub (tys' := []) [] rfl
  have hFc := va_free (wc := [(h0, .inr (9, [.ref qf, .int 0, .ref a2, .ref a3, .int 0, .ref a5, .ref a6, .ref a7, .ref qx, .int 0]))]) hD hS hA [0] rfl
  exact th_passV (As := []) (rest := []) ⟨hx, hb, hml, hown, hts⟩ (c_GL_requireFont l hfl dC dI h0 qf a2 a3 a5 a6 a7 qx s.heap.size) (cwV 0 hts (tw_inV w_658 w_660 wp_22 w_1 w_661) rfl rfl rfl (by decide +kernel) ⟨Nat.le_of_ble_eq_true rfl, Nat.le_of_ble_eq_true rfl⟩) ⟨fun a U g mk q => by obtain ⟨q0, q1, qP, qK, qD, qE0⟩ := q; exact ⟨q0, q1, qP, va_K.moved (u := U) (U := U.calling g mk a) (Vm.Alike.refl U.vm) qK, qD, th_All.call qE0⟩, va_recv (hK := hK) (hP := hP) (q0 := 0) (ci := 9) rfl rfl, fun U hU hW => ⟨rfl, by rw [hU], by rw [hU]; exact hPc, va_K.moved hW.alike hKc, hDc.weaken (fun _ _ _ _ => trivial), hT9.to hW (by rw [hU]; exact hH)⟩⟩ rfl hl.1 (Nat.le_of_ble_eq_true rfl) d_GL_glyph_1 ⟨Nat.le_of_ble_eq_true rfl, Nat.le_of_ble_eq_true rfl⟩ hnoh hlocks
set_option maxHeartbeats 4000000 in
set_option maxRecDepth 100000 in
/-- GlyphLines.measure -/
theorem c_GL_measure (l : Launch) (hfl : l.flags = flags0) (dC : Nat → ClassId) (dI : Nat → Nat → Nat) (h0 qf a2 a3 a5 a6 a7 qx : Nat) (gl wh : Int32) (sz : Nat) : th_Met l y_GL_measure s_GL_measure ({ frames := 10, cells := 1, slots := 6, locals := 300 }) (va_Pc [.ref h0, .int gl, .int wh] (fun U => U.heap.size = sz ∧ va_P (dC, dI) cls_ [(h0, .inr (9, [.ref qf, .int 0, .ref a2, .ref a3, .int 0, .ref a5, .ref a6, .ref a7, .ref qx, .int 0]))] U.heap ∧ va_K (dC, dI) cls_ [] U ∧ va_D (fun _ => True) [(h0, .inr (9, [.ref qf, .int 0, .ref a2, .ref a3, .int 0, .ref a5, .ref a6, .ref a7, .ref qx, .int 0]))] ∧ th_All U)) X_is 1 6 := by
  refine th_ofW (cc := b_GL_measure) (maxL := 3) (ret := (some .int)) (by decide) rfl ?_
  intro p e s m args below meth c s₁ B hml hv
  obtain ⟨rfl, hsz, hP, hK, hD0, hT9⟩ := hv
  have hx := B.exec
  have hb := B.bytes
  have hts := atoms_spec (ws := s_GL_measure) B.pre
  have hown : s.vm.findClass R_GL = some m.cls := findClass_of_methodNamed B.named
  have hlocks := B.notSynchronized
  have htr : e.platform.stackTraces = false := Launch.traces_off hfl B.admits
  have hnoh := B.noHandlers (hts _ List.mem_cons_self)
  obtain ⟨hT1, hT2, hT3, ⟨qs62, hz62⟩, ⟨qs72, hz72⟩, ⟨qs159, hz159⟩, ⟨qs151, hz151⟩⟩ := id hT9
  have hH : ∀ q : Nat, q < s.heap.size → s.heap[q]? = s.heap[q]? := fun _ _ => rfl
  subst hsz
  have hD := hD0.self (sz := s.heap.size)
  generalize hAe : va_A [(h0, .inr (9, [.ref qf, .int 0, .ref a2, .ref a3, .int 0, .ref a5, .ref a6, .ref a7, .ref qx, .int 0]))] s.heap.size = A at hD
  have hA : ∀ q : Nat, s.heap.size ≤ q → A q := fun q h => by rw [← hAe]; exact Or.inr h
  have hS : va_S A s.heap s.heap [] := va_S.rf
  have hP : va_P (dC, dI) cls_ [(h0, .inr (9, [.ref qf, .int 0, .ref a2, .ref a3, .int 0, .ref a5, .ref a6, .ref a7, .ref qx, .int 0]))] s.heap := hP
  have hl := lv_entry ([.ref h0, .int gl, .int wh]) (n := 3) (Nat.le_of_ble_eq_true rfl)
  rw [lg_entry_eq]
  generalize (lg_sl ([.ref h0, .int gl, .int wh]) ++ List.replicate (3 - (lg_sl ([.ref h0, .int gl, .int wh])).length) Slot.unset).toArray = ls at hl ⊢
  have hl : lv_has ls 3 [(0, .ref h0), (1, .int gl), (2, .int wh)] := hl
  refine lv_aload_n hx hb d_GL_measure_0 rfl (lv_at hl 0 rfl) ?_
  have hPc := hP.sub (ws' := [(h0, .inr (9, [.ref qf, .int 0, .ref a2, .ref a3, .int 0, .ref a5, .ref a6, .ref a7, .ref qx, .int 0]))]) [0] rfl
  have hDc := hD.sub (ws' := [(h0, .inr (9, [.ref qf, .int 0, .ref a2, .ref a3, .int 0, .ref a5, .ref a6, .ref a7, .ref qx, .int 0]))]) [0] (by decide) rfl
  have hKc := hK.sub (tys' := []) [] rfl
  have hFc := va_free (wc := [(h0, .inr (9, [.ref qf, .int 0, .ref a2, .ref a3, .int 0, .ref a5, .ref a6, .ref a7, .ref qx, .int 0]))]) hD hS hA [0] rfl
  exact th_passV (As := []) (rest := []) ⟨hx, hb, hml, hown, hts⟩ (c_GL_requireFont l hfl dC dI h0 qf a2 a3 a5 a6 a7 qx s.heap.size) (cwV 0 hts (tw_inV w_658 w_660 wp_22 w_1 w_661) rfl rfl rfl (by decide +kernel) ⟨Nat.le_of_ble_eq_true rfl, Nat.le_of_ble_eq_true rfl⟩) ⟨fun a U g mk q => by obtain ⟨q0, q1, qP, qK, qD, qE0⟩ := q; exact ⟨q0, q1, qP, va_K.moved (u := U) (U := U.calling g mk a) (Vm.Alike.refl U.vm) qK, qD, th_All.call qE0⟩, va_recv (hK := hK) (hP := hP) (q0 := 0) (ci := 9) rfl rfl, fun U hU hW => ⟨rfl, by rw [hU], by rw [hU]; exact hPc, va_K.moved hW.alike hKc, hDc.weaken (fun _ _ _ _ => trivial), hT9.to hW (by rw [hU]; exact hH)⟩⟩ rfl hl.1 (Nat.le_of_ble_eq_true rfl) d_GL_measure_1 ⟨Nat.le_of_ble_eq_true rfl, Nat.le_of_ble_eq_true rfl⟩ hnoh hlocks
set_option maxHeartbeats 4000000 in
set_option maxRecDepth 100000 in
/-- GlyphLines.point -/
theorem c_GL_point (l : Launch) (hfl : l.flags = flags0) (dC : Nat → ClassId) (dI : Nat → Nat → Nat) (h0 qf a2 a3 a5 a6 a7 qx : Nat) (gl i wh : Int32) (sz : Nat) : th_Met l y_GL_point s_GL_point ({ frames := 10, cells := 1, slots := 6, locals := 300 }) (va_Pc [.ref h0, .int gl, .int i, .int wh] (fun U => U.heap.size = sz ∧ va_P (dC, dI) cls_ [(h0, .inr (9, [.ref qf, .int 0, .ref a2, .ref a3, .int 0, .ref a5, .ref a6, .ref a7, .ref qx, .int 0]))] U.heap ∧ va_K (dC, dI) cls_ [] U ∧ va_D (fun _ => True) [(h0, .inr (9, [.ref qf, .int 0, .ref a2, .ref a3, .int 0, .ref a5, .ref a6, .ref a7, .ref qx, .int 0]))] ∧ th_All U)) X_is 1 6 := by
  refine th_ofW (cc := b_GL_point) (maxL := 4) (ret := (some .int)) (by decide) rfl ?_
  intro p e s m args below meth c s₁ B hml hv
  obtain ⟨rfl, hsz, hP, hK, hD0, hT9⟩ := hv
  have hx := B.exec
  have hb := B.bytes
  have hts := atoms_spec (ws := s_GL_point) B.pre
  have hown : s.vm.findClass R_GL = some m.cls := findClass_of_methodNamed B.named
  have hlocks := B.notSynchronized
  have htr : e.platform.stackTraces = false := Launch.traces_off hfl B.admits
  have hnoh := B.noHandlers (hts _ List.mem_cons_self)
  obtain ⟨hT1, hT2, hT3, ⟨qs62, hz62⟩, ⟨qs72, hz72⟩, ⟨qs159, hz159⟩, ⟨qs151, hz151⟩⟩ := id hT9
  have hH : ∀ q : Nat, q < s.heap.size → s.heap[q]? = s.heap[q]? := fun _ _ => rfl
  subst hsz
  have hD := hD0.self (sz := s.heap.size)
  generalize hAe : va_A [(h0, .inr (9, [.ref qf, .int 0, .ref a2, .ref a3, .int 0, .ref a5, .ref a6, .ref a7, .ref qx, .int 0]))] s.heap.size = A at hD
  have hA : ∀ q : Nat, s.heap.size ≤ q → A q := fun q h => by rw [← hAe]; exact Or.inr h
  have hS : va_S A s.heap s.heap [] := va_S.rf
  have hP : va_P (dC, dI) cls_ [(h0, .inr (9, [.ref qf, .int 0, .ref a2, .ref a3, .int 0, .ref a5, .ref a6, .ref a7, .ref qx, .int 0]))] s.heap := hP
  have hl := lv_entry ([.ref h0, .int gl, .int i, .int wh]) (n := 4) (Nat.le_of_ble_eq_true rfl)
  rw [lg_entry_eq]
  generalize (lg_sl ([.ref h0, .int gl, .int i, .int wh]) ++ List.replicate (4 - (lg_sl ([.ref h0, .int gl, .int i, .int wh])).length) Slot.unset).toArray = ls at hl ⊢
  have hl : lv_has ls 4 [(0, .ref h0), (1, .int gl), (2, .int i), (3, .int wh)] := hl
  refine lv_aload_n hx hb d_GL_point_0 rfl (lv_at hl 0 rfl) ?_
  have hPc := hP.sub (ws' := [(h0, .inr (9, [.ref qf, .int 0, .ref a2, .ref a3, .int 0, .ref a5, .ref a6, .ref a7, .ref qx, .int 0]))]) [0] rfl
  have hDc := hD.sub (ws' := [(h0, .inr (9, [.ref qf, .int 0, .ref a2, .ref a3, .int 0, .ref a5, .ref a6, .ref a7, .ref qx, .int 0]))]) [0] (by decide) rfl
  have hKc := hK.sub (tys' := []) [] rfl
  have hFc := va_free (wc := [(h0, .inr (9, [.ref qf, .int 0, .ref a2, .ref a3, .int 0, .ref a5, .ref a6, .ref a7, .ref qx, .int 0]))]) hD hS hA [0] rfl
  exact th_passV (As := []) (rest := []) ⟨hx, hb, hml, hown, hts⟩ (c_GL_requireFont l hfl dC dI h0 qf a2 a3 a5 a6 a7 qx s.heap.size) (cwV 0 hts (tw_inV w_658 w_660 wp_22 w_1 w_661) rfl rfl rfl (by decide +kernel) ⟨Nat.le_of_ble_eq_true rfl, Nat.le_of_ble_eq_true rfl⟩) ⟨fun a U g mk q => by obtain ⟨q0, q1, qP, qK, qD, qE0⟩ := q; exact ⟨q0, q1, qP, va_K.moved (u := U) (U := U.calling g mk a) (Vm.Alike.refl U.vm) qK, qD, th_All.call qE0⟩, va_recv (hK := hK) (hP := hP) (q0 := 0) (ci := 9) rfl rfl, fun U hU hW => ⟨rfl, by rw [hU], by rw [hU]; exact hPc, va_K.moved hW.alike hKc, hDc.weaken (fun _ _ _ _ => trivial), hT9.to hW (by rw [hU]; exact hH)⟩⟩ rfl hl.1 (Nat.le_of_ble_eq_true rfl) d_GL_point_1 ⟨Nat.le_of_ble_eq_true rfl, Nat.le_of_ble_eq_true rfl⟩ hnoh hlocks
set_option maxHeartbeats 4000000 in
set_option maxRecDepth 100000 in
/-- GlyphLines.kerning -/
theorem c_GL_kerning (l : Launch) (hfl : l.flags = flags0) (dC : Nat → ClassId) (dI : Nat → Nat → Nat) (h0 qf a2 a3 a5 a6 a7 qx : Nat) (le ri : Int32) (sz : Nat) : th_Met l y_GL_kerning s_GL_kerning ({ frames := 10, cells := 1, slots := 6, locals := 300 }) (va_Pc [.ref h0, .int le, .int ri] (fun U => U.heap.size = sz ∧ va_P (dC, dI) cls_ [(h0, .inr (9, [.ref qf, .int 0, .ref a2, .ref a3, .int 0, .ref a5, .ref a6, .ref a7, .ref qx, .int 0]))] U.heap ∧ va_K (dC, dI) cls_ [] U ∧ va_D (fun _ => True) [(h0, .inr (9, [.ref qf, .int 0, .ref a2, .ref a3, .int 0, .ref a5, .ref a6, .ref a7, .ref qx, .int 0]))] ∧ th_All U)) X_is 1 6 := by
  refine th_ofW (cc := b_GL_kerning) (maxL := 3) (ret := (some .int)) (by decide) rfl ?_
  intro p e s m args below meth c s₁ B hml hv
  obtain ⟨rfl, hsz, hP, hK, hD0, hT9⟩ := hv
  have hx := B.exec
  have hb := B.bytes
  have hts := atoms_spec (ws := s_GL_kerning) B.pre
  have hown : s.vm.findClass R_GL = some m.cls := findClass_of_methodNamed B.named
  have hlocks := B.notSynchronized
  have htr : e.platform.stackTraces = false := Launch.traces_off hfl B.admits
  have hnoh := B.noHandlers (hts _ List.mem_cons_self)
  obtain ⟨hT1, hT2, hT3, ⟨qs62, hz62⟩, ⟨qs72, hz72⟩, ⟨qs159, hz159⟩, ⟨qs151, hz151⟩⟩ := id hT9
  have hH : ∀ q : Nat, q < s.heap.size → s.heap[q]? = s.heap[q]? := fun _ _ => rfl
  subst hsz
  have hD := hD0.self (sz := s.heap.size)
  generalize hAe : va_A [(h0, .inr (9, [.ref qf, .int 0, .ref a2, .ref a3, .int 0, .ref a5, .ref a6, .ref a7, .ref qx, .int 0]))] s.heap.size = A at hD
  have hA : ∀ q : Nat, s.heap.size ≤ q → A q := fun q h => by rw [← hAe]; exact Or.inr h
  have hS : va_S A s.heap s.heap [] := va_S.rf
  have hP : va_P (dC, dI) cls_ [(h0, .inr (9, [.ref qf, .int 0, .ref a2, .ref a3, .int 0, .ref a5, .ref a6, .ref a7, .ref qx, .int 0]))] s.heap := hP
  have hl := lv_entry ([.ref h0, .int le, .int ri]) (n := 3) (Nat.le_of_ble_eq_true rfl)
  rw [lg_entry_eq]
  generalize (lg_sl ([.ref h0, .int le, .int ri]) ++ List.replicate (3 - (lg_sl ([.ref h0, .int le, .int ri])).length) Slot.unset).toArray = ls at hl ⊢
  have hl : lv_has ls 3 [(0, .ref h0), (1, .int le), (2, .int ri)] := hl
  refine lv_aload_n hx hb d_GL_kerning_0 rfl (lv_at hl 0 rfl) ?_
  have hPc := hP.sub (ws' := [(h0, .inr (9, [.ref qf, .int 0, .ref a2, .ref a3, .int 0, .ref a5, .ref a6, .ref a7, .ref qx, .int 0]))]) [0] rfl
  have hDc := hD.sub (ws' := [(h0, .inr (9, [.ref qf, .int 0, .ref a2, .ref a3, .int 0, .ref a5, .ref a6, .ref a7, .ref qx, .int 0]))]) [0] (by decide) rfl
  have hKc := hK.sub (tys' := []) [] rfl
  have hFc := va_free (wc := [(h0, .inr (9, [.ref qf, .int 0, .ref a2, .ref a3, .int 0, .ref a5, .ref a6, .ref a7, .ref qx, .int 0]))]) hD hS hA [0] rfl
  exact th_passV (As := []) (rest := []) ⟨hx, hb, hml, hown, hts⟩ (c_GL_requireFont l hfl dC dI h0 qf a2 a3 a5 a6 a7 qx s.heap.size) (cwV 0 hts (tw_inV w_658 w_660 wp_22 w_1 w_661) rfl rfl rfl (by decide +kernel) ⟨Nat.le_of_ble_eq_true rfl, Nat.le_of_ble_eq_true rfl⟩) ⟨fun a U g mk q => by obtain ⟨q0, q1, qP, qK, qD, qE0⟩ := q; exact ⟨q0, q1, qP, va_K.moved (u := U) (U := U.calling g mk a) (Vm.Alike.refl U.vm) qK, qD, th_All.call qE0⟩, va_recv (hK := hK) (hP := hP) (q0 := 0) (ci := 9) rfl rfl, fun U hU hW => ⟨rfl, by rw [hU], by rw [hU]; exact hPc, va_K.moved hW.alike hKc, hDc.weaken (fun _ _ _ _ => trivial), hT9.to hW (by rw [hU]; exact hH)⟩⟩ rfl hl.1 (Nat.le_of_ble_eq_true rfl) d_GL_kerning_1 ⟨Nat.le_of_ble_eq_true rfl, Nat.le_of_ble_eq_true rfl⟩ hnoh hlocks
set_option maxHeartbeats 4000000 in
set_option maxRecDepth 100000 in
/-- GlyphLines.paint -/
theorem c_GL_paint (l : Launch) (hfl : l.flags = flags0) (dC : Nat → ClassId) (dI : Nat → Nat → Nat) (h0 qf a2 a3 a5 a6 a7 qx : Nat) (pp : Int32) (sz : Nat) : th_Met l y_GL_paint s_GL_paint ({ frames := 10, cells := 1, slots := 6, locals := 300 }) (va_Pc [.ref h0, .int pp] (fun U => U.heap.size = sz ∧ va_P (dC, dI) cls_ [(h0, .inr (9, [.ref qf, .int 0, .ref a2, .ref a3, .int 0, .ref a5, .ref a6, .ref a7, .ref qx, .int 0]))] U.heap ∧ va_K (dC, dI) cls_ [] U ∧ va_D (fun _ => True) [(h0, .inr (9, [.ref qf, .int 0, .ref a2, .ref a3, .int 0, .ref a5, .ref a6, .ref a7, .ref qx, .int 0]))] ∧ th_All U)) X_is 1 6 := by
  refine th_ofW (cc := b_GL_paint) (maxL := 3) (ret := (some .int)) (by decide) rfl ?_
  intro p e s m args below meth c s₁ B hml hv
  obtain ⟨rfl, hsz, hP, hK, hD0, hT9⟩ := hv
  have hx := B.exec
  have hb := B.bytes
  have hts := atoms_spec (ws := s_GL_paint) B.pre
  have hown : s.vm.findClass R_GL = some m.cls := findClass_of_methodNamed B.named
  have hlocks := B.notSynchronized
  have htr : e.platform.stackTraces = false := Launch.traces_off hfl B.admits
  have hnoh := B.noHandlers (hts _ List.mem_cons_self)
  obtain ⟨hT1, hT2, hT3, ⟨qs62, hz62⟩, ⟨qs72, hz72⟩, ⟨qs159, hz159⟩, ⟨qs151, hz151⟩⟩ := id hT9
  have hH : ∀ q : Nat, q < s.heap.size → s.heap[q]? = s.heap[q]? := fun _ _ => rfl
  subst hsz
  have hD := hD0.self (sz := s.heap.size)
  generalize hAe : va_A [(h0, .inr (9, [.ref qf, .int 0, .ref a2, .ref a3, .int 0, .ref a5, .ref a6, .ref a7, .ref qx, .int 0]))] s.heap.size = A at hD
  have hA : ∀ q : Nat, s.heap.size ≤ q → A q := fun q h => by rw [← hAe]; exact Or.inr h
  have hS : va_S A s.heap s.heap [] := va_S.rf
  have hP : va_P (dC, dI) cls_ [(h0, .inr (9, [.ref qf, .int 0, .ref a2, .ref a3, .int 0, .ref a5, .ref a6, .ref a7, .ref qx, .int 0]))] s.heap := hP
  have hl := lv_entry ([.ref h0, .int pp]) (n := 3) (Nat.le_of_ble_eq_true rfl)
  rw [lg_entry_eq]
  generalize (lg_sl ([.ref h0, .int pp]) ++ List.replicate (3 - (lg_sl ([.ref h0, .int pp])).length) Slot.unset).toArray = ls at hl ⊢
  have hl : lv_has ls 3 [(0, .ref h0), (1, .int pp)] := hl
  refine lv_aload_n hx hb d_GL_paint_0 rfl (lv_at hl 0 rfl) ?_
  have hPc := hP.sub (ws' := [(h0, .inr (9, [.ref qf, .int 0, .ref a2, .ref a3, .int 0, .ref a5, .ref a6, .ref a7, .ref qx, .int 0]))]) [0] rfl
  have hDc := hD.sub (ws' := [(h0, .inr (9, [.ref qf, .int 0, .ref a2, .ref a3, .int 0, .ref a5, .ref a6, .ref a7, .ref qx, .int 0]))]) [0] (by decide) rfl
  have hKc := hK.sub (tys' := []) [] rfl
  have hFc := va_free (wc := [(h0, .inr (9, [.ref qf, .int 0, .ref a2, .ref a3, .int 0, .ref a5, .ref a6, .ref a7, .ref qx, .int 0]))]) hD hS hA [0] rfl
  exact th_passV (As := []) (rest := []) ⟨hx, hb, hml, hown, hts⟩ (c_GL_requireFont l hfl dC dI h0 qf a2 a3 a5 a6 a7 qx s.heap.size) (cwV 0 hts (tw_inV w_658 w_660 wp_22 w_1 w_661) rfl rfl rfl (by decide +kernel) ⟨Nat.le_of_ble_eq_true rfl, Nat.le_of_ble_eq_true rfl⟩) ⟨fun a U g mk q => by obtain ⟨q0, q1, qP, qK, qD, qE0⟩ := q; exact ⟨q0, q1, qP, va_K.moved (u := U) (U := U.calling g mk a) (Vm.Alike.refl U.vm) qK, qD, th_All.call qE0⟩, va_recv (hK := hK) (hP := hP) (q0 := 0) (ci := 9) rfl rfl, fun U hU hW => ⟨rfl, by rw [hU], by rw [hU]; exact hPc, va_K.moved hW.alike hKc, hDc.weaken (fun _ _ _ _ => trivial), hT9.to hW (by rw [hU]; exact hH)⟩⟩ rfl hl.1 (Nat.le_of_ble_eq_true rfl) d_GL_paint_1 ⟨Nat.le_of_ble_eq_true rfl, Nat.le_of_ble_eq_true rfl⟩ hnoh hlocks
set_option maxHeartbeats 4000000 in
set_option maxRecDepth 100000 in
/-- GlyphLines.put -/
theorem c_GL_put (l : Launch) (hfl : l.flags = flags0) (dC : Nat → ClassId) (dI : Nat → Nat → Nat) (h0 qf a2 a3 a5 a6 a7 qx : Nat) (i b : Int32) (sz : Nat) : th_Met l y_GL_put s_GL_put ({ frames := 8, cells := 1, slots := 6, locals := 200 }) (va_Pc [.ref h0, .int i, .int b] (fun U => U.heap.size = sz ∧ va_P (dC, dI) cls_ [(h0, .inr (9, [.ref qf, .int 0, .ref a2, .ref a3, .int 0, .ref a5, .ref a6, .ref a7, .ref qx, .int 0]))] U.heap ∧ va_K (dC, dI) cls_ [] U ∧ va_D (fun _ => True) [(h0, .inr (9, [.ref qf, .int 0, .ref a2, .ref a3, .int 0, .ref a5, .ref a6, .ref a7, .ref qx, .int 0]))] ∧ th_All U)) X_io 1 6 := by
  refine th_ofW (cc := b_GL_put) (maxL := 4) (ret := (some .int)) (by decide) rfl ?_
  intro p e s m args below meth c s₁ B hml hv
  obtain ⟨rfl, hsz, hP, hK, hD0, hT9⟩ := hv
  have hx := B.exec
  have hb := B.bytes
  have hts := atoms_spec (ws := s_GL_put) B.pre
  have hown : s.vm.findClass R_GL = some m.cls := findClass_of_methodNamed B.named
  have hlocks := B.notSynchronized
  have htr : e.platform.stackTraces = false := Launch.traces_off hfl B.admits
  have hnoh := B.noHandlers (hts _ List.mem_cons_self)
  obtain ⟨hT1, hT2, hT3, ⟨qs62, hz62⟩, ⟨qs72, hz72⟩, ⟨qs159, hz159⟩, ⟨qs151, hz151⟩⟩ := id hT9
  have hH : ∀ q : Nat, q < s.heap.size → s.heap[q]? = s.heap[q]? := fun _ _ => rfl
  subst hsz
  have hD := hD0.self (sz := s.heap.size)
  generalize hAe : va_A [(h0, .inr (9, [.ref qf, .int 0, .ref a2, .ref a3, .int 0, .ref a5, .ref a6, .ref a7, .ref qx, .int 0]))] s.heap.size = A at hD
  have hA : ∀ q : Nat, s.heap.size ≤ q → A q := fun q h => by rw [← hAe]; exact Or.inr h
  have hS : va_S A s.heap s.heap [] := va_S.rf
  have hP : va_P (dC, dI) cls_ [(h0, .inr (9, [.ref qf, .int 0, .ref a2, .ref a3, .int 0, .ref a5, .ref a6, .ref a7, .ref qx, .int 0]))] s.heap := hP
  have hl := lv_entry ([.ref h0, .int i, .int b]) (n := 4) (Nat.le_of_ble_eq_true rfl)
  rw [lg_entry_eq]
  generalize (lg_sl ([.ref h0, .int i, .int b]) ++ List.replicate (4 - (lg_sl ([.ref h0, .int i, .int b])).length) Slot.unset).toArray = ls at hl ⊢
  have hl : lv_has ls 4 [(0, .ref h0), (1, .int i), (2, .int b)] := hl
  refine lv_iload_n hx hb d_GL_put_0 rfl (lv_at hl 1 rfl) ?_
  refine lv_if_lt (tgt := 12) hx hb d_GL_put_1 (by decide) (fun hc136 => ?_) (fun hc136 => ?_)
  · skip
    exact th_throwS (names := th_nm) (tx := "no such byte") hx htr hb (by rw [hml]; exact hl.1.symm) hown (by decide +kernel) (by decide +kernel) (hT1 _) (hts _ (List.mem_cons_of_mem _ w_557)) (hts _ (List.mem_cons_of_mem _ w_15)) hz62 hnoh hlocks d_GL_put_12 d_GL_put_15 d_GL_put_16 d_GL_put_18 d_GL_put_21 (Nat.le_of_ble_eq_true rfl) (Nat.le_of_ble_eq_true rfl) (Nat.le_of_ble_eq_true rfl) (Nat.le_of_ble_eq_true rfl)
  · skip
    refine lv_iload_n hx hb d_GL_put_4 rfl (lv_at hl 1 rfl) ?_
    refine lv_aload_n hx hb d_GL_put_5 rfl (lv_at hl 0 rfl) ?_
    refine va_get (D := (dC, dI)) (ci := 9) (v := .int 0) (C := R_GL) (T := F_GL) (N := 10) hx hb hts in_GL hown hK hP 0 rfl rfl 1 (by decide) (hts _ (List.mem_cons_of_mem _ w_288)) (fun _ h9 => h9) rfl d_GL_put_6 ?_
    refine lv_icmp_lt (tgt := 22) hx hb d_GL_put_9 (by decide) (fun hc137 => ?_) (fun hc137 => ?_)
    · skip
      exact absurd hc137 hc136
    · skip
      exact th_throwS (names := th_nm) (tx := "no such byte") hx htr hb (by rw [hml]; exact hl.1.symm) hown (by decide +kernel) (by decide +kernel) (hT1 _) (hts _ (List.mem_cons_of_mem _ w_557)) (hts _ (List.mem_cons_of_mem _ w_15)) hz62 hnoh hlocks d_GL_put_12 d_GL_put_15 d_GL_put_16 d_GL_put_18 d_GL_put_21 (Nat.le_of_ble_eq_true rfl) (Nat.le_of_ble_eq_true rfl) (Nat.le_of_ble_eq_true rfl) (Nat.le_of_ble_eq_true rfl)
set_option maxHeartbeats 4000000 in
set_option maxRecDepth 100000 in
/-- GlyphLines.cut -/
theorem c_GL_cut_t (l : Launch) (hfl : l.flags = flags0) (dC : Nat → ClassId) (dI : Nat → Nat → Nat) (h0 qf a2 a3 a5 a6 a7 qx : Nat) (many : Int32) (sz : Nat) (hm : many < 0) : th_Met l y_GL_cut s_GL_cut ({ frames := 8, cells := 1, slots := 6, locals := 200 }) (va_Pc [.ref h0, .int many] (fun U => U.heap.size = sz ∧ va_P (dC, dI) cls_ [(h0, .inr (9, [.ref qf, .int 0, .ref a2, .ref a3, .int 0, .ref a5, .ref a6, .ref a7, .ref qx, .int 0]))] U.heap ∧ va_K (dC, dI) cls_ [] U ∧ va_D (fun _ => True) [(h0, .inr (9, [.ref qf, .int 0, .ref a2, .ref a3, .int 0, .ref a5, .ref a6, .ref a7, .ref qx, .int 0]))] ∧ th_All U)) X_ia 1 6 := by
  refine th_ofW (cc := b_GL_cut) (maxL := 4) (ret := (some .int)) (by decide) rfl ?_
  intro p e s m args below meth c s₁ B hml hv
  obtain ⟨rfl, hsz, hP, hK, hD0, hT9⟩ := hv
  have hx := B.exec
  have hb := B.bytes
  have hts := atoms_spec (ws := s_GL_cut) B.pre
  have hown : s.vm.findClass R_GL = some m.cls := findClass_of_methodNamed B.named
  have hlocks := B.notSynchronized
  have htr : e.platform.stackTraces = false := Launch.traces_off hfl B.admits
  have hnoh := B.noHandlers (hts _ List.mem_cons_self)
  obtain ⟨hT1, hT2, hT3, ⟨qs62, hz62⟩, ⟨qs72, hz72⟩, ⟨qs159, hz159⟩, ⟨qs151, hz151⟩⟩ := id hT9
  have hH : ∀ q : Nat, q < s.heap.size → s.heap[q]? = s.heap[q]? := fun _ _ => rfl
  subst hsz
  have hD := hD0.self (sz := s.heap.size)
  generalize hAe : va_A [(h0, .inr (9, [.ref qf, .int 0, .ref a2, .ref a3, .int 0, .ref a5, .ref a6, .ref a7, .ref qx, .int 0]))] s.heap.size = A at hD
  have hA : ∀ q : Nat, s.heap.size ≤ q → A q := fun q h => by rw [← hAe]; exact Or.inr h
  have hS : va_S A s.heap s.heap [] := va_S.rf
  have hP : va_P (dC, dI) cls_ [(h0, .inr (9, [.ref qf, .int 0, .ref a2, .ref a3, .int 0, .ref a5, .ref a6, .ref a7, .ref qx, .int 0]))] s.heap := hP
  have hl := lv_entry ([.ref h0, .int many]) (n := 4) (Nat.le_of_ble_eq_true rfl)
  rw [lg_entry_eq]
  generalize (lg_sl ([.ref h0, .int many]) ++ List.replicate (4 - (lg_sl ([.ref h0, .int many])).length) Slot.unset).toArray = ls at hl ⊢
  have hl : lv_has ls 4 [(0, .ref h0), (1, .int many)] := hl
  refine lv_iload_n hx hb d_GL_cut_0 rfl (lv_at hl 1 rfl) ?_
  refine lv_if_ge (tgt := 14) hx hb d_GL_cut_1 (by decide) (fun hc138 => ?_) (fun hc138 => ?_)
  · skip
    exact absurd hm (Int32.not_lt.mpr hc138)
  · skip
    exact th_throwS (names := th_nm) (tx := "fewer than no bytes") hx htr hb (by rw [hml]; exact hl.1.symm) hown (by decide +kernel) (by decide +kernel) (hT2 _) (hts _ (List.mem_cons_of_mem _ w_625)) (hts _ (List.mem_cons_of_mem _ w_16)) hz72 hnoh hlocks d_GL_cut_4 d_GL_cut_7 d_GL_cut_8 d_GL_cut_10 d_GL_cut_13 (Nat.le_of_ble_eq_true rfl) (Nat.le_of_ble_eq_true rfl) (Nat.le_of_ble_eq_true rfl) (Nat.le_of_ble_eq_true rfl)
set_option maxHeartbeats 4000000 in
set_option maxRecDepth 100000 in
/-- GlyphLines.row -/
theorem c_GL_row_t (l : Launch) (hfl : l.flags = flags0) (dC : Nat → ClassId) (dI : Nat → Nat → Nat) (h0 qf a2 a3 a5 a6 a7 qx : Nat) (r : Int32) (sz : Nat) (hm : r < 0 ∨ ¬ r < 24) : th_Met l y_GL_row s_GL_row ({ frames := 8, cells := 1, slots := 6, locals := 200 }) (va_Pc [.ref h0, .int r] (fun U => U.heap.size = sz ∧ va_P (dC, dI) cls_ [(h0, .inr (9, [.ref qf, .int 0, .ref a2, .ref a3, .int 0, .ref a5, .ref a6, .ref a7, .ref qx, .int 0]))] U.heap ∧ va_K (dC, dI) cls_ [] U ∧ va_D (fun _ => True) [(h0, .inr (9, [.ref qf, .int 0, .ref a2, .ref a3, .int 0, .ref a5, .ref a6, .ref a7, .ref qx, .int 0]))] ∧ th_All U)) X_io 1 6 := by
  refine th_ofW (cc := b_GL_row) (maxL := 2) (ret := (some .long)) (by decide) rfl ?_
  intro p e s m args below meth c s₁ B hml hv
  obtain ⟨rfl, hsz, hP, hK, hD0, hT9⟩ := hv
  have hx := B.exec
  have hb := B.bytes
  have hts := atoms_spec (ws := s_GL_row) B.pre
  have hown : s.vm.findClass R_GL = some m.cls := findClass_of_methodNamed B.named
  have hlocks := B.notSynchronized
  have htr : e.platform.stackTraces = false := Launch.traces_off hfl B.admits
  have hnoh := B.noHandlers (hts _ List.mem_cons_self)
  obtain ⟨hT1, hT2, hT3, ⟨qs62, hz62⟩, ⟨qs72, hz72⟩, ⟨qs159, hz159⟩, ⟨qs151, hz151⟩⟩ := id hT9
  have hH : ∀ q : Nat, q < s.heap.size → s.heap[q]? = s.heap[q]? := fun _ _ => rfl
  subst hsz
  have hD := hD0.self (sz := s.heap.size)
  generalize hAe : va_A [(h0, .inr (9, [.ref qf, .int 0, .ref a2, .ref a3, .int 0, .ref a5, .ref a6, .ref a7, .ref qx, .int 0]))] s.heap.size = A at hD
  have hA : ∀ q : Nat, s.heap.size ≤ q → A q := fun q h => by rw [← hAe]; exact Or.inr h
  have hS : va_S A s.heap s.heap [] := va_S.rf
  have hP : va_P (dC, dI) cls_ [(h0, .inr (9, [.ref qf, .int 0, .ref a2, .ref a3, .int 0, .ref a5, .ref a6, .ref a7, .ref qx, .int 0]))] s.heap := hP
  have hl := lv_entry ([.ref h0, .int r]) (n := 2) (Nat.le_of_ble_eq_true rfl)
  rw [lg_entry_eq]
  generalize (lg_sl ([.ref h0, .int r]) ++ List.replicate (2 - (lg_sl ([.ref h0, .int r])).length) Slot.unset).toArray = ls at hl ⊢
  have hl : lv_has ls 2 [(0, .ref h0), (1, .int r)] := hl
  refine lv_iload_n hx hb d_GL_row_0 rfl (lv_at hl 1 rfl) ?_
  refine lv_if_lt (tgt := 10) hx hb d_GL_row_1 (by decide) (fun hc139 => ?_) (fun hc139 => ?_)
  · skip
    exact th_throwS (names := th_nm) (tx := "no such row") hx htr hb (by rw [hml]; exact hl.1.symm) hown (by decide +kernel) (by decide +kernel) (hT1 _) (hts _ (List.mem_cons_of_mem _ w_557)) (hts _ (List.mem_cons_of_mem _ w_15)) hz151 hnoh hlocks d_GL_row_10 d_GL_row_13 d_GL_row_14 d_GL_row_16 d_GL_row_19 (Nat.le_of_ble_eq_true rfl) (Nat.le_of_ble_eq_true rfl) (Nat.le_of_ble_eq_true rfl) (Nat.le_of_ble_eq_true rfl)
  · skip
    refine lv_iload_n hx hb d_GL_row_4 rfl (lv_at hl 1 rfl) ?_
    refine lv_bipush (v := 24) hx hb d_GL_row_5 (by decide) ?_
    refine lv_icmp_lt (tgt := 20) hx hb d_GL_row_7 (by decide) (fun hc140 => ?_) (fun hc140 => ?_)
    · skip
      exact hm.elim (fun z => absurd z hc139) (fun z => absurd hc140 z)
    · skip
      exact th_throwS (names := th_nm) (tx := "no such row") hx htr hb (by rw [hml]; exact hl.1.symm) hown (by decide +kernel) (by decide +kernel) (hT1 _) (hts _ (List.mem_cons_of_mem _ w_557)) (hts _ (List.mem_cons_of_mem _ w_15)) hz151 hnoh hlocks d_GL_row_10 d_GL_row_13 d_GL_row_14 d_GL_row_16 d_GL_row_19 (Nat.le_of_ble_eq_true rfl) (Nat.le_of_ble_eq_true rfl) (Nat.le_of_ble_eq_true rfl) (Nat.le_of_ble_eq_true rfl)
end
section
theorem gl_min0 {x : Int32} (h : ¬ x < 0) : (if (0 : Int32) < x then 0 else x) = 0 := by
  split
  · rfl
  · rename_i h2
    exact Int32.le_antisymm (Int32.not_lt.mp h2) (Int32.not_lt.mp h)
theorem gl_bit {P : Prop} {_ : Decidable P} {r : Int32} (hw : r = if P then 1 else 0) (h : ¬ r = 0) : 1 = (if P then (1 : Int32) else 0) := by
  by_cases hp : P
  · rw [if_pos hp]
  · rw [if_neg hp] at hw
    exact absurd hw h
theorem gl_in24 {r : Int32} (h1 : ¬ r < 0) (h2 : r < 24) : vp_in r 24 := by
  rw [vp_in_iff]
  have a := Int32.le_iff_toInt_le.mp (Int32.not_lt.mp h1)
  have b := Int32.lt_iff_toInt_lt.mp h2
  have e : (24 : Int32).toInt = 24 := by decide +kernel
  rw [Int32.toInt_zero] at a
  rw [e] at b
  exact ⟨a, by omega⟩
set_option maxHeartbeats 4000000 in
set_option maxRecDepth 100000 in
/-- GlyphLines.feed -/
theorem c_GL_feed (l : Launch) (dC : Nat → ClassId) (dI : Nat → Nat → Nat) (h0 qf a2 a3 a5 a6 a7 qx : Nat) (cF : ClassId) (w : Int32) (sz : Nat) : Met l y_GL_feed s_GL_feed ({ frames := 8, cells := 0, slots := 0, locals := 200 }) (va_Pc [.ref h0, .int w] (fun U => U.heap.size = sz ∧ va_P (dC, dI) cls_ [(h0, .inr (9, [.ref qf, .int 0, .ref a2, .ref a3, .int 0, .ref a5, .ref a6, .ref a7, .ref qx, .int 0])), (qf, .inl (cF, 1200, .inl (fun _ => 0)))] U.heap ∧ va_K (dC, dI) cls_ [(cF, .int)] U ∧ va_D (fun _ => True) [(h0, .inr (9, [.ref qf, .int 0, .ref a2, .ref a3, .int 0, .ref a5, .ref a6, .ref a7, .ref qx, .int 0])), (qf, .inl (cF, 1200, .inl (fun _ => 0)))])) (va_Qi (fun (r : Int32) (_ : Unit) => r = 4) (fun (_ : Unit) (t : State) => True) (va_A [(h0, .inr (9, [.ref qf, .int 0, .ref a2, .ref a3, .int 0, .ref a5, .ref a6, .ref a7, .ref qx, .int 0])), (qf, .inl (cF, 1200, .inl (fun _ => 0)))] sz)) 0 0 (va_A [(h0, .inr (9, [.ref qf, .int 0, .ref a2, .ref a3, .int 0, .ref a5, .ref a6, .ref a7, .ref qx, .int 0])), (qf, .inl (cF, 1200, .inl (fun _ => 0)))] sz) := by
  refine Met.ofW (cc := b_GL_feed) (maxL := 3) (ret := (some .int)) (by decide) rfl ?_
  intro p e s m args below meth c s₁ B hml hv
  obtain ⟨rfl, hsz, hP, hK, hD0⟩ := hv
  have hx := B.exec
  have hb := B.bytes
  have hr := B.returns
  have hts := atoms_spec (ws := s_GL_feed) B.pre
  have hown : s.vm.findClass R_GL = some m.cls := findClass_of_methodNamed B.named
  have hlocks := B.notSynchronized
  subst hsz
  have hD := hD0.self (sz := s.heap.size)
  generalize hAe : va_A [(h0, .inr (9, [.ref qf, .int 0, .ref a2, .ref a3, .int 0, .ref a5, .ref a6, .ref a7, .ref qx, .int 0])), (qf, .inl (cF, 1200, .inl (fun _ => 0)))] s.heap.size = A at hD ⊢
  have hA : ∀ q : Nat, s.heap.size ≤ q → A q := fun q h => by rw [← hAe]; exact Or.inr h
  have hS : va_S A s.heap s.heap [] := va_S.rf
  have hP : va_P (dC, dI) cls_ [(h0, .inr (9, [.ref qf, .int 0, .ref a2, .ref a3, .int 0, .ref a5, .ref a6, .ref a7, .ref qx, .int 0])), (qf, .inl (cF, 1200, .inl (fun _ => 0)))] s.heap := hP
  have hl := lv_entry ([.ref h0, .int w]) (n := 3) (Nat.le_of_ble_eq_true rfl)
  rw [lg_entry_eq]
  generalize (lg_sl ([.ref h0, .int w]) ++ List.replicate (3 - (lg_sl ([.ref h0, .int w])).length) Slot.unset).toArray = ls at hl ⊢
  have hl : lv_has ls 3 [(0, .ref h0), (1, .int w)] := hl
  refine lv_aload_n hx hb d_GL_feed_0 rfl (lv_at hl 0 rfl) ?_
  refine va_get (D := (dC, dI)) (ci := 9) (v := .int 0) (C := R_GL) (T := F_GL) (N := 10) hx hb hts in_GL hown hK hP 0 rfl rfl 1 (by decide) (hts _ (List.mem_cons_of_mem _ w_288)) (fun _ h9 => h9) rfl d_GL_feed_1 ?_
  refine lv_iconst (v := 4) hx hb d_GL_feed_4 (by decide) ?_
  refine lv_iadd hx hb d_GL_feed_5 ?_
  refine lv_ci (y := 4) (by decide +kernel) ?_
  refine lv_sipush (v := 1200) hx hb d_GL_feed_6 (by decide) ?_
  refine lv_icmp_le (tgt := 14) hx hb d_GL_feed_9 (by decide) (fun _ => ?_) (fun hc => absurd hc (by decide +kernel))
  refine lv_bipush (v := 24) hx hb d_GL_feed_14 (by decide) ?_
  refine lv_istore_n (lv' := [(2, .int 24), (0, .ref h0), (1, .int w)]) hx hb d_GL_feed_16 rfl hl (by decide) rfl (fun ls hl => ?_)
  refine lv_iload_n hx hb d_GL_feed_17 rfl (lv_at hl 0 rfl) ?_
  refine lv_if_lt (tgt := 53) hx hb d_GL_feed_18 (by decide) (fun hc => absurd hc (by decide +kernel)) (fun _ => ?_)
  refine lv_aload_n hx hb d_GL_feed_21 rfl (lv_at hl 1 rfl) ?_
  refine va_get (D := (dC, dI)) (ci := 9) (v := .ref qf) (C := R_GL) (T := F_GL) (N := 10) hx hb hts in_GL hown hK hP 0 rfl rfl 0 (by decide) (hts _ (List.mem_cons_of_mem _ w_287)) (fun _ h9 => h9) rfl d_GL_feed_22 ?_
  refine lv_aload_n hx hb d_GL_feed_25 rfl (lv_at hl 1 rfl) ?_
  refine va_get (D := (dC, dI)) (ci := 9) (v := .int 0) (C := R_GL) (T := F_GL) (N := 10) hx hb hts in_GL hown hK hP 0 rfl rfl 1 (by decide) (hts _ (List.mem_cons_of_mem _ w_288)) (fun _ h9 => h9) rfl d_GL_feed_26 ?_
  refine lv_iload_n hx hb d_GL_feed_29 rfl (lv_at hl 2 rfl) ?_
  refine lv_iload_n hx hb d_GL_feed_30 rfl (lv_at hl 0 rfl) ?_
  refine lv_ishr hx hb d_GL_feed_31 ?_
  refine lv_sipush (v := 255) hx hb d_GL_feed_32 (by decide) ?_
  refine lv_iand hx hb d_GL_feed_35 ?_
  refine va_iast hx hb hK hP hD hS 1 0 rfl rfl (pk_in 0 1200 (by decide) (by decide +kernel) (by decide)) d_GL_feed_36 (fun H locs hP hD hS => ?_)
  have hP : va_P (dC, dI) cls_ [(h0, .inr (9, [.ref qf, .int 0, .ref a2, .ref a3, .int 0, .ref a5, .ref a6, .ref a7, .ref qx, .int 0])), (qf, .inl (cF, 1200, .inl (upd (fun _ => 0) (Int32.toNatClampNeg 0) (w >>> (24 &&& 31) &&& 255))))] H := hP
  have hD : va_D A [(h0, .inr (9, [.ref qf, .int 0, .ref a2, .ref a3, .int 0, .ref a5, .ref a6, .ref a7, .ref qx, .int 0])), (qf, .inl (cF, 1200, .inl (upd (fun _ => 0) (Int32.toNatClampNeg 0) (w >>> (24 &&& 31) &&& 255))))] := hD
  refine lv_aload_n hx hb d_GL_feed_37 rfl (lv_at hl 1 rfl) ?_
  refine lv_dup hx hb d_GL_feed_38 rfl ?_
  refine va_get (D := (dC, dI)) (ci := 9) (v := .int 0) (C := R_GL) (T := F_GL) (N := 10) hx hb hts in_GL hown hK hP 0 rfl rfl 1 (by decide) (hts _ (List.mem_cons_of_mem _ w_288)) (fun _ h9 => h9) rfl d_GL_feed_39 ?_
  refine lv_iconst (v := 1) hx hb d_GL_feed_42 (by decide) ?_
  refine lv_iadd hx hb d_GL_feed_43 ?_
  refine lv_ci (y := 1) (by decide +kernel) ?_
  refine va_put (D := (dC, dI)) (ci := 9) (v := .int 1) (ty := .int) (C := R_GL) (T := F_GL) (N := 10) hx hb hts in_GL t_GL t_GL_ok n_GL hown hK hP hD hS 0 rfl rfl 1 (by decide) (hts _ (List.mem_cons_of_mem _ w_288)) (fun _ h9 => h9) rfl  (by decide +kernel) rfl rfl (Nat.le_of_ble_eq_true rfl) d_GL_feed_44 (fun H locs hP hD hS => ?_)
  have hP : va_P (dC, dI) cls_ [(h0, .inr (9, [.ref qf, .int 1, .ref a2, .ref a3, .int 0, .ref a5, .ref a6, .ref a7, .ref qx, .int 0])), (qf, .inl (cF, 1200, .inl (upd (fun _ => 0) (Int32.toNatClampNeg 0) (w >>> (24 &&& 31) &&& 255))))] H := hP
  have hD : va_D A [(h0, .inr (9, [.ref qf, .int 1, .ref a2, .ref a3, .int 0, .ref a5, .ref a6, .ref a7, .ref qx, .int 0])), (qf, .inl (cF, 1200, .inl (upd (fun _ => 0) (Int32.toNatClampNeg 0) (w >>> (24 &&& 31) &&& 255))))] := hD
  refine lv_iinc (k := 0) (v := 16) (lv' := [(2, .int 16), (0, .ref h0), (1, .int w)]) hx hb d_GL_feed_47 hl rfl (by first | rfl | decide +kernel) (by decide) rfl (fun ls hl => ?_)
  refine lv_goto (tgt := 17) hx hb d_GL_feed_50 (by decide) ?_
  refine lv_iload_n hx hb d_GL_feed_17 rfl (lv_at hl 0 rfl) ?_
  refine lv_if_lt (tgt := 53) hx hb d_GL_feed_18 (by decide) (fun hc => absurd hc (by decide +kernel)) (fun _ => ?_)
  refine lv_aload_n hx hb d_GL_feed_21 rfl (lv_at hl 1 rfl) ?_
  refine va_get (D := (dC, dI)) (ci := 9) (v := .ref qf) (C := R_GL) (T := F_GL) (N := 10) hx hb hts in_GL hown hK hP 0 rfl rfl 0 (by decide) (hts _ (List.mem_cons_of_mem _ w_287)) (fun _ h9 => h9) rfl d_GL_feed_22 ?_
  refine lv_aload_n hx hb d_GL_feed_25 rfl (lv_at hl 1 rfl) ?_
  refine va_get (D := (dC, dI)) (ci := 9) (v := .int 1) (C := R_GL) (T := F_GL) (N := 10) hx hb hts in_GL hown hK hP 0 rfl rfl 1 (by decide) (hts _ (List.mem_cons_of_mem _ w_288)) (fun _ h9 => h9) rfl d_GL_feed_26 ?_
  refine lv_iload_n hx hb d_GL_feed_29 rfl (lv_at hl 2 rfl) ?_
  refine lv_iload_n hx hb d_GL_feed_30 rfl (lv_at hl 0 rfl) ?_
  refine lv_ishr hx hb d_GL_feed_31 ?_
  refine lv_sipush (v := 255) hx hb d_GL_feed_32 (by decide) ?_
  refine lv_iand hx hb d_GL_feed_35 ?_
  refine va_iast hx hb hK hP hD hS 1 0 rfl rfl (pk_in 1 1200 (by decide) (by decide +kernel) (by decide)) d_GL_feed_36 (fun H locs hP hD hS => ?_)
  have hP : va_P (dC, dI) cls_ [(h0, .inr (9, [.ref qf, .int 1, .ref a2, .ref a3, .int 0, .ref a5, .ref a6, .ref a7, .ref qx, .int 0])), (qf, .inl (cF, 1200, .inl (upd (upd (fun _ => 0) (Int32.toNatClampNeg 0) (w >>> (24 &&& 31) &&& 255)) (Int32.toNatClampNeg 1) (w >>> (16 &&& 31) &&& 255))))] H := hP
  have hD : va_D A [(h0, .inr (9, [.ref qf, .int 1, .ref a2, .ref a3, .int 0, .ref a5, .ref a6, .ref a7, .ref qx, .int 0])), (qf, .inl (cF, 1200, .inl (upd (upd (fun _ => 0) (Int32.toNatClampNeg 0) (w >>> (24 &&& 31) &&& 255)) (Int32.toNatClampNeg 1) (w >>> (16 &&& 31) &&& 255))))] := hD
  refine lv_aload_n hx hb d_GL_feed_37 rfl (lv_at hl 1 rfl) ?_
  refine lv_dup hx hb d_GL_feed_38 rfl ?_
  refine va_get (D := (dC, dI)) (ci := 9) (v := .int 1) (C := R_GL) (T := F_GL) (N := 10) hx hb hts in_GL hown hK hP 0 rfl rfl 1 (by decide) (hts _ (List.mem_cons_of_mem _ w_288)) (fun _ h9 => h9) rfl d_GL_feed_39 ?_
  refine lv_iconst (v := 1) hx hb d_GL_feed_42 (by decide) ?_
  refine lv_iadd hx hb d_GL_feed_43 ?_
  refine lv_ci (y := 2) (by decide +kernel) ?_
  refine va_put (D := (dC, dI)) (ci := 9) (v := .int 2) (ty := .int) (C := R_GL) (T := F_GL) (N := 10) hx hb hts in_GL t_GL t_GL_ok n_GL hown hK hP hD hS 0 rfl rfl 1 (by decide) (hts _ (List.mem_cons_of_mem _ w_288)) (fun _ h9 => h9) rfl  (by decide +kernel) rfl rfl (Nat.le_of_ble_eq_true rfl) d_GL_feed_44 (fun H locs hP hD hS => ?_)
  have hP : va_P (dC, dI) cls_ [(h0, .inr (9, [.ref qf, .int 2, .ref a2, .ref a3, .int 0, .ref a5, .ref a6, .ref a7, .ref qx, .int 0])), (qf, .inl (cF, 1200, .inl (upd (upd (fun _ => 0) (Int32.toNatClampNeg 0) (w >>> (24 &&& 31) &&& 255)) (Int32.toNatClampNeg 1) (w >>> (16 &&& 31) &&& 255))))] H := hP
  have hD : va_D A [(h0, .inr (9, [.ref qf, .int 2, .ref a2, .ref a3, .int 0, .ref a5, .ref a6, .ref a7, .ref qx, .int 0])), (qf, .inl (cF, 1200, .inl (upd (upd (fun _ => 0) (Int32.toNatClampNeg 0) (w >>> (24 &&& 31) &&& 255)) (Int32.toNatClampNeg 1) (w >>> (16 &&& 31) &&& 255))))] := hD
  refine lv_iinc (k := 0) (v := 8) (lv' := [(2, .int 8), (0, .ref h0), (1, .int w)]) hx hb d_GL_feed_47 hl rfl (by first | rfl | decide +kernel) (by decide) rfl (fun ls hl => ?_)
  refine lv_goto (tgt := 17) hx hb d_GL_feed_50 (by decide) ?_
  refine lv_iload_n hx hb d_GL_feed_17 rfl (lv_at hl 0 rfl) ?_
  refine lv_if_lt (tgt := 53) hx hb d_GL_feed_18 (by decide) (fun hc => absurd hc (by decide +kernel)) (fun _ => ?_)
  refine lv_aload_n hx hb d_GL_feed_21 rfl (lv_at hl 1 rfl) ?_
  refine va_get (D := (dC, dI)) (ci := 9) (v := .ref qf) (C := R_GL) (T := F_GL) (N := 10) hx hb hts in_GL hown hK hP 0 rfl rfl 0 (by decide) (hts _ (List.mem_cons_of_mem _ w_287)) (fun _ h9 => h9) rfl d_GL_feed_22 ?_
  refine lv_aload_n hx hb d_GL_feed_25 rfl (lv_at hl 1 rfl) ?_
  refine va_get (D := (dC, dI)) (ci := 9) (v := .int 2) (C := R_GL) (T := F_GL) (N := 10) hx hb hts in_GL hown hK hP 0 rfl rfl 1 (by decide) (hts _ (List.mem_cons_of_mem _ w_288)) (fun _ h9 => h9) rfl d_GL_feed_26 ?_
  refine lv_iload_n hx hb d_GL_feed_29 rfl (lv_at hl 2 rfl) ?_
  refine lv_iload_n hx hb d_GL_feed_30 rfl (lv_at hl 0 rfl) ?_
  refine lv_ishr hx hb d_GL_feed_31 ?_
  refine lv_sipush (v := 255) hx hb d_GL_feed_32 (by decide) ?_
  refine lv_iand hx hb d_GL_feed_35 ?_
  refine va_iast hx hb hK hP hD hS 1 0 rfl rfl (pk_in 2 1200 (by decide) (by decide +kernel) (by decide)) d_GL_feed_36 (fun H locs hP hD hS => ?_)
  have hP : va_P (dC, dI) cls_ [(h0, .inr (9, [.ref qf, .int 2, .ref a2, .ref a3, .int 0, .ref a5, .ref a6, .ref a7, .ref qx, .int 0])), (qf, .inl (cF, 1200, .inl (upd (upd (upd (fun _ => 0) (Int32.toNatClampNeg 0) (w >>> (24 &&& 31) &&& 255)) (Int32.toNatClampNeg 1) (w >>> (16 &&& 31) &&& 255)) (Int32.toNatClampNeg 2) (w >>> (8 &&& 31) &&& 255))))] H := hP
  have hD : va_D A [(h0, .inr (9, [.ref qf, .int 2, .ref a2, .ref a3, .int 0, .ref a5, .ref a6, .ref a7, .ref qx, .int 0])), (qf, .inl (cF, 1200, .inl (upd (upd (upd (fun _ => 0) (Int32.toNatClampNeg 0) (w >>> (24 &&& 31) &&& 255)) (Int32.toNatClampNeg 1) (w >>> (16 &&& 31) &&& 255)) (Int32.toNatClampNeg 2) (w >>> (8 &&& 31) &&& 255))))] := hD
  refine lv_aload_n hx hb d_GL_feed_37 rfl (lv_at hl 1 rfl) ?_
  refine lv_dup hx hb d_GL_feed_38 rfl ?_
  refine va_get (D := (dC, dI)) (ci := 9) (v := .int 2) (C := R_GL) (T := F_GL) (N := 10) hx hb hts in_GL hown hK hP 0 rfl rfl 1 (by decide) (hts _ (List.mem_cons_of_mem _ w_288)) (fun _ h9 => h9) rfl d_GL_feed_39 ?_
  refine lv_iconst (v := 1) hx hb d_GL_feed_42 (by decide) ?_
  refine lv_iadd hx hb d_GL_feed_43 ?_
  refine lv_ci (y := 3) (by decide +kernel) ?_
  refine va_put (D := (dC, dI)) (ci := 9) (v := .int 3) (ty := .int) (C := R_GL) (T := F_GL) (N := 10) hx hb hts in_GL t_GL t_GL_ok n_GL hown hK hP hD hS 0 rfl rfl 1 (by decide) (hts _ (List.mem_cons_of_mem _ w_288)) (fun _ h9 => h9) rfl  (by decide +kernel) rfl rfl (Nat.le_of_ble_eq_true rfl) d_GL_feed_44 (fun H locs hP hD hS => ?_)
  have hP : va_P (dC, dI) cls_ [(h0, .inr (9, [.ref qf, .int 3, .ref a2, .ref a3, .int 0, .ref a5, .ref a6, .ref a7, .ref qx, .int 0])), (qf, .inl (cF, 1200, .inl (upd (upd (upd (fun _ => 0) (Int32.toNatClampNeg 0) (w >>> (24 &&& 31) &&& 255)) (Int32.toNatClampNeg 1) (w >>> (16 &&& 31) &&& 255)) (Int32.toNatClampNeg 2) (w >>> (8 &&& 31) &&& 255))))] H := hP
  have hD : va_D A [(h0, .inr (9, [.ref qf, .int 3, .ref a2, .ref a3, .int 0, .ref a5, .ref a6, .ref a7, .ref qx, .int 0])), (qf, .inl (cF, 1200, .inl (upd (upd (upd (fun _ => 0) (Int32.toNatClampNeg 0) (w >>> (24 &&& 31) &&& 255)) (Int32.toNatClampNeg 1) (w >>> (16 &&& 31) &&& 255)) (Int32.toNatClampNeg 2) (w >>> (8 &&& 31) &&& 255))))] := hD
  refine lv_iinc (k := 0) (v := 0) (lv' := [(2, .int 0), (0, .ref h0), (1, .int w)]) hx hb d_GL_feed_47 hl rfl (by first | rfl | decide +kernel) (by decide) rfl (fun ls hl => ?_)
  refine lv_goto (tgt := 17) hx hb d_GL_feed_50 (by decide) ?_
  refine lv_iload_n hx hb d_GL_feed_17 rfl (lv_at hl 0 rfl) ?_
  refine lv_if_lt (tgt := 53) hx hb d_GL_feed_18 (by decide) (fun hc => absurd hc (by decide +kernel)) (fun _ => ?_)
  refine lv_aload_n hx hb d_GL_feed_21 rfl (lv_at hl 1 rfl) ?_
  refine va_get (D := (dC, dI)) (ci := 9) (v := .ref qf) (C := R_GL) (T := F_GL) (N := 10) hx hb hts in_GL hown hK hP 0 rfl rfl 0 (by decide) (hts _ (List.mem_cons_of_mem _ w_287)) (fun _ h9 => h9) rfl d_GL_feed_22 ?_
  refine lv_aload_n hx hb d_GL_feed_25 rfl (lv_at hl 1 rfl) ?_
  refine va_get (D := (dC, dI)) (ci := 9) (v := .int 3) (C := R_GL) (T := F_GL) (N := 10) hx hb hts in_GL hown hK hP 0 rfl rfl 1 (by decide) (hts _ (List.mem_cons_of_mem _ w_288)) (fun _ h9 => h9) rfl d_GL_feed_26 ?_
  refine lv_iload_n hx hb d_GL_feed_29 rfl (lv_at hl 2 rfl) ?_
  refine lv_iload_n hx hb d_GL_feed_30 rfl (lv_at hl 0 rfl) ?_
  refine lv_ishr hx hb d_GL_feed_31 ?_
  refine lv_sipush (v := 255) hx hb d_GL_feed_32 (by decide) ?_
  refine lv_iand hx hb d_GL_feed_35 ?_
  refine va_iast hx hb hK hP hD hS 1 0 rfl rfl (pk_in 3 1200 (by decide) (by decide +kernel) (by decide)) d_GL_feed_36 (fun H locs hP hD hS => ?_)
  have hP : va_P (dC, dI) cls_ [(h0, .inr (9, [.ref qf, .int 3, .ref a2, .ref a3, .int 0, .ref a5, .ref a6, .ref a7, .ref qx, .int 0])), (qf, .inl (cF, 1200, .inl (upd (upd (upd (upd (fun _ => 0) (Int32.toNatClampNeg 0) (w >>> (24 &&& 31) &&& 255)) (Int32.toNatClampNeg 1) (w >>> (16 &&& 31) &&& 255)) (Int32.toNatClampNeg 2) (w >>> (8 &&& 31) &&& 255)) (Int32.toNatClampNeg 3) (w >>> (0 &&& 31) &&& 255))))] H := hP
  have hD : va_D A [(h0, .inr (9, [.ref qf, .int 3, .ref a2, .ref a3, .int 0, .ref a5, .ref a6, .ref a7, .ref qx, .int 0])), (qf, .inl (cF, 1200, .inl (upd (upd (upd (upd (fun _ => 0) (Int32.toNatClampNeg 0) (w >>> (24 &&& 31) &&& 255)) (Int32.toNatClampNeg 1) (w >>> (16 &&& 31) &&& 255)) (Int32.toNatClampNeg 2) (w >>> (8 &&& 31) &&& 255)) (Int32.toNatClampNeg 3) (w >>> (0 &&& 31) &&& 255))))] := hD
  refine lv_aload_n hx hb d_GL_feed_37 rfl (lv_at hl 1 rfl) ?_
  refine lv_dup hx hb d_GL_feed_38 rfl ?_
  refine va_get (D := (dC, dI)) (ci := 9) (v := .int 3) (C := R_GL) (T := F_GL) (N := 10) hx hb hts in_GL hown hK hP 0 rfl rfl 1 (by decide) (hts _ (List.mem_cons_of_mem _ w_288)) (fun _ h9 => h9) rfl d_GL_feed_39 ?_
  refine lv_iconst (v := 1) hx hb d_GL_feed_42 (by decide) ?_
  refine lv_iadd hx hb d_GL_feed_43 ?_
  refine lv_ci (y := 4) (by decide +kernel) ?_
  refine va_put (D := (dC, dI)) (ci := 9) (v := .int 4) (ty := .int) (C := R_GL) (T := F_GL) (N := 10) hx hb hts in_GL t_GL t_GL_ok n_GL hown hK hP hD hS 0 rfl rfl 1 (by decide) (hts _ (List.mem_cons_of_mem _ w_288)) (fun _ h9 => h9) rfl  (by decide +kernel) rfl rfl (Nat.le_of_ble_eq_true rfl) d_GL_feed_44 (fun H locs hP hD hS => ?_)
  have hP : va_P (dC, dI) cls_ [(h0, .inr (9, [.ref qf, .int 4, .ref a2, .ref a3, .int 0, .ref a5, .ref a6, .ref a7, .ref qx, .int 0])), (qf, .inl (cF, 1200, .inl (upd (upd (upd (upd (fun _ => 0) (Int32.toNatClampNeg 0) (w >>> (24 &&& 31) &&& 255)) (Int32.toNatClampNeg 1) (w >>> (16 &&& 31) &&& 255)) (Int32.toNatClampNeg 2) (w >>> (8 &&& 31) &&& 255)) (Int32.toNatClampNeg 3) (w >>> (0 &&& 31) &&& 255))))] H := hP
  have hD : va_D A [(h0, .inr (9, [.ref qf, .int 4, .ref a2, .ref a3, .int 0, .ref a5, .ref a6, .ref a7, .ref qx, .int 0])), (qf, .inl (cF, 1200, .inl (upd (upd (upd (upd (fun _ => 0) (Int32.toNatClampNeg 0) (w >>> (24 &&& 31) &&& 255)) (Int32.toNatClampNeg 1) (w >>> (16 &&& 31) &&& 255)) (Int32.toNatClampNeg 2) (w >>> (8 &&& 31) &&& 255)) (Int32.toNatClampNeg 3) (w >>> (0 &&& 31) &&& 255))))] := hD
  refine lv_iinc (k := 0) (v := (-8)) (lv' := [(2, .int ((-8))), (0, .ref h0), (1, .int w)]) hx hb d_GL_feed_47 hl rfl (by first | rfl | decide +kernel) (by decide) rfl (fun ls hl => ?_)
  refine lv_goto (tgt := 17) hx hb d_GL_feed_50 (by decide) ?_
  refine lv_iload_n hx hb d_GL_feed_17 rfl (lv_at hl 0 rfl) ?_
  refine lv_if_lt (tgt := 53) hx hb d_GL_feed_18 (by decide) (fun _ => ?_) (fun hc => absurd hc (by decide +kernel))
  refine lv_aload_n hx hb d_GL_feed_53 rfl (lv_at hl 1 rfl) ?_
  refine va_get (D := (dC, dI)) (ci := 9) (v := .int 4) (C := R_GL) (T := F_GL) (N := 10) hx hb hts in_GL hown hK hP 0 rfl rfl 1 (by decide) (hts _ (List.mem_cons_of_mem _ w_288)) (fun _ h9 => h9) rfl d_GL_feed_54 ?_
  refine W.widen (k := 0) (n := 0) (Nat.le_of_ble_eq_true rfl) (Nat.le_of_ble_eq_true rfl) ?_
  exact W.iret (v := 4) hx hb hr (fun t ht hW => ⟨⟨4, (), rfl, rfl, trivial⟩, hS.F ht⟩) hS.2.2 d_GL_feed_57
set_option maxHeartbeats 4000000 in
set_option maxRecDepth 100000 in
/-- GlyphLines.at -/
theorem c_GL_at (l : Launch) (dC : Nat → ClassId) (dI : Nat → Nat → Nat) (h0 qf a2 a3 a5 a6 a7 qx : Nat) (i : Int32) (sz : Nat) : Met l y_GL_at s_GL_at ({ frames := 8, cells := 0, slots := 0, locals := 200 }) (va_Pc [.ref h0, .int i] (fun U => U.heap.size = sz ∧ va_P (dC, dI) cls_ [(h0, .inr (9, [.ref qf, .int 0, .ref a2, .ref a3, .int 0, .ref a5, .ref a6, .ref a7, .ref qx, .int 0]))] U.heap ∧ va_K (dC, dI) cls_ [] U ∧ va_D (fun _ => True) [(h0, .inr (9, [.ref qf, .int 0, .ref a2, .ref a3, .int 0, .ref a5, .ref a6, .ref a7, .ref qx, .int 0]))])) (va_Qi (fun (r : Int32) (_ : Unit) => r = -1) (fun (_ : Unit) (t : State) => True) (va_A [(h0, .inr (9, [.ref qf, .int 0, .ref a2, .ref a3, .int 0, .ref a5, .ref a6, .ref a7, .ref qx, .int 0]))] sz)) 0 0 (va_A [(h0, .inr (9, [.ref qf, .int 0, .ref a2, .ref a3, .int 0, .ref a5, .ref a6, .ref a7, .ref qx, .int 0]))] sz) := by
  refine Met.ofW (cc := b_GL_at) (maxL := 2) (ret := (some .int)) (by decide) rfl ?_
  intro p e s m args below meth c s₁ B hml hv
  obtain ⟨rfl, hsz, hP, hK, hD0⟩ := hv
  have hx := B.exec
  have hb := B.bytes
  have hr := B.returns
  have hts := atoms_spec (ws := s_GL_at) B.pre
  have hown : s.vm.findClass R_GL = some m.cls := findClass_of_methodNamed B.named
  have hlocks := B.notSynchronized
  subst hsz
  have hD := hD0.self (sz := s.heap.size)
  generalize hAe : va_A [(h0, .inr (9, [.ref qf, .int 0, .ref a2, .ref a3, .int 0, .ref a5, .ref a6, .ref a7, .ref qx, .int 0]))] s.heap.size = A at hD ⊢
  have hA : ∀ q : Nat, s.heap.size ≤ q → A q := fun q h => by rw [← hAe]; exact Or.inr h
  have hS : va_S A s.heap s.heap [] := va_S.rf
  have hP : va_P (dC, dI) cls_ [(h0, .inr (9, [.ref qf, .int 0, .ref a2, .ref a3, .int 0, .ref a5, .ref a6, .ref a7, .ref qx, .int 0]))] s.heap := hP
  have hl := lv_entry ([.ref h0, .int i]) (n := 2) (Nat.le_of_ble_eq_true rfl)
  rw [lg_entry_eq]
  generalize (lg_sl ([.ref h0, .int i]) ++ List.replicate (2 - (lg_sl ([.ref h0, .int i])).length) Slot.unset).toArray = ls at hl ⊢
  have hl : lv_has ls 2 [(0, .ref h0), (1, .int i)] := hl
  refine lv_iload_n hx hb d_GL_at_0 rfl (lv_at hl 1 rfl) ?_
  refine lv_if_lt (tgt := 21) hx hb d_GL_at_1 (by decide) (fun hc141 => ?_) (fun hc141 => ?_)
  · skip
    refine lv_iconst (v := (-1)) hx hb d_GL_at_21 (by decide) ?_
    refine W.widen (k := 0) (n := 0) (Nat.le_of_ble_eq_true rfl) (Nat.le_of_ble_eq_true rfl) ?_
    exact W.iret (v := (-1)) hx hb hr (fun t ht hW => ⟨⟨(-1), (), rfl, rfl, trivial⟩, hS.F ht⟩) hS.2.2 d_GL_at_22
  · skip
    refine lv_iload_n hx hb d_GL_at_4 rfl (lv_at hl 1 rfl) ?_
    refine lv_aload_n hx hb d_GL_at_5 rfl (lv_at hl 0 rfl) ?_
    refine va_get (D := (dC, dI)) (ci := 9) (v := .int 0) (C := R_GL) (T := F_GL) (N := 10) hx hb hts in_GL hown hK hP 0 rfl rfl 1 (by decide) (hts _ (List.mem_cons_of_mem _ w_288)) (fun _ h9 => h9) rfl d_GL_at_6 ?_
    refine lv_icmp_ge (tgt := 21) hx hb d_GL_at_9 (by decide) (fun hc142 => ?_) (fun hc142 => ?_)
    · skip
      refine lv_iconst (v := (-1)) hx hb d_GL_at_21 (by decide) ?_
      refine W.widen (k := 0) (n := 0) (Nat.le_of_ble_eq_true rfl) (Nat.le_of_ble_eq_true rfl) ?_
      exact W.iret (v := (-1)) hx hb hr (fun t ht hW => ⟨⟨(-1), (), rfl, rfl, trivial⟩, hS.F ht⟩) hS.2.2 d_GL_at_22
    · skip
      exact absurd (Int32.not_lt.mp hc141) hc142
set_option maxHeartbeats 4000000 in
set_option maxRecDepth 100000 in
/-- GlyphLines.cut -/
theorem c_GL_cut (l : Launch) (dC : Nat → ClassId) (dI : Nat → Nat → Nat) (h0 qf a2 a3 a5 a6 a7 qx : Nat) (many : Int32) (sz : Nat) (hm : ¬ many < 0) : Met l y_GL_cut s_GL_cut ({ frames := 8, cells := 0, slots := 0, locals := 200 }) (va_Pc [.ref h0, .int many] (fun U => U.heap.size = sz ∧ va_P (dC, dI) cls_ [(h0, .inr (9, [.ref qf, .int 0, .ref a2, .ref a3, .int 0, .ref a5, .ref a6, .ref a7, .ref qx, .int 0]))] U.heap ∧ va_K (dC, dI) cls_ [] U ∧ va_D (fun _ => True) [(h0, .inr (9, [.ref qf, .int 0, .ref a2, .ref a3, .int 0, .ref a5, .ref a6, .ref a7, .ref qx, .int 0]))])) (va_Qi (fun (r : Int32) (_ : Unit) => r = 0) (fun (_ : Unit) (t : State) => True) (va_A [(h0, .inr (9, [.ref qf, .int 0, .ref a2, .ref a3, .int 0, .ref a5, .ref a6, .ref a7, .ref qx, .int 0]))] sz)) 0 0 (va_A [(h0, .inr (9, [.ref qf, .int 0, .ref a2, .ref a3, .int 0, .ref a5, .ref a6, .ref a7, .ref qx, .int 0]))] sz) := by
  refine Met.ofW (cc := b_GL_cut) (maxL := 4) (ret := (some .int)) (by decide) rfl ?_
  intro p e s m args below meth c s₁ B hml hv
  obtain ⟨rfl, hsz, hP, hK, hD0⟩ := hv
  have hx := B.exec
  have hb := B.bytes
  have hr := B.returns
  have hts := atoms_spec (ws := s_GL_cut) B.pre
  have hown : s.vm.findClass R_GL = some m.cls := findClass_of_methodNamed B.named
  have hlocks := B.notSynchronized
  subst hsz
  have hD := hD0.self (sz := s.heap.size)
  generalize hAe : va_A [(h0, .inr (9, [.ref qf, .int 0, .ref a2, .ref a3, .int 0, .ref a5, .ref a6, .ref a7, .ref qx, .int 0]))] s.heap.size = A at hD ⊢
  have hA : ∀ q : Nat, s.heap.size ≤ q → A q := fun q h => by rw [← hAe]; exact Or.inr h
  have hS : va_S A s.heap s.heap [] := va_S.rf
  have hP : va_P (dC, dI) cls_ [(h0, .inr (9, [.ref qf, .int 0, .ref a2, .ref a3, .int 0, .ref a5, .ref a6, .ref a7, .ref qx, .int 0]))] s.heap := hP
  have hl := lv_entry ([.ref h0, .int many]) (n := 4) (Nat.le_of_ble_eq_true rfl)
  rw [lg_entry_eq]
  generalize (lg_sl ([.ref h0, .int many]) ++ List.replicate (4 - (lg_sl ([.ref h0, .int many])).length) Slot.unset).toArray = ls at hl ⊢
  have hl : lv_has ls 4 [(0, .ref h0), (1, .int many)] := hl
  refine lv_iload_n hx hb d_GL_cut_0 rfl (lv_at hl 1 rfl) ?_
  refine lv_if_ge (tgt := 14) hx hb d_GL_cut_1 (by decide) (fun hc143 => ?_) (fun hc143 => ?_)
  · skip
    refine lv_iload_n hx hb d_GL_cut_14 rfl (lv_at hl 1 rfl) ?_
    refine lv_aload_n hx hb d_GL_cut_15 rfl (lv_at hl 0 rfl) ?_
    refine va_get (D := (dC, dI)) (ci := 9) (v := .int 0) (C := R_GL) (T := F_GL) (N := 10) hx hb hts in_GL hown hK hP 0 rfl rfl 1 (by decide) (hts _ (List.mem_cons_of_mem _ w_288)) (fun _ h9 => h9) rfl d_GL_cut_16 ?_
    refine va_mmin hx hb (by rw [hml]; exact hl.1.symm) hown (hts _ (List.mem_cons_of_mem _ w_649)) (hts _ (List.mem_cons_of_mem _ w_335)) (hts _ (List.mem_cons_of_mem _ w_17)) (hts _ (List.mem_cons_of_mem _ w_336)) (Nat.le_of_ble_eq_true rfl) (Nat.le_of_ble_eq_true rfl) (Nat.le_of_ble_eq_true rfl) (Nat.le_of_ble_eq_true rfl) d_GL_cut_19 ?_
    refine lv_ci (y := 0) (gl_min0 hm) ?_
    refine lv_istore_n (lv' := [(2, .int 0), (0, .ref h0), (1, .int many)]) hx hb d_GL_cut_22 rfl hl (by decide) rfl (fun ls hl => ?_)
    refine lv_aload_n hx hb d_GL_cut_23 rfl (lv_at hl 1 rfl) ?_
    refine va_get (D := (dC, dI)) (ci := 9) (v := .int 0) (C := R_GL) (T := F_GL) (N := 10) hx hb hts in_GL hown hK hP 0 rfl rfl 1 (by decide) (hts _ (List.mem_cons_of_mem _ w_288)) (fun _ h9 => h9) rfl d_GL_cut_24 ?_
    refine lv_iload_n hx hb d_GL_cut_27 rfl (lv_at hl 0 rfl) ?_
    refine lv_isub hx hb d_GL_cut_28 ?_
    refine lv_ci (y := 0) (by decide +kernel) ?_
    refine lv_istore_n (lv' := [(3, .int 0), (2, .int 0), (0, .ref h0), (1, .int many)]) hx hb d_GL_cut_29 rfl hl (by decide) rfl (fun ls hl => ?_)
    refine lv_aload_n hx hb d_GL_cut_30 rfl (lv_at hl 2 rfl) ?_
    refine lv_iload_n hx hb d_GL_cut_31 rfl (lv_at hl 1 rfl) ?_
    refine va_put (D := (dC, dI)) (ci := 9) (v := .int 0) (ty := .int) (C := R_GL) (T := F_GL) (N := 10) hx hb hts in_GL t_GL t_GL_ok n_GL hown hK hP hD hS 0 rfl rfl 1 (by decide) (hts _ (List.mem_cons_of_mem _ w_288)) (fun _ h9 => h9) rfl  (by decide +kernel) rfl rfl (Nat.le_of_ble_eq_true rfl) d_GL_cut_32 (fun H locs hP hD hS => ?_)
    have hP : va_P (dC, dI) cls_ [(h0, .inr (9, [.ref qf, .int 0, .ref a2, .ref a3, .int 0, .ref a5, .ref a6, .ref a7, .ref qx, .int 0]))] H := hP
    have hD : va_D A [(h0, .inr (9, [.ref qf, .int 0, .ref a2, .ref a3, .int 0, .ref a5, .ref a6, .ref a7, .ref qx, .int 0]))] := hD
    refine lv_iload_n hx hb d_GL_cut_35 rfl (lv_at hl 0 rfl) ?_
    refine W.widen (k := 0) (n := 0) (Nat.le_of_ble_eq_true rfl) (Nat.le_of_ble_eq_true rfl) ?_
    exact W.iret (v := 0) hx hb hr (fun t ht hW => ⟨⟨0, (), rfl, rfl, trivial⟩, hS.F ht⟩) hS.2.2 d_GL_cut_36
  · skip
    exact absurd (Int32.not_lt.mp hm) hc143
set_option maxHeartbeats 4000000 in
set_option maxRecDepth 100000 in
/-- GlyphLines.wipe -/
theorem c_GL_wipe (l : Launch) (dC : Nat → ClassId) (dI : Nat → Nat → Nat) (h0 qf a2 a3 a5 a6 a7 qx : Nat) (sz : Nat) : Met l y_GL_wipe s_GL_wipe ({ frames := 8, cells := 0, slots := 0, locals := 200 }) (va_Pc [.ref h0] (fun U => U.heap.size = sz ∧ va_P (dC, dI) cls_ [(h0, .inr (9, [.ref qf, .int 0, .ref a2, .ref a3, .int 0, .ref a5, .ref a6, .ref a7, .ref qx, .int 0]))] U.heap ∧ va_K (dC, dI) cls_ [] U ∧ va_D (fun _ => True) [(h0, .inr (9, [.ref qf, .int 0, .ref a2, .ref a3, .int 0, .ref a5, .ref a6, .ref a7, .ref qx, .int 0]))])) (va_Qi (fun (r : Int32) (_ : Unit) => r = 0) (fun (_ : Unit) (t : State) => True) (va_A [(h0, .inr (9, [.ref qf, .int 0, .ref a2, .ref a3, .int 0, .ref a5, .ref a6, .ref a7, .ref qx, .int 0]))] sz)) 0 0 (va_A [(h0, .inr (9, [.ref qf, .int 0, .ref a2, .ref a3, .int 0, .ref a5, .ref a6, .ref a7, .ref qx, .int 0]))] sz) := by
  refine Met.ofW (cc := b_GL_wipe) (maxL := 2) (ret := (some .int)) (by decide) rfl ?_
  intro p e s m args below meth c s₁ B hml hv
  obtain ⟨rfl, hsz, hP, hK, hD0⟩ := hv
  have hx := B.exec
  have hb := B.bytes
  have hr := B.returns
  have hts := atoms_spec (ws := s_GL_wipe) B.pre
  have hown : s.vm.findClass R_GL = some m.cls := findClass_of_methodNamed B.named
  have hlocks := B.notSynchronized
  subst hsz
  have hD := hD0.self (sz := s.heap.size)
  generalize hAe : va_A [(h0, .inr (9, [.ref qf, .int 0, .ref a2, .ref a3, .int 0, .ref a5, .ref a6, .ref a7, .ref qx, .int 0]))] s.heap.size = A at hD ⊢
  have hA : ∀ q : Nat, s.heap.size ≤ q → A q := fun q h => by rw [← hAe]; exact Or.inr h
  have hS : va_S A s.heap s.heap [] := va_S.rf
  have hP : va_P (dC, dI) cls_ [(h0, .inr (9, [.ref qf, .int 0, .ref a2, .ref a3, .int 0, .ref a5, .ref a6, .ref a7, .ref qx, .int 0]))] s.heap := hP
  have hl := lv_entry ([.ref h0]) (n := 2) (Nat.le_of_ble_eq_true rfl)
  rw [lg_entry_eq]
  generalize (lg_sl ([.ref h0]) ++ List.replicate (2 - (lg_sl ([.ref h0])).length) Slot.unset).toArray = ls at hl ⊢
  have hl : lv_has ls 2 [(0, .ref h0)] := hl
  refine lv_aload_n hx hb d_GL_wipe_0 rfl (lv_at hl 0 rfl) ?_
  refine va_get (D := (dC, dI)) (ci := 9) (v := .int 0) (C := R_GL) (T := F_GL) (N := 10) hx hb hts in_GL hown hK hP 0 rfl rfl 9 (by decide) (hts _ (List.mem_cons_of_mem _ w_296)) (fun _ h9 => h9) rfl d_GL_wipe_1 ?_
  refine lv_istore_n (lv' := [(1, .int 0), (0, .ref h0)]) hx hb d_GL_wipe_4 rfl hl (by decide) rfl (fun ls hl => ?_)
  refine lv_aload_n hx hb d_GL_wipe_5 rfl (lv_at hl 1 rfl) ?_
  refine lv_iconst (v := 0) hx hb d_GL_wipe_6 (by decide) ?_
  refine va_put (D := (dC, dI)) (ci := 9) (v := .int 0) (ty := .int) (C := R_GL) (T := F_GL) (N := 10) hx hb hts in_GL t_GL t_GL_ok n_GL hown hK hP hD hS 0 rfl rfl 9 (by decide) (hts _ (List.mem_cons_of_mem _ w_296)) (fun _ h9 => h9) rfl  (by decide +kernel) rfl rfl (Nat.le_of_ble_eq_true rfl) d_GL_wipe_7 (fun H locs hP hD hS => ?_)
  have hP : va_P (dC, dI) cls_ [(h0, .inr (9, [.ref qf, .int 0, .ref a2, .ref a3, .int 0, .ref a5, .ref a6, .ref a7, .ref qx, .int 0]))] H := hP
  have hD : va_D A [(h0, .inr (9, [.ref qf, .int 0, .ref a2, .ref a3, .int 0, .ref a5, .ref a6, .ref a7, .ref qx, .int 0]))] := hD
  refine lv_iload_n hx hb d_GL_wipe_10 rfl (lv_at hl 0 rfl) ?_
  refine W.widen (k := 0) (n := 0) (Nat.le_of_ble_eq_true rfl) (Nat.le_of_ble_eq_true rfl) ?_
  exact W.iret (v := 0) hx hb hr (fun t ht hW => ⟨⟨0, (), rfl, rfl, trivial⟩, hS.F ht⟩) hS.2.2 d_GL_wipe_11
set_option maxHeartbeats 4000000 in
set_option maxRecDepth 100000 in
/-- GlyphLines.isCharacter -/
theorem c_GL_isCharacter (l : Launch) (dC : Nat → ClassId) (dI : Nat → Nat → Nat) (ch : Int32) (sz : Nat) : Met l y_GL_isCharacter s_GL_isCharacter ({ frames := 8, cells := 0, slots := 0, locals := 200 }) (va_Pc [.int ch] (fun U => U.heap.size = sz ∧ va_P (dC, dI) cls_ [] U.heap ∧ va_K (dC, dI) cls_ [] U ∧ va_D (fun _ => True) [])) (va_Qi (fun (r : Int32) (_ : Unit) => r = (if 0 ≤ ch ∧ ch ≤ 65535 then 1 else 0)) (fun (_ : Unit) (t : State) => True) (va_A [] sz)) 0 0 (va_A [] sz) := by
  refine Met.ofW (cc := b_GL_isCharacter) (maxL := 1) (ret := (some .boolean)) (by decide) rfl ?_
  intro p e s m args below meth c s₁ B hml hv
  obtain ⟨rfl, hsz, hP, hK, hD0⟩ := hv
  have hx := B.exec
  have hb := B.bytes
  have hr := B.returns
  have hts := atoms_spec (ws := s_GL_isCharacter) B.pre
  have hown : s.vm.findClass R_GL = some m.cls := findClass_of_methodNamed B.named
  have hlocks := B.notSynchronized
  subst hsz
  have hD := hD0.self (sz := s.heap.size)
  generalize hAe : va_A [] s.heap.size = A at hD ⊢
  have hA : ∀ q : Nat, s.heap.size ≤ q → A q := fun q h => by rw [← hAe]; exact Or.inr h
  have hS : va_S A s.heap s.heap [] := va_S.rf
  have hP : va_P (dC, dI) cls_ [] s.heap := hP
  have hl := lv_entry ([.int ch]) (n := 1) (Nat.le_of_ble_eq_true rfl)
  rw [lg_entry_eq]
  generalize (lg_sl ([.int ch]) ++ List.replicate (1 - (lg_sl ([.int ch])).length) Slot.unset).toArray = ls at hl ⊢
  have hl : lv_has ls 1 [(0, .int ch)] := hl
  refine lv_iload_n hx hb d_GL_isCharacter_0 rfl (lv_at hl 0 rfl) ?_
  refine lv_if_lt (tgt := 14) hx hb d_GL_isCharacter_1 (by decide) (fun hc144 => ?_) (fun hc144 => ?_)
  · skip
    refine lv_iconst (v := 0) hx hb d_GL_isCharacter_14 (by decide) ?_
    refine W.widen (k := 0) (n := 0) (Nat.le_of_ble_eq_true rfl) (Nat.le_of_ble_eq_true rfl) ?_
    exact W.zret (v := 0) (ty := .boolean) hx hb hr (by decide +kernel) (fun t ht hW => ⟨⟨0, (), rfl, (if_neg (fun z => absurd hc144 (Int32.not_lt.mpr z.1))).symm, trivial⟩, hS.F ht⟩) hS.2.2 d_GL_isCharacter_15
  · skip
    refine lv_iload_n hx hb d_GL_isCharacter_4 rfl (lv_at hl 0 rfl) ?_
    refine lv_ldc (v := 65535) hx hb hown (hts _ (List.mem_cons_of_mem _ w_543)) d_GL_isCharacter_5 ?_
    refine lv_icmp_gt (tgt := 14) hx hb d_GL_isCharacter_7 (by decide) (fun hc145 => ?_) (fun hc145 => ?_)
    · skip
      refine lv_iconst (v := 0) hx hb d_GL_isCharacter_14 (by decide) ?_
      refine W.widen (k := 0) (n := 0) (Nat.le_of_ble_eq_true rfl) (Nat.le_of_ble_eq_true rfl) ?_
      exact W.zret (v := 0) (ty := .boolean) hx hb hr (by decide +kernel) (fun t ht hW => ⟨⟨0, (), rfl, (if_neg (fun z => absurd hc145 (Int32.not_lt.mpr z.2))).symm, trivial⟩, hS.F ht⟩) hS.2.2 d_GL_isCharacter_15
    · skip
      refine lv_iconst (v := 1) hx hb d_GL_isCharacter_10 (by decide) ?_
      refine lv_goto (tgt := 15) hx hb d_GL_isCharacter_11 (by decide) ?_
      refine W.widen (k := 0) (n := 0) (Nat.le_of_ble_eq_true rfl) (Nat.le_of_ble_eq_true rfl) ?_
      exact W.zret (v := 1) (ty := .boolean) hx hb hr (by decide +kernel) (fun t ht hW => ⟨⟨1, (), rfl, (if_pos ⟨Int32.not_lt.mp hc144, Int32.not_lt.mp hc145⟩).symm, trivial⟩, hS.F ht⟩) hS.2.2 d_GL_isCharacter_15
set_option maxHeartbeats 4000000 in
set_option maxRecDepth 100000 in
/-- GlyphLines.type -/
theorem c_GL_type (l : Launch) (dC : Nat → ClassId) (dI : Nat → Nat → Nat) (h0 qf a2 a3 a5 a6 a7 qx : Nat) (cX : ClassId) (ch : Int32) (sz : Nat) : Met l y_GL_type s_GL_type ({ frames := 10, cells := 0, slots := 0, locals := 300 }) (va_Pc [.ref h0, .int ch] (fun U => U.heap.size = sz ∧ va_P (dC, dI) cls_ [(h0, .inr (9, [.ref qf, .int 0, .ref a2, .ref a3, .int 0, .ref a5, .ref a6, .ref a7, .ref qx, .int 0])), (qx, .inl (cX, 12, .inl (fun _ => 0)))] U.heap ∧ va_K (dC, dI) cls_ [(cX, .int)] U ∧ va_D (fun _ => True) [(h0, .inr (9, [.ref qf, .int 0, .ref a2, .ref a3, .int 0, .ref a5, .ref a6, .ref a7, .ref qx, .int 0])), (qx, .inl (cX, 12, .inl (fun _ => 0)))])) (va_Qi (fun (r : Int32) (_ : Unit) => r = (if 0 ≤ ch ∧ ch ≤ 65535 then 1 else 0)) (fun (_ : Unit) (t : State) => True) (va_A [(h0, .inr (9, [.ref qf, .int 0, .ref a2, .ref a3, .int 0, .ref a5, .ref a6, .ref a7, .ref qx, .int 0])), (qx, .inl (cX, 12, .inl (fun _ => 0)))] sz)) 0 0 (va_A [(h0, .inr (9, [.ref qf, .int 0, .ref a2, .ref a3, .int 0, .ref a5, .ref a6, .ref a7, .ref qx, .int 0])), (qx, .inl (cX, 12, .inl (fun _ => 0)))] sz) := by
  refine Met.ofW (cc := b_GL_type) (maxL := 2) (ret := (some .boolean)) (by decide) rfl ?_
  intro p e s m args below meth c s₁ B hml hv
  obtain ⟨rfl, hsz, hP, hK, hD0⟩ := hv
  have hx := B.exec
  have hb := B.bytes
  have hr := B.returns
  have hts := atoms_spec (ws := s_GL_type) B.pre
  have hown : s.vm.findClass R_GL = some m.cls := findClass_of_methodNamed B.named
  have hlocks := B.notSynchronized
  subst hsz
  have hD := hD0.self (sz := s.heap.size)
  generalize hAe : va_A [(h0, .inr (9, [.ref qf, .int 0, .ref a2, .ref a3, .int 0, .ref a5, .ref a6, .ref a7, .ref qx, .int 0])), (qx, .inl (cX, 12, .inl (fun _ => 0)))] s.heap.size = A at hD ⊢
  have hA : ∀ q : Nat, s.heap.size ≤ q → A q := fun q h => by rw [← hAe]; exact Or.inr h
  have hS : va_S A s.heap s.heap [] := va_S.rf
  have hP : va_P (dC, dI) cls_ [(h0, .inr (9, [.ref qf, .int 0, .ref a2, .ref a3, .int 0, .ref a5, .ref a6, .ref a7, .ref qx, .int 0])), (qx, .inl (cX, 12, .inl (fun _ => 0)))] s.heap := hP
  have hl := lv_entry ([.ref h0, .int ch]) (n := 2) (Nat.le_of_ble_eq_true rfl)
  rw [lg_entry_eq]
  generalize (lg_sl ([.ref h0, .int ch]) ++ List.replicate (2 - (lg_sl ([.ref h0, .int ch])).length) Slot.unset).toArray = ls at hl ⊢
  have hl : lv_has ls 2 [(0, .ref h0), (1, .int ch)] := hl
  refine lv_iload_n hx hb d_GL_type_0 rfl (lv_at hl 1 rfl) ?_
  have hPc := hP.sub (ws' := []) [] rfl
  have hDc := hD.sub (ws' := []) [] (by decide) rfl
  have hKc := hK.sub (tys' := []) [] rfl
  have hFc := va_free (wc := []) hD hS hA [] rfl
  refine va_calli (va_runS (As := [.int ch]) (rest := []) ⟨hx, hb, hml, hown, hts⟩ (c_GL_isCharacter l dC dI ch s.heap.size) (cwS 1 hts (tw_inS w_540 w_541 w_1 w_542) rfl rfl rfl (by decide +kernel) ⟨Nat.le_of_ble_eq_true rfl, Nat.le_of_ble_eq_true rfl⟩) ⟨fun a U g mk q => by obtain ⟨q0, q1, qP, qK, qD⟩ := q; exact ⟨q0, q1, qP, va_K.moved (u := U) (U := U.calling g mk a) (Vm.Alike.refl U.vm) qK, qD⟩, fun U hU hW => ⟨rfl, by rw [hU], by rw [hU]; exact hPc, va_K.moved hW.alike hKc, hDc.weaken (fun _ _ _ _ => trivial)⟩⟩ rfl rfl hl.1 rfl (lv_room (Nat.le_of_ble_eq_true rfl)) d_GL_type_1 ⟨Nat.le_of_ble_eq_true rfl, Nat.le_of_ble_eq_true rfl⟩) hS (fun q _ h => hFc q h) hFc (fun r146 u t H1 locs ht hvm hw hB hz1 hk1 hS => ?_)
  have hP1 : va_P (dC, dI) cls_ [] H1 := fun k q h => by simp at h
  have hD1 : va_D (va_A [] s.heap.size) [] := ⟨fun i j p q h => by simp at h, fun k q h => by simp at h⟩
  obtain ⟨hP, hD⟩ := va_join (wr := [(h0, .inr (9, [.ref qf, .int 0, .ref a2, .ref a3, .int 0, .ref a5, .ref a6, .ref a7, .ref qx, .int 0])), (qx, .inl (cX, 12, .inl (fun _ => 0)))]) (w1 := []) hP hD [] [0, 1] rfl rfl (by decide) (by decide) hk1 hFc hP1 hD1
  generalize H1 = H at hP hS ⊢
  have hP : va_P (dC, dI) cls_ [(h0, .inr (9, [.ref qf, .int 0, .ref a2, .ref a3, .int 0, .ref a5, .ref a6, .ref a7, .ref qx, .int 0])), (qx, .inl (cX, 12, .inl (fun _ => 0)))] H := hP
  have hD : va_D A [(h0, .inr (9, [.ref qf, .int 0, .ref a2, .ref a3, .int 0, .ref a5, .ref a6, .ref a7, .ref qx, .int 0])), (qx, .inl (cX, 12, .inl (fun _ => 0)))] := hD
  have hw_r146 := hw
  refine lv_if_eq (tgt := 16) hx hb d_GL_type_4 (by decide) (fun hc147 => ?_) (fun hc147 => ?_)
  · skip
    refine lv_iconst (v := 0) hx hb d_GL_type_16 (by decide) ?_
    refine W.widen (k := 0) (n := 0) (Nat.le_of_ble_eq_true rfl) (Nat.le_of_ble_eq_true rfl) ?_
    exact W.zret (v := 0) (ty := .boolean) hx hb hr (by decide +kernel) (fun t ht hW => ⟨⟨0, (), rfl, hc147.symm.trans hw_r146, trivial⟩, hS.F ht⟩) hS.2.2 d_GL_type_17
  · skip
    refine lv_aload_n hx hb d_GL_type_7 rfl (lv_at hl 0 rfl) ?_
    refine va_get (D := (dC, dI)) (ci := 9) (v := .int 0) (C := R_GL) (T := F_GL) (N := 10) hx hb hts in_GL hown hK hP 0 rfl rfl 9 (by decide) (hts _ (List.mem_cons_of_mem _ w_296)) (fun _ h9 => h9) rfl d_GL_type_8 ?_
    refine lv_bipush (v := 12) hx hb d_GL_type_11 (by decide) ?_
    refine lv_icmp_lt (tgt := 18) hx hb d_GL_type_13 (by decide) (fun _ => ?_) (fun hc => absurd hc (by decide +kernel))
    refine lv_aload_n hx hb d_GL_type_18 rfl (lv_at hl 0 rfl) ?_
    refine va_get (D := (dC, dI)) (ci := 9) (v := .ref qx) (C := R_GL) (T := F_GL) (N := 10) hx hb hts in_GL hown hK hP 0 rfl rfl 8 (by decide) (hts _ (List.mem_cons_of_mem _ w_295)) (fun _ h9 => h9) rfl d_GL_type_19 ?_
    refine lv_aload_n hx hb d_GL_type_22 rfl (lv_at hl 0 rfl) ?_
    refine va_get (D := (dC, dI)) (ci := 9) (v := .int 0) (C := R_GL) (T := F_GL) (N := 10) hx hb hts in_GL hown hK hP 0 rfl rfl 9 (by decide) (hts _ (List.mem_cons_of_mem _ w_296)) (fun _ h9 => h9) rfl d_GL_type_23 ?_
    refine lv_iload_n hx hb d_GL_type_26 rfl (lv_at hl 1 rfl) ?_
    refine va_iast hx hb hK hP hD hS 1 0 rfl rfl (pk_in 0 12 (by decide) (by decide +kernel) (by decide)) d_GL_type_27 (fun H locs hP hD hS => ?_)
    have hP : va_P (dC, dI) cls_ [(h0, .inr (9, [.ref qf, .int 0, .ref a2, .ref a3, .int 0, .ref a5, .ref a6, .ref a7, .ref qx, .int 0])), (qx, .inl (cX, 12, .inl (upd (fun _ => 0) (Int32.toNatClampNeg 0) (ch))))] H := hP
    have hD : va_D A [(h0, .inr (9, [.ref qf, .int 0, .ref a2, .ref a3, .int 0, .ref a5, .ref a6, .ref a7, .ref qx, .int 0])), (qx, .inl (cX, 12, .inl (upd (fun _ => 0) (Int32.toNatClampNeg 0) (ch))))] := hD
    refine lv_aload_n hx hb d_GL_type_28 rfl (lv_at hl 0 rfl) ?_
    refine lv_dup hx hb d_GL_type_29 rfl ?_
    refine va_get (D := (dC, dI)) (ci := 9) (v := .int 0) (C := R_GL) (T := F_GL) (N := 10) hx hb hts in_GL hown hK hP 0 rfl rfl 9 (by decide) (hts _ (List.mem_cons_of_mem _ w_296)) (fun _ h9 => h9) rfl d_GL_type_30 ?_
    refine lv_iconst (v := 1) hx hb d_GL_type_33 (by decide) ?_
    refine lv_iadd hx hb d_GL_type_34 ?_
    refine lv_ci (y := 1) (by decide +kernel) ?_
    refine va_put (D := (dC, dI)) (ci := 9) (v := .int 1) (ty := .int) (C := R_GL) (T := F_GL) (N := 10) hx hb hts in_GL t_GL t_GL_ok n_GL hown hK hP hD hS 0 rfl rfl 9 (by decide) (hts _ (List.mem_cons_of_mem _ w_296)) (fun _ h9 => h9) rfl  (by decide +kernel) rfl rfl (Nat.le_of_ble_eq_true rfl) d_GL_type_35 (fun H locs hP hD hS => ?_)
    have hP : va_P (dC, dI) cls_ [(h0, .inr (9, [.ref qf, .int 0, .ref a2, .ref a3, .int 0, .ref a5, .ref a6, .ref a7, .ref qx, .int 1])), (qx, .inl (cX, 12, .inl (upd (fun _ => 0) (Int32.toNatClampNeg 0) (ch))))] H := hP
    have hD : va_D A [(h0, .inr (9, [.ref qf, .int 0, .ref a2, .ref a3, .int 0, .ref a5, .ref a6, .ref a7, .ref qx, .int 1])), (qx, .inl (cX, 12, .inl (upd (fun _ => 0) (Int32.toNatClampNeg 0) (ch))))] := hD
    refine lv_iconst (v := 1) hx hb d_GL_type_38 (by decide) ?_
    refine W.widen (k := 0) (n := 0) (Nat.le_of_ble_eq_true rfl) (Nat.le_of_ble_eq_true rfl) ?_
    exact W.zret (v := 1) (ty := .boolean) hx hb hr (by decide +kernel) (fun t ht hW => ⟨⟨1, (), rfl, gl_bit hw_r146 hc147, trivial⟩, hS.F ht⟩) hS.2.2 d_GL_type_39
set_option maxHeartbeats 4000000 in
set_option maxRecDepth 100000 in
/-- GlyphLines.row -/
theorem c_GL_row (l : Launch) (dC : Nat → ClassId) (dI : Nat → Nat → Nat) (h0 qf a2 a3 a5 a6 a7 qx : Nat) (qr qs : Nat) (cB : ClassId) (r : Int32) (sz : Nat) (h1 : ¬ r < 0) (h2 : r < 24) : Met l y_GL_row s_GL_row ({ frames := 8, cells := 0, slots := 0, locals := 200 }) (va_Pc [.ref h0, .int r] (fun U => U.heap.size = sz ∧ va_P (dC, dI) cls_ [(h0, .inr (9, [.ref qf, .int 0, .ref a2, .ref a3, .int 0, .ref a5, .ref a6, .ref a7, .ref qx, .int 0])), (a6, .inr (7, [.ref qr, .ref qs])), (qr, .inl (cB, 24, .inr (.inl (fun _ => 0))))] U.heap ∧ va_K (dC, dI) cls_ [(cB, .long)] U ∧ va_D (fun _ => True) [(h0, .inr (9, [.ref qf, .int 0, .ref a2, .ref a3, .int 0, .ref a5, .ref a6, .ref a7, .ref qx, .int 0])), (a6, .inr (7, [.ref qr, .ref qs])), (qr, .inl (cB, 24, .inr (.inl (fun _ => 0))))] ∧ va_Nw (.fieldLinkNest "GlyphLines" 153 "GlyphLines$Picture" "rows" "[J" "GlyphLines") U)) (va_Ql (fun (r : Int64) (_ : Unit) => r = 0) (fun (_ : Unit) (t : State) => True) (va_A [(h0, .inr (9, [.ref qf, .int 0, .ref a2, .ref a3, .int 0, .ref a5, .ref a6, .ref a7, .ref qx, .int 0])), (a6, .inr (7, [.ref qr, .ref qs])), (qr, .inl (cB, 24, .inr (.inl (fun _ => 0))))] sz)) 0 0 (va_A [(h0, .inr (9, [.ref qf, .int 0, .ref a2, .ref a3, .int 0, .ref a5, .ref a6, .ref a7, .ref qx, .int 0])), (a6, .inr (7, [.ref qr, .ref qs])), (qr, .inl (cB, 24, .inr (.inl (fun _ => 0))))] sz) := by
  refine Met.ofW (cc := b_GL_row) (maxL := 2) (ret := (some .long)) (by decide) rfl ?_
  intro p e s m args below meth c s₁ B hml hv
  obtain ⟨rfl, hsz, hP, hK, hD0, hN⟩ := hv
  have hx := B.exec
  have hb := B.bytes
  have hr := B.returns
  have hts := atoms_spec (ws := s_GL_row) B.pre
  have hown : s.vm.findClass R_GL = some m.cls := findClass_of_methodNamed B.named
  have hlocks := B.notSynchronized
  subst hsz
  have hD := hD0.self (sz := s.heap.size)
  generalize hAe : va_A [(h0, .inr (9, [.ref qf, .int 0, .ref a2, .ref a3, .int 0, .ref a5, .ref a6, .ref a7, .ref qx, .int 0])), (a6, .inr (7, [.ref qr, .ref qs])), (qr, .inl (cB, 24, .inr (.inl (fun _ => 0))))] s.heap.size = A at hD ⊢
  have hA : ∀ q : Nat, s.heap.size ≤ q → A q := fun q h => by rw [← hAe]; exact Or.inr h
  have hS : va_S A s.heap s.heap [] := va_S.rf
  have hP : va_P (dC, dI) cls_ [(h0, .inr (9, [.ref qf, .int 0, .ref a2, .ref a3, .int 0, .ref a5, .ref a6, .ref a7, .ref qx, .int 0])), (a6, .inr (7, [.ref qr, .ref qs])), (qr, .inl (cB, 24, .inr (.inl (fun _ => 0))))] s.heap := hP
  have hl := lv_entry ([.ref h0, .int r]) (n := 2) (Nat.le_of_ble_eq_true rfl)
  rw [lg_entry_eq]
  generalize (lg_sl ([.ref h0, .int r]) ++ List.replicate (2 - (lg_sl ([.ref h0, .int r])).length) Slot.unset).toArray = ls at hl ⊢
  have hl : lv_has ls 2 [(0, .ref h0), (1, .int r)] := hl
  refine lv_iload_n hx hb d_GL_row_0 rfl (lv_at hl 1 rfl) ?_
  refine lv_if_lt (tgt := 10) hx hb d_GL_row_1 (by decide) (fun hc148 => ?_) (fun hc148 => ?_)
  · skip
    exact absurd hc148 h1
  · skip
    refine lv_iload_n hx hb d_GL_row_4 rfl (lv_at hl 1 rfl) ?_
    refine lv_bipush (v := 24) hx hb d_GL_row_5 (by decide) ?_
    refine lv_icmp_lt (tgt := 20) hx hb d_GL_row_7 (by decide) (fun hc149 => ?_) (fun hc149 => ?_)
    · skip
      refine lv_aload_n hx hb d_GL_row_20 rfl (lv_at hl 0 rfl) ?_
      refine va_get (D := (dC, dI)) (ci := 9) (v := .ref a6) (C := R_GL) (T := F_GL) (N := 10) hx hb hts in_GL hown hK hP 0 rfl rfl 6 (by decide) (hts _ (List.mem_cons_of_mem _ w_293)) (fun _ h9 => h9) rfl d_GL_row_21 ?_
      refine va_getN (D := (dC, dI)) (ci := 7) (v := .ref qr) (C := R_PI) (T := F_PI) (N := 2) (host := "GlyphLines") hx hb hts in_PI hown hK hP 1 rfl rfl 0 (by decide) (va_Nw.use rfl hN) (fun _ h9 => h9) rfl d_GL_row_24 ?_
      refine lv_iload_n hx hb d_GL_row_27 rfl (lv_at hl 1 rfl) ?_
      refine va_lald hx hb hK hP 2 0 rfl rfl (gl_in24 h1 h2) d_GL_row_28 ?_
      refine W.widen (k := 0) (n := 0) (Nat.le_of_ble_eq_true rfl) (Nat.le_of_ble_eq_true rfl) ?_
      exact W.lret (v := 0) hx hb hr (fun t ht hW => ⟨⟨0, (), rfl, rfl, trivial⟩, hS.F ht⟩) hS.2.2 d_GL_row_29
    · skip
      exact absurd h2 hc149
set_option maxHeartbeats 4000000 in
set_option maxRecDepth 100000 in
/-- GlyphLines$Span.lay -/
theorem c_SP_lay (l : Launch) (dC : Nat → ClassId) (dI : Nat → Nat → Nat) (h0 qa : Nat) (cA : ClassId) (f : Nat → Int32) (sz : Nat) : Met l y_SP_lay s_SP_lay ({ frames := 8, cells := 0, slots := 0, locals := 200 }) (va_Pc [.ref h0, .int 0, .int 0] (fun U => U.heap.size = sz ∧ va_P (dC, dI) cls_ [(h0, .inr (0, [.ref qa, .int 0, .int 0, .int 0])), (qa, .inl (cA, 1200, .inl (f)))] U.heap ∧ va_K (dC, dI) cls_ [(cA, .int)] U ∧ va_D (fun _ => True) [(h0, .inr (0, [.ref qa, .int 0, .int 0, .int 0])), (qa, .inl (cA, 1200, .inl (f)))])) (va_Qv (fun _ : Unit => True) (fun (_ : Unit) (t : State) => va_P (dC, dI) cls_ [(h0, .inr (0, [.ref qa, .int 0, .int 0, .int 0])), (qa, .inl (cA, 1200, .inl (f)))] t.heap ∧ va_K (dC, dI) cls_ [(cA, .int)] t ∧ va_D (va_A [(h0, .inr (0, [.ref qa, .int 0, .int 0, .int 0])), (qa, .inl (cA, 1200, .inl (f)))] sz) [(h0, .inr (0, [.ref qa, .int 0, .int 0, .int 0])), (qa, .inl (cA, 1200, .inl (f)))]) (va_A [(h0, .inr (0, [.ref qa, .int 0, .int 0, .int 0])), (qa, .inl (cA, 1200, .inl (f)))] sz)) 0 0 (va_A [(h0, .inr (0, [.ref qa, .int 0, .int 0, .int 0])), (qa, .inl (cA, 1200, .inl (f)))] sz) := by
  refine Met.ofW (cc := b_SP_lay) (maxL := 3) (ret := none) (by decide) rfl ?_
  intro p e s m args below meth c s₁ B hml hv
  obtain ⟨rfl, hsz, hP, hK, hD0⟩ := hv
  have hx := B.exec
  have hb := B.bytes
  have hr := B.returns
  have hts := atoms_spec (ws := s_SP_lay) B.pre
  have hown : s.vm.findClass R_SP = some m.cls := findClass_of_methodNamed B.named
  have hlocks := B.notSynchronized
  subst hsz
  have hD := hD0.self (sz := s.heap.size)
  generalize hAe : va_A [(h0, .inr (0, [.ref qa, .int 0, .int 0, .int 0])), (qa, .inl (cA, 1200, .inl (f)))] s.heap.size = A at hD ⊢
  have hA : ∀ q : Nat, s.heap.size ≤ q → A q := fun q h => by rw [← hAe]; exact Or.inr h
  have hS : va_S A s.heap s.heap [] := va_S.rf
  have hP : va_P (dC, dI) cls_ [(h0, .inr (0, [.ref qa, .int 0, .int 0, .int 0])), (qa, .inl (cA, 1200, .inl (f)))] s.heap := hP
  have hl := lv_entry ([.ref h0, .int 0, .int 0]) (n := 3) (Nat.le_of_ble_eq_true rfl)
  rw [lg_entry_eq]
  generalize (lg_sl ([.ref h0, .int 0, .int 0]) ++ List.replicate (3 - (lg_sl ([.ref h0, .int 0, .int 0])).length) Slot.unset).toArray = ls at hl ⊢
  have hl : lv_has ls 3 [(0, .ref h0), (1, .int 0), (2, .int 0)] := hl
  refine lv_aload_n hx hb d_SP_lay_0 rfl (lv_at hl 0 rfl) ?_
  refine lv_iconst (v := 0) hx hb d_SP_lay_1 (by decide) ?_
  refine lv_iload_n hx hb d_SP_lay_2 rfl (lv_at hl 1 rfl) ?_
  refine lv_aload_n hx hb d_SP_lay_3 rfl (lv_at hl 0 rfl) ?_
  refine va_get (D := (dC, dI)) (ci := 0) (v := .ref qa) (C := R_SP) (T := F_SP) (N := 4) hx hb hts in_SP hown hK hP 0 rfl rfl 0 (by decide) (hts _ (List.mem_cons_of_mem _ w_48)) (fun _ h9 => h9) rfl d_SP_lay_4 ?_
  refine va_alen (v := 1200) hx hb hK hP 1 0 rfl rfl (by show Int32.ofNat 1200 = 1200; decide +kernel) d_SP_lay_7 ?_
  refine va_mmin hx hb (by rw [hml]; exact hl.1.symm) hown (hts _ (List.mem_cons_of_mem _ w_348)) (hts _ (List.mem_cons_of_mem _ w_335)) (hts _ (List.mem_cons_of_mem _ w_17)) (hts _ (List.mem_cons_of_mem _ w_336)) (Nat.le_of_ble_eq_true rfl) (Nat.le_of_ble_eq_true rfl) (Nat.le_of_ble_eq_true rfl) (Nat.le_of_ble_eq_true rfl) d_SP_lay_8 ?_
  refine lv_ci (y := 0) (by decide +kernel) ?_
  refine va_mmax hx hb (by rw [hml]; exact hl.1.symm) hown (hts _ (List.mem_cons_of_mem _ w_349)) (hts _ (List.mem_cons_of_mem _ w_350)) (hts _ (List.mem_cons_of_mem _ w_17)) (hts _ (List.mem_cons_of_mem _ w_351)) (Nat.le_of_ble_eq_true rfl) (Nat.le_of_ble_eq_true rfl) (Nat.le_of_ble_eq_true rfl) (Nat.le_of_ble_eq_true rfl) d_SP_lay_11 ?_
  refine lv_ci (y := 0) (by decide +kernel) ?_
  refine va_put (D := (dC, dI)) (ci := 0) (v := .int 0) (ty := .int) (C := R_SP) (T := F_SP) (N := 4) hx hb hts in_SP t_SP t_SP_ok n_SP hown hK hP hD hS 0 rfl rfl 1 (by decide) (hts _ (List.mem_cons_of_mem _ w_49)) (fun _ h9 => h9) rfl  (by decide +kernel) rfl rfl (Nat.le_of_ble_eq_true rfl) d_SP_lay_14 (fun H locs hP hD hS => ?_)
  have hP : va_P (dC, dI) cls_ [(h0, .inr (0, [.ref qa, .int 0, .int 0, .int 0])), (qa, .inl (cA, 1200, .inl (f)))] H := hP
  have hD : va_D A [(h0, .inr (0, [.ref qa, .int 0, .int 0, .int 0])), (qa, .inl (cA, 1200, .inl (f)))] := hD
  refine lv_aload_n hx hb d_SP_lay_17 rfl (lv_at hl 0 rfl) ?_
  refine lv_iconst (v := 0) hx hb d_SP_lay_18 (by decide) ?_
  refine lv_iload_n hx hb d_SP_lay_19 rfl (lv_at hl 2 rfl) ?_
  refine lv_aload_n hx hb d_SP_lay_20 rfl (lv_at hl 0 rfl) ?_
  refine va_get (D := (dC, dI)) (ci := 0) (v := .ref qa) (C := R_SP) (T := F_SP) (N := 4) hx hb hts in_SP hown hK hP 0 rfl rfl 0 (by decide) (hts _ (List.mem_cons_of_mem _ w_48)) (fun _ h9 => h9) rfl d_SP_lay_21 ?_
  refine va_alen (v := 1200) hx hb hK hP 1 0 rfl rfl (by show Int32.ofNat 1200 = 1200; decide +kernel) d_SP_lay_24 ?_
  refine lv_aload_n hx hb d_SP_lay_25 rfl (lv_at hl 0 rfl) ?_
  refine va_get (D := (dC, dI)) (ci := 0) (v := .int 0) (C := R_SP) (T := F_SP) (N := 4) hx hb hts in_SP hown hK hP 0 rfl rfl 1 (by decide) (hts _ (List.mem_cons_of_mem _ w_49)) (fun _ h9 => h9) rfl d_SP_lay_26 ?_
  refine lv_isub hx hb d_SP_lay_29 ?_
  refine lv_ci (y := 1200) (by decide +kernel) ?_
  refine va_mmin hx hb (by rw [hml]; exact hl.1.symm) hown (hts _ (List.mem_cons_of_mem _ w_348)) (hts _ (List.mem_cons_of_mem _ w_335)) (hts _ (List.mem_cons_of_mem _ w_17)) (hts _ (List.mem_cons_of_mem _ w_336)) (Nat.le_of_ble_eq_true rfl) (Nat.le_of_ble_eq_true rfl) (Nat.le_of_ble_eq_true rfl) (Nat.le_of_ble_eq_true rfl) d_SP_lay_30 ?_
  refine lv_ci (y := 0) (by decide +kernel) ?_
  refine va_mmax hx hb (by rw [hml]; exact hl.1.symm) hown (hts _ (List.mem_cons_of_mem _ w_349)) (hts _ (List.mem_cons_of_mem _ w_350)) (hts _ (List.mem_cons_of_mem _ w_17)) (hts _ (List.mem_cons_of_mem _ w_351)) (Nat.le_of_ble_eq_true rfl) (Nat.le_of_ble_eq_true rfl) (Nat.le_of_ble_eq_true rfl) (Nat.le_of_ble_eq_true rfl) d_SP_lay_33 ?_
  refine lv_ci (y := 0) (by decide +kernel) ?_
  refine va_put (D := (dC, dI)) (ci := 0) (v := .int 0) (ty := .int) (C := R_SP) (T := F_SP) (N := 4) hx hb hts in_SP t_SP t_SP_ok n_SP hown hK hP hD hS 0 rfl rfl 2 (by decide) (hts _ (List.mem_cons_of_mem _ w_51)) (fun _ h9 => h9) rfl  (by decide +kernel) rfl rfl (Nat.le_of_ble_eq_true rfl) d_SP_lay_36 (fun H locs hP hD hS => ?_)
  have hP : va_P (dC, dI) cls_ [(h0, .inr (0, [.ref qa, .int 0, .int 0, .int 0])), (qa, .inl (cA, 1200, .inl (f)))] H := hP
  have hD : va_D A [(h0, .inr (0, [.ref qa, .int 0, .int 0, .int 0])), (qa, .inl (cA, 1200, .inl (f)))] := hD
  refine lv_aload_n hx hb d_SP_lay_39 rfl (lv_at hl 0 rfl) ?_
  refine lv_iconst (v := 0) hx hb d_SP_lay_40 (by decide) ?_
  refine va_put (D := (dC, dI)) (ci := 0) (v := .int 0) (ty := .boolean) (C := R_SP) (T := F_SP) (N := 4) hx hb hts in_SP t_SP t_SP_ok n_SP hown hK hP hD hS 0 rfl rfl 3 (by decide) (hts _ (List.mem_cons_of_mem _ w_55)) (fun _ h9 => h9) rfl  (by decide +kernel) rfl rfl (Nat.le_of_ble_eq_true rfl) d_SP_lay_41 (fun H locs hP hD hS => ?_)
  have hP : va_P (dC, dI) cls_ [(h0, .inr (0, [.ref qa, .int 0, .int 0, .int 0])), (qa, .inl (cA, 1200, .inl (f)))] H := hP
  have hD : va_D A [(h0, .inr (0, [.ref qa, .int 0, .int 0, .int 0])), (qa, .inl (cA, 1200, .inl (f)))] := hD
  refine W.widen (k := 0) (n := 0) (Nat.le_of_ble_eq_true rfl) (Nat.le_of_ble_eq_true rfl) ?_
  have hP9 := hP.sub (ws' := [(h0, .inr (0, [.ref qa, .int 0, .int 0, .int 0])), (qa, .inl (cA, 1200, .inl (f)))]) [0, 1] rfl
  have hD9 := hD.sub (ws' := [(h0, .inr (0, [.ref qa, .int 0, .int 0, .int 0])), (qa, .inl (cA, 1200, .inl (f)))]) [0, 1] (by decide) rfl
  have hK9 := hK.sub (tys' := [(cA, .int)]) [0] rfl
  exact W.vret hx hb hr (fun t ht hW => ⟨⟨(), rfl, trivial, by rw [ht]; exact hP9, va_K.moved hW.alike hK9, hD9⟩, hS.F ht⟩) hS.2.2 d_SP_lay_44
set_option maxHeartbeats 4000000 in
set_option maxRecDepth 100000 in
/-- GlyphLines$Span.u16 -/
theorem c_SP_u16 (l : Launch) (dC : Nat → ClassId) (dI : Nat → Nat → Nat) (h0 qa : Nat) (cA : ClassId) (f : Nat → Int32) (sz : Nat) : Met l y_SP_u16 s_SP_u16 ({ frames := 8, cells := 0, slots := 0, locals := 200 }) (va_Pc [.ref h0, .int 4] (fun U => U.heap.size = sz ∧ va_P (dC, dI) cls_ [(h0, .inr (0, [.ref qa, .int 0, .int 0, .int 0])), (qa, .inl (cA, 1200, .inl (f)))] U.heap ∧ va_K (dC, dI) cls_ [(cA, .int)] U ∧ va_D (fun _ => True) [(h0, .inr (0, [.ref qa, .int 0, .int 0, .int 0])), (qa, .inl (cA, 1200, .inl (f)))])) (va_Qi (fun (r : Int32) (_ : Unit) => r = 0) (fun (_ : Unit) (t : State) => va_P (dC, dI) cls_ [(h0, .inr (0, [.ref qa, .int 0, .int 0, .int 1])), (qa, .inl (cA, 1200, .inl (f)))] t.heap ∧ va_K (dC, dI) cls_ [(cA, .int)] t ∧ va_D (va_A [(h0, .inr (0, [.ref qa, .int 0, .int 0, .int 0])), (qa, .inl (cA, 1200, .inl (f)))] sz) [(h0, .inr (0, [.ref qa, .int 0, .int 0, .int 1])), (qa, .inl (cA, 1200, .inl (f)))]) (va_A [(h0, .inr (0, [.ref qa, .int 0, .int 0, .int 0])), (qa, .inl (cA, 1200, .inl (f)))] sz)) 0 0 (va_A [(h0, .inr (0, [.ref qa, .int 0, .int 0, .int 0])), (qa, .inl (cA, 1200, .inl (f)))] sz) := by
  refine Met.ofW (cc := b_SP_u16) (maxL := 2) (ret := (some .int)) (by decide) rfl ?_
  intro p e s m args below meth c s₁ B hml hv
  obtain ⟨rfl, hsz, hP, hK, hD0⟩ := hv
  have hx := B.exec
  have hb := B.bytes
  have hr := B.returns
  have hts := atoms_spec (ws := s_SP_u16) B.pre
  have hown : s.vm.findClass R_SP = some m.cls := findClass_of_methodNamed B.named
  have hlocks := B.notSynchronized
  subst hsz
  have hD := hD0.self (sz := s.heap.size)
  generalize hAe : va_A [(h0, .inr (0, [.ref qa, .int 0, .int 0, .int 0])), (qa, .inl (cA, 1200, .inl (f)))] s.heap.size = A at hD ⊢
  have hA : ∀ q : Nat, s.heap.size ≤ q → A q := fun q h => by rw [← hAe]; exact Or.inr h
  have hS : va_S A s.heap s.heap [] := va_S.rf
  have hP : va_P (dC, dI) cls_ [(h0, .inr (0, [.ref qa, .int 0, .int 0, .int 0])), (qa, .inl (cA, 1200, .inl (f)))] s.heap := hP
  have hl := lv_entry ([.ref h0, .int 4]) (n := 2) (Nat.le_of_ble_eq_true rfl)
  rw [lg_entry_eq]
  generalize (lg_sl ([.ref h0, .int 4]) ++ List.replicate (2 - (lg_sl ([.ref h0, .int 4])).length) Slot.unset).toArray = ls at hl ⊢
  have hl : lv_has ls 2 [(0, .ref h0), (1, .int 4)] := hl
  refine lv_iload_n hx hb d_SP_u16_0 rfl (lv_at hl 1 rfl) ?_
  refine lv_if_lt (tgt := 14) hx hb d_SP_u16_1 (by decide) (fun hc => absurd hc (by decide +kernel)) (fun _ => ?_)
  refine lv_iload_n hx hb d_SP_u16_4 rfl (lv_at hl 1 rfl) ?_
  refine lv_aload_n hx hb d_SP_u16_5 rfl (lv_at hl 0 rfl) ?_
  refine va_get (D := (dC, dI)) (ci := 0) (v := .int 0) (C := R_SP) (T := F_SP) (N := 4) hx hb hts in_SP hown hK hP 0 rfl rfl 2 (by decide) (hts _ (List.mem_cons_of_mem _ w_51)) (fun _ h9 => h9) rfl d_SP_u16_6 ?_
  refine lv_iconst (v := 1) hx hb d_SP_u16_9 (by decide) ?_
  refine lv_isub hx hb d_SP_u16_10 ?_
  refine lv_ci (y := (-1)) (by decide +kernel) ?_
  refine lv_icmp_lt (tgt := 21) hx hb d_SP_u16_11 (by decide) (fun hc => absurd hc (by decide +kernel)) (fun _ => ?_)
  refine lv_aload_n hx hb d_SP_u16_14 rfl (lv_at hl 0 rfl) ?_
  refine lv_iconst (v := 1) hx hb d_SP_u16_15 (by decide) ?_
  refine va_put (D := (dC, dI)) (ci := 0) (v := .int 1) (ty := .boolean) (C := R_SP) (T := F_SP) (N := 4) hx hb hts in_SP t_SP t_SP_ok n_SP hown hK hP hD hS 0 rfl rfl 3 (by decide) (hts _ (List.mem_cons_of_mem _ w_55)) (fun _ h9 => h9) rfl  (by decide +kernel) rfl rfl (Nat.le_of_ble_eq_true rfl) d_SP_u16_16 (fun H locs hP hD hS => ?_)
  have hP : va_P (dC, dI) cls_ [(h0, .inr (0, [.ref qa, .int 0, .int 0, .int 1])), (qa, .inl (cA, 1200, .inl (f)))] H := hP
  have hD : va_D A [(h0, .inr (0, [.ref qa, .int 0, .int 0, .int 1])), (qa, .inl (cA, 1200, .inl (f)))] := hD
  refine lv_iconst (v := 0) hx hb d_SP_u16_19 (by decide) ?_
  refine W.widen (k := 0) (n := 0) (Nat.le_of_ble_eq_true rfl) (Nat.le_of_ble_eq_true rfl) ?_
  have hP9 := hP.sub (ws' := [(h0, .inr (0, [.ref qa, .int 0, .int 0, .int 1])), (qa, .inl (cA, 1200, .inl (f)))]) [0, 1] rfl
  have hD9 := hD.sub (ws' := [(h0, .inr (0, [.ref qa, .int 0, .int 0, .int 1])), (qa, .inl (cA, 1200, .inl (f)))]) [0, 1] (by decide) rfl
  have hK9 := hK.sub (tys' := [(cA, .int)]) [0] rfl
  exact W.iret (v := 0) hx hb hr (fun t ht hW => ⟨⟨0, (), rfl, rfl, by rw [ht]; exact hP9, va_K.moved hW.alike hK9, hD9⟩, hS.F ht⟩) hS.2.2 d_SP_u16_20
set_option maxHeartbeats 4000000 in
set_option maxRecDepth 100000 in
/-- GlyphLines$Span.u32 -/
theorem c_SP_u32 (l : Launch) (dC : Nat → ClassId) (dI : Nat → Nat → Nat) (h0 qa : Nat) (cA : ClassId) (f : Nat → Int32) (sz : Nat) : Met l y_SP_u32 s_SP_u32 ({ frames := 8, cells := 0, slots := 0, locals := 200 }) (va_Pc [.ref h0, .int 0] (fun U => U.heap.size = sz ∧ va_P (dC, dI) cls_ [(h0, .inr (0, [.ref qa, .int 0, .int 0, .int 1])), (qa, .inl (cA, 1200, .inl (f)))] U.heap ∧ va_K (dC, dI) cls_ [(cA, .int)] U ∧ va_D (fun _ => True) [(h0, .inr (0, [.ref qa, .int 0, .int 0, .int 1])), (qa, .inl (cA, 1200, .inl (f)))])) (va_Ql (fun (r : Int64) (_ : Unit) => r = 0) (fun (_ : Unit) (t : State) => va_P (dC, dI) cls_ [(h0, .inr (0, [.ref qa, .int 0, .int 0, .int 1])), (qa, .inl (cA, 1200, .inl (f)))] t.heap ∧ va_K (dC, dI) cls_ [(cA, .int)] t ∧ va_D (va_A [(h0, .inr (0, [.ref qa, .int 0, .int 0, .int 1])), (qa, .inl (cA, 1200, .inl (f)))] sz) [(h0, .inr (0, [.ref qa, .int 0, .int 0, .int 1])), (qa, .inl (cA, 1200, .inl (f)))]) (va_A [(h0, .inr (0, [.ref qa, .int 0, .int 0, .int 1])), (qa, .inl (cA, 1200, .inl (f)))] sz)) 0 0 (va_A [(h0, .inr (0, [.ref qa, .int 0, .int 0, .int 1])), (qa, .inl (cA, 1200, .inl (f)))] sz) := by
  refine Met.ofW (cc := b_SP_u32) (maxL := 6) (ret := (some .long)) (by decide) rfl ?_
  intro p e s m args below meth c s₁ B hml hv
  obtain ⟨rfl, hsz, hP, hK, hD0⟩ := hv
  have hx := B.exec
  have hb := B.bytes
  have hr := B.returns
  have hts := atoms_spec (ws := s_SP_u32) B.pre
  have hown : s.vm.findClass R_SP = some m.cls := findClass_of_methodNamed B.named
  have hlocks := B.notSynchronized
  subst hsz
  have hD := hD0.self (sz := s.heap.size)
  generalize hAe : va_A [(h0, .inr (0, [.ref qa, .int 0, .int 0, .int 1])), (qa, .inl (cA, 1200, .inl (f)))] s.heap.size = A at hD ⊢
  have hA : ∀ q : Nat, s.heap.size ≤ q → A q := fun q h => by rw [← hAe]; exact Or.inr h
  have hS : va_S A s.heap s.heap [] := va_S.rf
  have hP : va_P (dC, dI) cls_ [(h0, .inr (0, [.ref qa, .int 0, .int 0, .int 1])), (qa, .inl (cA, 1200, .inl (f)))] s.heap := hP
  have hl := lv_entry ([.ref h0, .int 0]) (n := 6) (Nat.le_of_ble_eq_true rfl)
  rw [lg_entry_eq]
  generalize (lg_sl ([.ref h0, .int 0]) ++ List.replicate (6 - (lg_sl ([.ref h0, .int 0])).length) Slot.unset).toArray = ls at hl ⊢
  have hl : lv_has ls 6 [(0, .ref h0), (1, .int 0)] := hl
  refine lv_lconst (v := 0) hx hb d_SP_u32_0 (by decide) ?_
  refine lv_lstore_n (lv' := [(2, .long 0), (0, .ref h0), (1, .int 0)]) hx hb d_SP_u32_1 rfl hl (by decide) rfl (fun ls hl => ?_)
  refine lv_iload_n hx hb d_SP_u32_2 rfl (lv_at hl 2 rfl) ?_
  refine lv_istore (lv' := [(4, .int 0), (2, .long 0), (0, .ref h0), (1, .int 0)]) hx hb d_SP_u32_3 hl (by decide) rfl (fun ls hl => ?_)
  refine lv_iload hx hb d_SP_u32_5 (lv_at hl 0 rfl) ?_
  refine lv_iload_n hx hb d_SP_u32_7 rfl (lv_at hl 3 rfl) ?_
  refine lv_iconst (v := 4) hx hb d_SP_u32_8 (by decide) ?_
  refine lv_iadd hx hb d_SP_u32_9 ?_
  refine lv_ci (y := 4) (by decide +kernel) ?_
  refine lv_icmp_ge (tgt := 87) hx hb d_SP_u32_10 (by decide) (fun hc => absurd hc (by decide +kernel)) (fun _ => ?_)
  refine lv_iload hx hb d_SP_u32_13 (lv_at hl 0 rfl) ?_
  refine lv_if_lt (tgt := 31) hx hb d_SP_u32_15 (by decide) (fun hc => absurd hc (by decide +kernel)) (fun _ => ?_)
  refine lv_iload hx hb d_SP_u32_18 (lv_at hl 0 rfl) ?_
  refine lv_aload_n hx hb d_SP_u32_20 rfl (lv_at hl 2 rfl) ?_
  refine va_get (D := (dC, dI)) (ci := 0) (v := .int 0) (C := R_SP) (T := F_SP) (N := 4) hx hb hts in_SP hown hK hP 0 rfl rfl 2 (by decide) (hts _ (List.mem_cons_of_mem _ w_51)) (fun _ h9 => h9) rfl d_SP_u32_21 ?_
  refine lv_icmp_ge (tgt := 31) hx hb d_SP_u32_24 (by decide) (fun _ => ?_) (fun hc => absurd hc (by decide +kernel))
  refine lv_iconst (v := 0) hx hb d_SP_u32_31 (by decide) ?_
  refine lv_istore (lv' := [(5, .int 0), (4, .int 0), (2, .long 0), (0, .ref h0), (1, .int 0)]) hx hb d_SP_u32_32 hl (by decide) rfl (fun ls hl => ?_)
  refine lv_aload_n hx hb d_SP_u32_34 rfl (lv_at hl 3 rfl) ?_
  refine lv_dup hx hb d_SP_u32_35 rfl ?_
  refine va_get (D := (dC, dI)) (ci := 0) (v := .int 1) (C := R_SP) (T := F_SP) (N := 4) hx hb hts in_SP hown hK hP 0 rfl rfl 3 (by decide) (hts _ (List.mem_cons_of_mem _ w_55)) (fun _ h9 => h9) rfl d_SP_u32_36 ?_
  refine lv_iload hx hb d_SP_u32_39 (lv_at hl 0 rfl) ?_
  refine lv_if_ne (tgt := 48) hx hb d_SP_u32_41 (by decide) (fun hc => absurd hc (by decide +kernel)) (fun _ => ?_)
  refine lv_iconst (v := 1) hx hb d_SP_u32_44 (by decide) ?_
  refine lv_goto (tgt := 49) hx hb d_SP_u32_45 (by decide) ?_
  refine lv_ior hx hb d_SP_u32_49 ?_
  refine lv_ci (y := 1) (by decide +kernel) ?_
  refine va_put (D := (dC, dI)) (ci := 0) (v := .int 1) (ty := .boolean) (C := R_SP) (T := F_SP) (N := 4) hx hb hts in_SP t_SP t_SP_ok n_SP hown hK hP hD hS 0 rfl rfl 3 (by decide) (hts _ (List.mem_cons_of_mem _ w_55)) (fun _ h9 => h9) rfl  (by decide +kernel) rfl rfl (Nat.le_of_ble_eq_true rfl) d_SP_u32_50 (fun H locs hP hD hS => ?_)
  have hP : va_P (dC, dI) cls_ [(h0, .inr (0, [.ref qa, .int 0, .int 0, .int 1])), (qa, .inl (cA, 1200, .inl (f)))] H := hP
  have hD : va_D A [(h0, .inr (0, [.ref qa, .int 0, .int 0, .int 1])), (qa, .inl (cA, 1200, .inl (f)))] := hD
  refine lv_lload_n hx hb d_SP_u32_53 rfl (lv_at hl 2 rfl) ?_
  refine lv_bipush (v := 8) hx hb d_SP_u32_54 (by decide) ?_
  refine lv_lshl (v := 0) hx hb d_SP_u32_56 (by decide +kernel) ?_
  refine lv_iload hx hb d_SP_u32_57 (lv_at hl 0 rfl) ?_
  refine lv_if_eq (tgt := 77) hx hb d_SP_u32_59 (by decide) (fun _ => ?_) (fun hc => absurd hc (by decide +kernel))
  refine lv_iconst (v := 0) hx hb d_SP_u32_77 (by decide) ?_
  refine lv_i2l (v := 0) hx hb d_SP_u32_78 (by first | rfl | decide +kernel) ?_
  refine lv_lor hx hb d_SP_u32_79 ?_
  refine lv_cl (y := 0) (by decide +kernel) ?_
  refine lv_lstore_n (lv' := [(2, .long 0), (5, .int 0), (4, .int 0), (0, .ref h0), (1, .int 0)]) hx hb d_SP_u32_80 rfl hl (by decide) rfl (fun ls hl => ?_)
  refine lv_iinc (k := 2) (v := 1) (lv' := [(4, .int 1), (2, .long 0), (5, .int 0), (0, .ref h0), (1, .int 0)]) hx hb d_SP_u32_81 hl rfl (by first | rfl | decide +kernel) (by decide) rfl (fun ls hl => ?_)
  refine lv_goto (tgt := 5) hx hb d_SP_u32_84 (by decide) ?_
  refine lv_iload hx hb d_SP_u32_5 (lv_at hl 0 rfl) ?_
  refine lv_iload_n hx hb d_SP_u32_7 rfl (lv_at hl 4 rfl) ?_
  refine lv_iconst (v := 4) hx hb d_SP_u32_8 (by decide) ?_
  refine lv_iadd hx hb d_SP_u32_9 ?_
  refine lv_ci (y := 4) (by decide +kernel) ?_
  refine lv_icmp_ge (tgt := 87) hx hb d_SP_u32_10 (by decide) (fun hc => absurd hc (by decide +kernel)) (fun _ => ?_)
  refine lv_iload hx hb d_SP_u32_13 (lv_at hl 0 rfl) ?_
  refine lv_if_lt (tgt := 31) hx hb d_SP_u32_15 (by decide) (fun hc => absurd hc (by decide +kernel)) (fun _ => ?_)
  refine lv_iload hx hb d_SP_u32_18 (lv_at hl 0 rfl) ?_
  refine lv_aload_n hx hb d_SP_u32_20 rfl (lv_at hl 3 rfl) ?_
  refine va_get (D := (dC, dI)) (ci := 0) (v := .int 0) (C := R_SP) (T := F_SP) (N := 4) hx hb hts in_SP hown hK hP 0 rfl rfl 2 (by decide) (hts _ (List.mem_cons_of_mem _ w_51)) (fun _ h9 => h9) rfl d_SP_u32_21 ?_
  refine lv_icmp_ge (tgt := 31) hx hb d_SP_u32_24 (by decide) (fun _ => ?_) (fun hc => absurd hc (by decide +kernel))
  refine lv_iconst (v := 0) hx hb d_SP_u32_31 (by decide) ?_
  refine lv_istore (lv' := [(5, .int 0), (4, .int 1), (2, .long 0), (0, .ref h0), (1, .int 0)]) hx hb d_SP_u32_32 hl (by decide) rfl (fun ls hl => ?_)
  refine lv_aload_n hx hb d_SP_u32_34 rfl (lv_at hl 3 rfl) ?_
  refine lv_dup hx hb d_SP_u32_35 rfl ?_
  refine va_get (D := (dC, dI)) (ci := 0) (v := .int 1) (C := R_SP) (T := F_SP) (N := 4) hx hb hts in_SP hown hK hP 0 rfl rfl 3 (by decide) (hts _ (List.mem_cons_of_mem _ w_55)) (fun _ h9 => h9) rfl d_SP_u32_36 ?_
  refine lv_iload hx hb d_SP_u32_39 (lv_at hl 0 rfl) ?_
  refine lv_if_ne (tgt := 48) hx hb d_SP_u32_41 (by decide) (fun hc => absurd hc (by decide +kernel)) (fun _ => ?_)
  refine lv_iconst (v := 1) hx hb d_SP_u32_44 (by decide) ?_
  refine lv_goto (tgt := 49) hx hb d_SP_u32_45 (by decide) ?_
  refine lv_ior hx hb d_SP_u32_49 ?_
  refine lv_ci (y := 1) (by decide +kernel) ?_
  refine va_put (D := (dC, dI)) (ci := 0) (v := .int 1) (ty := .boolean) (C := R_SP) (T := F_SP) (N := 4) hx hb hts in_SP t_SP t_SP_ok n_SP hown hK hP hD hS 0 rfl rfl 3 (by decide) (hts _ (List.mem_cons_of_mem _ w_55)) (fun _ h9 => h9) rfl  (by decide +kernel) rfl rfl (Nat.le_of_ble_eq_true rfl) d_SP_u32_50 (fun H locs hP hD hS => ?_)
  have hP : va_P (dC, dI) cls_ [(h0, .inr (0, [.ref qa, .int 0, .int 0, .int 1])), (qa, .inl (cA, 1200, .inl (f)))] H := hP
  have hD : va_D A [(h0, .inr (0, [.ref qa, .int 0, .int 0, .int 1])), (qa, .inl (cA, 1200, .inl (f)))] := hD
  refine lv_lload_n hx hb d_SP_u32_53 rfl (lv_at hl 2 rfl) ?_
  refine lv_bipush (v := 8) hx hb d_SP_u32_54 (by decide) ?_
  refine lv_lshl (v := 0) hx hb d_SP_u32_56 (by decide +kernel) ?_
  refine lv_iload hx hb d_SP_u32_57 (lv_at hl 0 rfl) ?_
  refine lv_if_eq (tgt := 77) hx hb d_SP_u32_59 (by decide) (fun _ => ?_) (fun hc => absurd hc (by decide +kernel))
  refine lv_iconst (v := 0) hx hb d_SP_u32_77 (by decide) ?_
  refine lv_i2l (v := 0) hx hb d_SP_u32_78 (by first | rfl | decide +kernel) ?_
  refine lv_lor hx hb d_SP_u32_79 ?_
  refine lv_cl (y := 0) (by decide +kernel) ?_
  refine lv_lstore_n (lv' := [(2, .long 0), (5, .int 0), (4, .int 1), (0, .ref h0), (1, .int 0)]) hx hb d_SP_u32_80 rfl hl (by decide) rfl (fun ls hl => ?_)
  refine lv_iinc (k := 2) (v := 2) (lv' := [(4, .int 2), (2, .long 0), (5, .int 0), (0, .ref h0), (1, .int 0)]) hx hb d_SP_u32_81 hl rfl (by first | rfl | decide +kernel) (by decide) rfl (fun ls hl => ?_)
  refine lv_goto (tgt := 5) hx hb d_SP_u32_84 (by decide) ?_
  refine lv_iload hx hb d_SP_u32_5 (lv_at hl 0 rfl) ?_
  refine lv_iload_n hx hb d_SP_u32_7 rfl (lv_at hl 4 rfl) ?_
  refine lv_iconst (v := 4) hx hb d_SP_u32_8 (by decide) ?_
  refine lv_iadd hx hb d_SP_u32_9 ?_
  refine lv_ci (y := 4) (by decide +kernel) ?_
  refine lv_icmp_ge (tgt := 87) hx hb d_SP_u32_10 (by decide) (fun hc => absurd hc (by decide +kernel)) (fun _ => ?_)
  refine lv_iload hx hb d_SP_u32_13 (lv_at hl 0 rfl) ?_
  refine lv_if_lt (tgt := 31) hx hb d_SP_u32_15 (by decide) (fun hc => absurd hc (by decide +kernel)) (fun _ => ?_)
  refine lv_iload hx hb d_SP_u32_18 (lv_at hl 0 rfl) ?_
  refine lv_aload_n hx hb d_SP_u32_20 rfl (lv_at hl 3 rfl) ?_
  refine va_get (D := (dC, dI)) (ci := 0) (v := .int 0) (C := R_SP) (T := F_SP) (N := 4) hx hb hts in_SP hown hK hP 0 rfl rfl 2 (by decide) (hts _ (List.mem_cons_of_mem _ w_51)) (fun _ h9 => h9) rfl d_SP_u32_21 ?_
  refine lv_icmp_ge (tgt := 31) hx hb d_SP_u32_24 (by decide) (fun _ => ?_) (fun hc => absurd hc (by decide +kernel))
  refine lv_iconst (v := 0) hx hb d_SP_u32_31 (by decide) ?_
  refine lv_istore (lv' := [(5, .int 0), (4, .int 2), (2, .long 0), (0, .ref h0), (1, .int 0)]) hx hb d_SP_u32_32 hl (by decide) rfl (fun ls hl => ?_)
  refine lv_aload_n hx hb d_SP_u32_34 rfl (lv_at hl 3 rfl) ?_
  refine lv_dup hx hb d_SP_u32_35 rfl ?_
  refine va_get (D := (dC, dI)) (ci := 0) (v := .int 1) (C := R_SP) (T := F_SP) (N := 4) hx hb hts in_SP hown hK hP 0 rfl rfl 3 (by decide) (hts _ (List.mem_cons_of_mem _ w_55)) (fun _ h9 => h9) rfl d_SP_u32_36 ?_
  refine lv_iload hx hb d_SP_u32_39 (lv_at hl 0 rfl) ?_
  refine lv_if_ne (tgt := 48) hx hb d_SP_u32_41 (by decide) (fun hc => absurd hc (by decide +kernel)) (fun _ => ?_)
  refine lv_iconst (v := 1) hx hb d_SP_u32_44 (by decide) ?_
  refine lv_goto (tgt := 49) hx hb d_SP_u32_45 (by decide) ?_
  refine lv_ior hx hb d_SP_u32_49 ?_
  refine lv_ci (y := 1) (by decide +kernel) ?_
  refine va_put (D := (dC, dI)) (ci := 0) (v := .int 1) (ty := .boolean) (C := R_SP) (T := F_SP) (N := 4) hx hb hts in_SP t_SP t_SP_ok n_SP hown hK hP hD hS 0 rfl rfl 3 (by decide) (hts _ (List.mem_cons_of_mem _ w_55)) (fun _ h9 => h9) rfl  (by decide +kernel) rfl rfl (Nat.le_of_ble_eq_true rfl) d_SP_u32_50 (fun H locs hP hD hS => ?_)
  have hP : va_P (dC, dI) cls_ [(h0, .inr (0, [.ref qa, .int 0, .int 0, .int 1])), (qa, .inl (cA, 1200, .inl (f)))] H := hP
  have hD : va_D A [(h0, .inr (0, [.ref qa, .int 0, .int 0, .int 1])), (qa, .inl (cA, 1200, .inl (f)))] := hD
  refine lv_lload_n hx hb d_SP_u32_53 rfl (lv_at hl 2 rfl) ?_
  refine lv_bipush (v := 8) hx hb d_SP_u32_54 (by decide) ?_
  refine lv_lshl (v := 0) hx hb d_SP_u32_56 (by decide +kernel) ?_
  refine lv_iload hx hb d_SP_u32_57 (lv_at hl 0 rfl) ?_
  refine lv_if_eq (tgt := 77) hx hb d_SP_u32_59 (by decide) (fun _ => ?_) (fun hc => absurd hc (by decide +kernel))
  refine lv_iconst (v := 0) hx hb d_SP_u32_77 (by decide) ?_
  refine lv_i2l (v := 0) hx hb d_SP_u32_78 (by first | rfl | decide +kernel) ?_
  refine lv_lor hx hb d_SP_u32_79 ?_
  refine lv_cl (y := 0) (by decide +kernel) ?_
  refine lv_lstore_n (lv' := [(2, .long 0), (5, .int 0), (4, .int 2), (0, .ref h0), (1, .int 0)]) hx hb d_SP_u32_80 rfl hl (by decide) rfl (fun ls hl => ?_)
  refine lv_iinc (k := 2) (v := 3) (lv' := [(4, .int 3), (2, .long 0), (5, .int 0), (0, .ref h0), (1, .int 0)]) hx hb d_SP_u32_81 hl rfl (by first | rfl | decide +kernel) (by decide) rfl (fun ls hl => ?_)
  refine lv_goto (tgt := 5) hx hb d_SP_u32_84 (by decide) ?_
  refine lv_iload hx hb d_SP_u32_5 (lv_at hl 0 rfl) ?_
  refine lv_iload_n hx hb d_SP_u32_7 rfl (lv_at hl 4 rfl) ?_
  refine lv_iconst (v := 4) hx hb d_SP_u32_8 (by decide) ?_
  refine lv_iadd hx hb d_SP_u32_9 ?_
  refine lv_ci (y := 4) (by decide +kernel) ?_
  refine lv_icmp_ge (tgt := 87) hx hb d_SP_u32_10 (by decide) (fun hc => absurd hc (by decide +kernel)) (fun _ => ?_)
  refine lv_iload hx hb d_SP_u32_13 (lv_at hl 0 rfl) ?_
  refine lv_if_lt (tgt := 31) hx hb d_SP_u32_15 (by decide) (fun hc => absurd hc (by decide +kernel)) (fun _ => ?_)
  refine lv_iload hx hb d_SP_u32_18 (lv_at hl 0 rfl) ?_
  refine lv_aload_n hx hb d_SP_u32_20 rfl (lv_at hl 3 rfl) ?_
  refine va_get (D := (dC, dI)) (ci := 0) (v := .int 0) (C := R_SP) (T := F_SP) (N := 4) hx hb hts in_SP hown hK hP 0 rfl rfl 2 (by decide) (hts _ (List.mem_cons_of_mem _ w_51)) (fun _ h9 => h9) rfl d_SP_u32_21 ?_
  refine lv_icmp_ge (tgt := 31) hx hb d_SP_u32_24 (by decide) (fun _ => ?_) (fun hc => absurd hc (by decide +kernel))
  refine lv_iconst (v := 0) hx hb d_SP_u32_31 (by decide) ?_
  refine lv_istore (lv' := [(5, .int 0), (4, .int 3), (2, .long 0), (0, .ref h0), (1, .int 0)]) hx hb d_SP_u32_32 hl (by decide) rfl (fun ls hl => ?_)
  refine lv_aload_n hx hb d_SP_u32_34 rfl (lv_at hl 3 rfl) ?_
  refine lv_dup hx hb d_SP_u32_35 rfl ?_
  refine va_get (D := (dC, dI)) (ci := 0) (v := .int 1) (C := R_SP) (T := F_SP) (N := 4) hx hb hts in_SP hown hK hP 0 rfl rfl 3 (by decide) (hts _ (List.mem_cons_of_mem _ w_55)) (fun _ h9 => h9) rfl d_SP_u32_36 ?_
  refine lv_iload hx hb d_SP_u32_39 (lv_at hl 0 rfl) ?_
  refine lv_if_ne (tgt := 48) hx hb d_SP_u32_41 (by decide) (fun hc => absurd hc (by decide +kernel)) (fun _ => ?_)
  refine lv_iconst (v := 1) hx hb d_SP_u32_44 (by decide) ?_
  refine lv_goto (tgt := 49) hx hb d_SP_u32_45 (by decide) ?_
  refine lv_ior hx hb d_SP_u32_49 ?_
  refine lv_ci (y := 1) (by decide +kernel) ?_
  refine va_put (D := (dC, dI)) (ci := 0) (v := .int 1) (ty := .boolean) (C := R_SP) (T := F_SP) (N := 4) hx hb hts in_SP t_SP t_SP_ok n_SP hown hK hP hD hS 0 rfl rfl 3 (by decide) (hts _ (List.mem_cons_of_mem _ w_55)) (fun _ h9 => h9) rfl  (by decide +kernel) rfl rfl (Nat.le_of_ble_eq_true rfl) d_SP_u32_50 (fun H locs hP hD hS => ?_)
  have hP : va_P (dC, dI) cls_ [(h0, .inr (0, [.ref qa, .int 0, .int 0, .int 1])), (qa, .inl (cA, 1200, .inl (f)))] H := hP
  have hD : va_D A [(h0, .inr (0, [.ref qa, .int 0, .int 0, .int 1])), (qa, .inl (cA, 1200, .inl (f)))] := hD
  refine lv_lload_n hx hb d_SP_u32_53 rfl (lv_at hl 2 rfl) ?_
  refine lv_bipush (v := 8) hx hb d_SP_u32_54 (by decide) ?_
  refine lv_lshl (v := 0) hx hb d_SP_u32_56 (by decide +kernel) ?_
  refine lv_iload hx hb d_SP_u32_57 (lv_at hl 0 rfl) ?_
  refine lv_if_eq (tgt := 77) hx hb d_SP_u32_59 (by decide) (fun _ => ?_) (fun hc => absurd hc (by decide +kernel))
  refine lv_iconst (v := 0) hx hb d_SP_u32_77 (by decide) ?_
  refine lv_i2l (v := 0) hx hb d_SP_u32_78 (by first | rfl | decide +kernel) ?_
  refine lv_lor hx hb d_SP_u32_79 ?_
  refine lv_cl (y := 0) (by decide +kernel) ?_
  refine lv_lstore_n (lv' := [(2, .long 0), (5, .int 0), (4, .int 3), (0, .ref h0), (1, .int 0)]) hx hb d_SP_u32_80 rfl hl (by decide) rfl (fun ls hl => ?_)
  refine lv_iinc (k := 2) (v := 4) (lv' := [(4, .int 4), (2, .long 0), (5, .int 0), (0, .ref h0), (1, .int 0)]) hx hb d_SP_u32_81 hl rfl (by first | rfl | decide +kernel) (by decide) rfl (fun ls hl => ?_)
  refine lv_goto (tgt := 5) hx hb d_SP_u32_84 (by decide) ?_
  refine lv_iload hx hb d_SP_u32_5 (lv_at hl 0 rfl) ?_
  refine lv_iload_n hx hb d_SP_u32_7 rfl (lv_at hl 4 rfl) ?_
  refine lv_iconst (v := 4) hx hb d_SP_u32_8 (by decide) ?_
  refine lv_iadd hx hb d_SP_u32_9 ?_
  refine lv_ci (y := 4) (by decide +kernel) ?_
  refine lv_icmp_ge (tgt := 87) hx hb d_SP_u32_10 (by decide) (fun _ => ?_) (fun hc => absurd hc (by decide +kernel))
  refine lv_lload_n hx hb d_SP_u32_87 rfl (lv_at hl 1 rfl) ?_
  refine W.widen (k := 0) (n := 0) (Nat.le_of_ble_eq_true rfl) (Nat.le_of_ble_eq_true rfl) ?_
  have hP9 := hP.sub (ws' := [(h0, .inr (0, [.ref qa, .int 0, .int 0, .int 1])), (qa, .inl (cA, 1200, .inl (f)))]) [0, 1] rfl
  have hD9 := hD.sub (ws' := [(h0, .inr (0, [.ref qa, .int 0, .int 0, .int 1])), (qa, .inl (cA, 1200, .inl (f)))]) [0, 1] (by decide) rfl
  have hK9 := hK.sub (tys' := [(cA, .int)]) [0] rfl
  exact W.lret (v := 0) hx hb hr (fun t ht hW => ⟨⟨0, (), rfl, rfl, by rw [ht]; exact hP9, va_K.moved hW.alike hK9, hD9⟩, hS.F ht⟩) hS.2.2 d_SP_u32_88
set_option maxHeartbeats 4000000 in
set_option maxRecDepth 100000 in
/-- GlyphLines$Directory.isRight -/
theorem c_DI_isRight (l : Launch) (dC : Nat → ClassId) (dI : Nat → Nat → Nat) (h0 qw qt qa : Nat) (cA : ClassId) (f : Nat → Int32) (sz : Nat) : Met l y_DI_isRight s_DI_isRight ({ frames := 10, cells := 0, slots := 0, locals := 300 }) (va_Pc [.ref h0, .int 0] (fun U => U.heap.size = sz ∧ va_P (dC, dI) cls_ [(h0, .inr (2, [.ref qw, .ref qt, .int 0])), (qw, .inr (0, [.ref qa, .int 0, .int 0, .int 0])), (qa, .inl (cA, 1200, .inl (f)))] U.heap ∧ va_K (dC, dI) cls_ [(cA, .int)] U ∧ va_D (fun _ => True) [(h0, .inr (2, [.ref qw, .ref qt, .int 0])), (qw, .inr (0, [.ref qa, .int 0, .int 0, .int 0])), (qa, .inl (cA, 1200, .inl (f)))])) (va_Qi (fun (r : Int32) (_ : Unit) => r = 0) (fun (_ : Unit) (t : State) => True) (va_A [(h0, .inr (2, [.ref qw, .ref qt, .int 0])), (qw, .inr (0, [.ref qa, .int 0, .int 0, .int 0])), (qa, .inl (cA, 1200, .inl (f)))] sz)) 0 0 (va_A [(h0, .inr (2, [.ref qw, .ref qt, .int 0])), (qw, .inr (0, [.ref qa, .int 0, .int 0, .int 0])), (qa, .inl (cA, 1200, .inl (f)))] sz) := by
  refine Met.ofW (cc := b_DI_isRight) (maxL := 7) (ret := (some .boolean)) (by decide) rfl ?_
  intro p e s m args below meth c s₁ B hml hv
  obtain ⟨rfl, hsz, hP, hK, hD0⟩ := hv
  have hx := B.exec
  have hb := B.bytes
  have hr := B.returns
  have hts := atoms_spec (ws := s_DI_isRight) B.pre
  have hown : s.vm.findClass R_DI = some m.cls := findClass_of_methodNamed B.named
  have hlocks := B.notSynchronized
  subst hsz
  have hD := hD0.self (sz := s.heap.size)
  generalize hAe : va_A [(h0, .inr (2, [.ref qw, .ref qt, .int 0])), (qw, .inr (0, [.ref qa, .int 0, .int 0, .int 0])), (qa, .inl (cA, 1200, .inl (f)))] s.heap.size = A at hD ⊢
  have hA : ∀ q : Nat, s.heap.size ≤ q → A q := fun q h => by rw [← hAe]; exact Or.inr h
  have hS : va_S A s.heap s.heap [] := va_S.rf
  have hP : va_P (dC, dI) cls_ [(h0, .inr (2, [.ref qw, .ref qt, .int 0])), (qw, .inr (0, [.ref qa, .int 0, .int 0, .int 0])), (qa, .inl (cA, 1200, .inl (f)))] s.heap := hP
  have hl := lv_entry ([.ref h0, .int 0]) (n := 7) (Nat.le_of_ble_eq_true rfl)
  rw [lg_entry_eq]
  generalize (lg_sl ([.ref h0, .int 0]) ++ List.replicate (7 - (lg_sl ([.ref h0, .int 0])).length) Slot.unset).toArray = ls at hl ⊢
  have hl : lv_has ls 7 [(0, .ref h0), (1, .int 0)] := hl
  refine lv_aload_n hx hb d_DI_isRight_0 rfl (lv_at hl 0 rfl) ?_
  refine va_get (D := (dC, dI)) (ci := 2) (v := .ref qw) (C := R_DI) (T := F_DI) (N := 3) hx hb hts in_DI hown hK hP 0 rfl rfl 0 (by decide) (hts _ (List.mem_cons_of_mem _ w_69)) (fun _ h9 => h9) rfl d_DI_isRight_1 ?_
  refine lv_iconst (v := 0) hx hb d_DI_isRight_4 (by decide) ?_
  refine lv_iload_n hx hb d_DI_isRight_5 rfl (lv_at hl 1 rfl) ?_
  have hPc := hP.sub (ws' := [(qw, .inr (0, [.ref qa, .int 0, .int 0, .int 0])), (qa, .inl (cA, 1200, .inl (f)))]) [1, 2] rfl
  have hDc := hD.sub (ws' := [(qw, .inr (0, [.ref qa, .int 0, .int 0, .int 0])), (qa, .inl (cA, 1200, .inl (f)))]) [1, 2] (by decide) rfl
  have hKc := hK.sub (tys' := [(cA, .int)]) [0] rfl
  have hFc := va_free (wc := [(qw, .inr (0, [.ref qa, .int 0, .int 0, .int 0])), (qa, .inl (cA, 1200, .inl (f)))]) hD hS hA [1, 2] rfl
  refine va_callv (va_runV (As := [.int 0, .int 0]) (rest := []) ⟨hx, hb, hml, hown, hts⟩ (c_SP_lay l dC dI qw qa cA (f) s.heap.size) (cwV 2 hts (tw_inV w_344 w_345 w_346 w_4 w_347) rfl rfl rfl (by decide +kernel) ⟨Nat.le_of_ble_eq_true rfl, Nat.le_of_ble_eq_true rfl⟩) ⟨fun a U g mk q => by obtain ⟨q0, q1, qP, qK, qD⟩ := q; exact ⟨q0, q1, qP, va_K.moved (u := U) (U := U.calling g mk a) (Vm.Alike.refl U.vm) qK, qD⟩, va_recv (hK := hK) (hP := hP) (q0 := 1) (ci := 0) rfl rfl, fun U hU hW => ⟨rfl, by rw [hU], by rw [hU]; exact hPc, va_K.moved hW.alike hKc, hDc.weaken (fun _ _ _ _ => trivial)⟩⟩ rfl rfl hl.1 rfl (lv_room (Nat.le_of_ble_eq_true rfl)) d_DI_isRight_6 ⟨Nat.le_of_ble_eq_true rfl, Nat.le_of_ble_eq_true rfl⟩) hS (fun q _ h => hFc q h) hFc (fun u t H1 locs ht hvm hw hB hz1 hk1 hS => ?_)
  obtain ⟨hP1, hK1, hD1⟩ := hB
  rw [ht] at hP1
  have hK1 := va_K.moved hvm.symm hK1
  obtain ⟨hP, hD⟩ := va_join (wr := [(h0, .inr (2, [.ref qw, .ref qt, .int 0]))]) (w1 := [(qw, .inr (0, [.ref qa, .int 0, .int 0, .int 0])), (qa, .inl (cA, 1200, .inl ((f))))]) hP hD [1, 2] [0] rfl rfl (by decide) (by decide) hk1 hFc hP1 hD1
  have hK := (hK.sub (tys' := []) [] rfl).app hK1
  generalize H1 = H at hP hS ⊢
  have hP : va_P (dC, dI) cls_ [(h0, .inr (2, [.ref qw, .ref qt, .int 0])), (qw, .inr (0, [.ref qa, .int 0, .int 0, .int 0])), (qa, .inl (cA, 1200, .inl ((f))))] H := hP
  have hD : va_D A [(h0, .inr (2, [.ref qw, .ref qt, .int 0])), (qw, .inr (0, [.ref qa, .int 0, .int 0, .int 0])), (qa, .inl (cA, 1200, .inl ((f))))] := hD
  have hK : va_K (dC, dI) cls_ [(cA, .int)] s := hK
  refine lv_aload_n hx hb d_DI_isRight_9 rfl (lv_at hl 0 rfl) ?_
  refine lv_aload_n hx hb d_DI_isRight_10 rfl (lv_at hl 0 rfl) ?_
  refine va_get (D := (dC, dI)) (ci := 2) (v := .ref qw) (C := R_DI) (T := F_DI) (N := 3) hx hb hts in_DI hown hK hP 0 rfl rfl 0 (by decide) (hts _ (List.mem_cons_of_mem _ w_69)) (fun _ h9 => h9) rfl d_DI_isRight_11 ?_
  refine lv_iconst (v := 4) hx hb d_DI_isRight_14 (by decide) ?_
  have hPc := hP.sub (ws' := [(qw, .inr (0, [.ref qa, .int 0, .int 0, .int 0])), (qa, .inl (cA, 1200, .inl ((f))))]) [1, 2] rfl
  have hDc := hD.sub (ws' := [(qw, .inr (0, [.ref qa, .int 0, .int 0, .int 0])), (qa, .inl (cA, 1200, .inl ((f))))]) [1, 2] (by decide) rfl
  have hKc := hK.sub (tys' := [(cA, .int)]) [0] rfl
  have hFc := va_free (wc := [(qw, .inr (0, [.ref qa, .int 0, .int 0, .int 0])), (qa, .inl (cA, 1200, .inl ((f))))]) hD hS hA [1, 2] rfl
  refine va_calli (va_runV (As := [.int 4]) (rest := [.ref h0]) ⟨hx, hb, hml, hown, hts⟩ (c_SP_u16 l dC dI qw qa cA ((f)) H.size) (cwV 1 hts (tw_inV w_352 w_353 w_354 w_4 w_355) rfl rfl rfl (by decide +kernel) ⟨Nat.le_of_ble_eq_true rfl, Nat.le_of_ble_eq_true rfl⟩) ⟨fun a U g mk q => by obtain ⟨q0, q1, qP, qK, qD⟩ := q; exact ⟨q0, q1, qP, va_K.moved (u := U) (U := U.calling g mk a) (Vm.Alike.refl U.vm) qK, qD⟩, va_recv (hK := hK) (hP := hP) (q0 := 1) (ci := 0) rfl rfl, fun U hU hW => ⟨rfl, by rw [hU], by rw [hU]; exact hPc, va_K.moved hW.alike hKc, hDc.weaken (fun _ _ _ _ => trivial)⟩⟩ rfl rfl hl.1 rfl (lv_room (Nat.le_of_ble_eq_true rfl)) d_DI_isRight_15 ⟨Nat.le_of_ble_eq_true rfl, Nat.le_of_ble_eq_true rfl⟩) hS (fun q _ h => hFc q h) hFc (fun r150 u t H1 locs ht hvm hw hB hz1 hk1 hS => ?_)
  obtain ⟨hP1, hK1, hD1⟩ := hB
  rw [ht] at hP1
  have hK1 := va_K.moved hvm.symm hK1
  obtain ⟨hP, hD⟩ := va_join (wr := [(h0, .inr (2, [.ref qw, .ref qt, .int 0]))]) (w1 := [(qw, .inr (0, [.ref qa, .int 0, .int 0, .int 1])), (qa, .inl (cA, 1200, .inl (((f)))))]) hP hD [1, 2] [0] rfl rfl (by decide) (by decide) hk1 hFc hP1 hD1
  have hK := (hK.sub (tys' := []) [] rfl).app hK1
  generalize H1 = H at hP hS ⊢
  have hP : va_P (dC, dI) cls_ [(h0, .inr (2, [.ref qw, .ref qt, .int 0])), (qw, .inr (0, [.ref qa, .int 0, .int 0, .int 1])), (qa, .inl (cA, 1200, .inl (((f)))))] H := hP
  have hD : va_D A [(h0, .inr (2, [.ref qw, .ref qt, .int 0])), (qw, .inr (0, [.ref qa, .int 0, .int 0, .int 1])), (qa, .inl (cA, 1200, .inl (((f)))))] := hD
  have hK : va_K (dC, dI) cls_ [(cA, .int)] s := hK
  have hw : r150 = 0 := hw
  subst hw
  refine va_put (D := (dC, dI)) (ci := 2) (v := .int 0) (ty := .int) (C := R_DI) (T := F_DI) (N := 3) hx hb hts in_DI t_DI t_DI_ok n_DI hown hK hP hD hS 0 rfl rfl 2 (by decide) (hts _ (List.mem_cons_of_mem _ w_71)) (fun _ h9 => h9) rfl  (by decide +kernel) rfl rfl (Nat.le_of_ble_eq_true rfl) d_DI_isRight_18 (fun H locs hP hD hS => ?_)
  have hP : va_P (dC, dI) cls_ [(h0, .inr (2, [.ref qw, .ref qt, .int 0])), (qw, .inr (0, [.ref qa, .int 0, .int 0, .int 1])), (qa, .inl (cA, 1200, .inl (((f)))))] H := hP
  have hD : va_D A [(h0, .inr (2, [.ref qw, .ref qt, .int 0])), (qw, .inr (0, [.ref qa, .int 0, .int 0, .int 1])), (qa, .inl (cA, 1200, .inl (((f)))))] := hD
  refine lv_aload_n hx hb d_DI_isRight_21 rfl (lv_at hl 0 rfl) ?_
  refine va_get (D := (dC, dI)) (ci := 2) (v := .ref qw) (C := R_DI) (T := F_DI) (N := 3) hx hb hts in_DI hown hK hP 0 rfl rfl 0 (by decide) (hts _ (List.mem_cons_of_mem _ w_69)) (fun _ h9 => h9) rfl d_DI_isRight_22 ?_
  refine lv_iconst (v := 0) hx hb d_DI_isRight_25 (by decide) ?_
  have hPc := hP.sub (ws' := [(qw, .inr (0, [.ref qa, .int 0, .int 0, .int 1])), (qa, .inl (cA, 1200, .inl (((f)))))]) [1, 2] rfl
  have hDc := hD.sub (ws' := [(qw, .inr (0, [.ref qa, .int 0, .int 0, .int 1])), (qa, .inl (cA, 1200, .inl (((f)))))]) [1, 2] (by decide) rfl
  have hKc := hK.sub (tys' := [(cA, .int)]) [0] rfl
  have hFc := va_free (wc := [(qw, .inr (0, [.ref qa, .int 0, .int 0, .int 1])), (qa, .inl (cA, 1200, .inl (((f)))))]) hD hS hA [1, 2] rfl
  refine va_calll (va_runV (As := [.int 0]) (rest := []) ⟨hx, hb, hml, hown, hts⟩ (c_SP_u32 l dC dI qw qa cA (((f))) H.size) (cwV 1 hts (tw_inV w_356 w_357 w_358 w_4 w_359) rfl rfl rfl (by decide +kernel) ⟨Nat.le_of_ble_eq_true rfl, Nat.le_of_ble_eq_true rfl⟩) ⟨fun a U g mk q => by obtain ⟨q0, q1, qP, qK, qD⟩ := q; exact ⟨q0, q1, qP, va_K.moved (u := U) (U := U.calling g mk a) (Vm.Alike.refl U.vm) qK, qD⟩, va_recv (hK := hK) (hP := hP) (q0 := 1) (ci := 0) rfl rfl, fun U hU hW => ⟨rfl, by rw [hU], by rw [hU]; exact hPc, va_K.moved hW.alike hKc, hDc.weaken (fun _ _ _ _ => trivial)⟩⟩ rfl rfl hl.1 rfl (lv_room (Nat.le_of_ble_eq_true rfl)) d_DI_isRight_26 ⟨Nat.le_of_ble_eq_true rfl, Nat.le_of_ble_eq_true rfl⟩) hS (fun q _ h => hFc q h) hFc (fun r151 u t H1 locs ht hvm hw hB hz1 hk1 hS => ?_)
  obtain ⟨hP1, hK1, hD1⟩ := hB
  rw [ht] at hP1
  have hK1 := va_K.moved hvm.symm hK1
  obtain ⟨hP, hD⟩ := va_join (wr := [(h0, .inr (2, [.ref qw, .ref qt, .int 0]))]) (w1 := [(qw, .inr (0, [.ref qa, .int 0, .int 0, .int 1])), (qa, .inl (cA, 1200, .inl ((((f))))))]) hP hD [1, 2] [0] rfl rfl (by decide) (by decide) hk1 hFc hP1 hD1
  have hK := (hK.sub (tys' := []) [] rfl).app hK1
  generalize H1 = H at hP hS ⊢
  have hP : va_P (dC, dI) cls_ [(h0, .inr (2, [.ref qw, .ref qt, .int 0])), (qw, .inr (0, [.ref qa, .int 0, .int 0, .int 1])), (qa, .inl (cA, 1200, .inl ((((f))))))] H := hP
  have hD : va_D A [(h0, .inr (2, [.ref qw, .ref qt, .int 0])), (qw, .inr (0, [.ref qa, .int 0, .int 0, .int 1])), (qa, .inl (cA, 1200, .inl ((((f))))))] := hD
  have hK : va_K (dC, dI) cls_ [(cA, .int)] s := hK
  have hw : r151 = 0 := hw
  subst hw
  refine lv_ldc2 (v := 65536) hx hb hown (hts _ (List.mem_cons_of_mem _ w_360)) d_DI_isRight_29 ?_
  refine W.lcmp hx hb d_DI_isRight_32 ?_
  refine lv_ci (y := (-1)) (by decide +kernel) ?_
  refine lv_if_ne (tgt := 75) hx hb d_DI_isRight_33 (by decide) (fun _ => ?_) (fun hc => absurd hc (by decide +kernel))
  refine lv_iconst (v := 0) hx hb d_DI_isRight_75 (by decide) ?_
  refine W.widen (k := 0) (n := 0) (Nat.le_of_ble_eq_true rfl) (Nat.le_of_ble_eq_true rfl) ?_
  exact W.zret (v := 0) (ty := .boolean) hx hb hr (by decide +kernel) (fun t ht hW => ⟨⟨0, (), rfl, rfl, trivial⟩, hS.F ht⟩) hS.2.2 d_DI_isRight_76
set_option maxHeartbeats 4000000 in
set_option maxRecDepth 100000 in
/-- GlyphLines$Font.loadFrom -/
theorem c_FO_loadFrom (l : Launch) (dC : Nat → ClassId) (dI : Nat → Nat → Nat) (h0 qf a5 : Nat) (cF : ClassId) (f0 f1 f2 f3 f4 f5 f6 f7 f8 f9 f10 qw qt : Nat) (cA : ClassId) (ck : Int32) (sz : Nat) : Met l y_FO_loadFrom s_FO_loadFrom ({ frames := 12, cells := 0, slots := 0, locals := 400 }) (va_Pc [.ref h0, .ref qf, .int 0, .int ck, .ref a5] (fun U => U.heap.size = sz ∧ va_P (dC, dI) cls_ [(h0, .inr (4, [.ref f0, .ref f1, .ref f2, .ref f3, .ref f4, .ref f5, .ref f6, .ref f7, .ref f8, .ref f9, .ref f10, .int 64, .int 0, .int 0, .int 0])), (f0, .inl (cA, 1200, .inl (fun _ => 0))), (f1, .inr (2, [.ref qw, .ref qt, .int 0])), (qw, .inr (0, [.ref f0, .int 0, .int 0, .int 0])), (qf, .inl (cF, 1200, .inl (fun _ => 0)))] U.heap ∧ va_K (dC, dI) cls_ [(cA, .int), (cF, .int)] U ∧ va_D (fun _ => True) [(h0, .inr (4, [.ref f0, .ref f1, .ref f2, .ref f3, .ref f4, .ref f5, .ref f6, .ref f7, .ref f8, .ref f9, .ref f10, .int 64, .int 0, .int 0, .int 0])), (f0, .inl (cA, 1200, .inl (fun _ => 0))), (f1, .inr (2, [.ref qw, .ref qt, .int 0])), (qw, .inr (0, [.ref f0, .int 0, .int 0, .int 0])), (qf, .inl (cF, 1200, .inl (fun _ => 0)))])) (va_Qi (fun (r : Int32) (_ : Unit) => r = -1) (fun (_ : Unit) (t : State) => True) (va_A [(h0, .inr (4, [.ref f0, .ref f1, .ref f2, .ref f3, .ref f4, .ref f5, .ref f6, .ref f7, .ref f8, .ref f9, .ref f10, .int 64, .int 0, .int 0, .int 0])), (f0, .inl (cA, 1200, .inl (fun _ => 0))), (f1, .inr (2, [.ref qw, .ref qt, .int 0])), (qw, .inr (0, [.ref f0, .int 0, .int 0, .int 0])), (qf, .inl (cF, 1200, .inl (fun _ => 0)))] sz)) 0 0 (va_A [(h0, .inr (4, [.ref f0, .ref f1, .ref f2, .ref f3, .ref f4, .ref f5, .ref f6, .ref f7, .ref f8, .ref f9, .ref f10, .int 64, .int 0, .int 0, .int 0])), (f0, .inl (cA, 1200, .inl (fun _ => 0))), (f1, .inr (2, [.ref qw, .ref qt, .int 0])), (qw, .inr (0, [.ref f0, .int 0, .int 0, .int 0])), (qf, .inl (cF, 1200, .inl (fun _ => 0)))] sz) := by
  refine Met.ofW (cc := b_FO_loadFrom) (maxL := 6) (ret := (some .int)) (by decide) rfl ?_
  intro p e s m args below meth c s₁ B hml hv
  obtain ⟨rfl, hsz, hP, hK, hD0⟩ := hv
  have hx := B.exec
  have hb := B.bytes
  have hr := B.returns
  have hts := atoms_spec (ws := s_FO_loadFrom) B.pre
  have hown : s.vm.findClass R_FO = some m.cls := findClass_of_methodNamed B.named
  have hlocks := B.notSynchronized
  subst hsz
  have hD := hD0.self (sz := s.heap.size)
  generalize hAe : va_A [(h0, .inr (4, [.ref f0, .ref f1, .ref f2, .ref f3, .ref f4, .ref f5, .ref f6, .ref f7, .ref f8, .ref f9, .ref f10, .int 64, .int 0, .int 0, .int 0])), (f0, .inl (cA, 1200, .inl (fun _ => 0))), (f1, .inr (2, [.ref qw, .ref qt, .int 0])), (qw, .inr (0, [.ref f0, .int 0, .int 0, .int 0])), (qf, .inl (cF, 1200, .inl (fun _ => 0)))] s.heap.size = A at hD ⊢
  have hA : ∀ q : Nat, s.heap.size ≤ q → A q := fun q h => by rw [← hAe]; exact Or.inr h
  have hS : va_S A s.heap s.heap [] := va_S.rf
  have hP : va_P (dC, dI) cls_ [(h0, .inr (4, [.ref f0, .ref f1, .ref f2, .ref f3, .ref f4, .ref f5, .ref f6, .ref f7, .ref f8, .ref f9, .ref f10, .int 64, .int 0, .int 0, .int 0])), (f0, .inl (cA, 1200, .inl (fun _ => 0))), (f1, .inr (2, [.ref qw, .ref qt, .int 0])), (qw, .inr (0, [.ref f0, .int 0, .int 0, .int 0])), (qf, .inl (cF, 1200, .inl (fun _ => 0)))] s.heap := hP
  have hl := lv_entry ([.ref h0, .ref qf, .int 0, .int ck, .ref a5]) (n := 6) (Nat.le_of_ble_eq_true rfl)
  rw [lg_entry_eq]
  generalize (lg_sl ([.ref h0, .ref qf, .int 0, .int ck, .ref a5]) ++ List.replicate (6 - (lg_sl ([.ref h0, .ref qf, .int 0, .int ck, .ref a5])).length) Slot.unset).toArray = ls at hl ⊢
  have hl : lv_has ls 6 [(0, .ref h0), (1, .ref qf), (2, .int 0), (3, .int ck), (4, .ref a5)] := hl
  refine lv_aload_n hx hb d_FO_loadFrom_0 rfl (lv_at hl 1 rfl) ?_
  refine lv_iconst (v := 0) hx hb d_FO_loadFrom_1 (by decide) ?_
  refine lv_aload_n hx hb d_FO_loadFrom_2 rfl (lv_at hl 0 rfl) ?_
  refine va_get (D := (dC, dI)) (ci := 4) (v := .ref f0) (C := R_FO) (T := F_FO) (N := 15) hx hb hts in_FO hown hK hP 0 rfl rfl 0 (by decide) (hts _ (List.mem_cons_of_mem _ w_117)) (fun _ h9 => h9) rfl d_FO_loadFrom_3 ?_
  refine lv_iconst (v := 0) hx hb d_FO_loadFrom_6 (by decide) ?_
  refine lv_aload_n hx hb d_FO_loadFrom_7 rfl (lv_at hl 1 rfl) ?_
  refine va_alen (v := 1200) hx hb hK hP 4 1 rfl rfl (by show Int32.ofNat 1200 = 1200; decide +kernel) d_FO_loadFrom_8 ?_
  refine lv_aload_n hx hb d_FO_loadFrom_9 rfl (lv_at hl 0 rfl) ?_
  refine va_get (D := (dC, dI)) (ci := 4) (v := .ref f0) (C := R_FO) (T := F_FO) (N := 15) hx hb hts in_FO hown hK hP 0 rfl rfl 0 (by decide) (hts _ (List.mem_cons_of_mem _ w_117)) (fun _ h9 => h9) rfl d_FO_loadFrom_10 ?_
  refine va_alen (v := 1200) hx hb hK hP 1 0 rfl rfl (by show Int32.ofNat 1200 = 1200; decide +kernel) d_FO_loadFrom_13 ?_
  refine va_mmin hx hb (by rw [hml]; exact hl.1.symm) hown (hts _ (List.mem_cons_of_mem _ w_334)) (hts _ (List.mem_cons_of_mem _ w_335)) (hts _ (List.mem_cons_of_mem _ w_17)) (hts _ (List.mem_cons_of_mem _ w_336)) (Nat.le_of_ble_eq_true rfl) (Nat.le_of_ble_eq_true rfl) (Nat.le_of_ble_eq_true rfl) (Nat.le_of_ble_eq_true rfl) d_FO_loadFrom_14 ?_
  refine lv_ci (y := 1200) (by decide +kernel) ?_
  refine va_copyi (ty := .int) hx hb (by rw [hml]; exact hl.1.symm) hown (hts _ (List.mem_cons_of_mem _ w_337)) (hts _ (List.mem_cons_of_mem _ w_339)) (hts _ (List.mem_cons_of_mem _ w_338)) (hts _ (List.mem_cons_of_mem _ w_18)) hK hP hD hS 4 1 1 0 rfl rfl rfl rfl rfl (by decide +kernel) (by decide +kernel) (by decide +kernel) (by decide +kernel) (by decide +kernel) (fun _ _ => rfl) (Nat.le_of_ble_eq_true rfl) (by decide +kernel) d_FO_loadFrom_17 (fun H locs hP hD hS => ?_)
  have hP : va_P (dC, dI) cls_ [(h0, .inr (4, [.ref f0, .ref f1, .ref f2, .ref f3, .ref f4, .ref f5, .ref f6, .ref f7, .ref f8, .ref f9, .ref f10, .int 64, .int 0, .int 0, .int 0])), (f0, .inl (cA, 1200, .inl (va_cpy (fun _ => 0) (fun _ => 0) (Int32.toNatClampNeg 0) (Int32.toNatClampNeg 0) (Int32.toNatClampNeg 1200)))), (f1, .inr (2, [.ref qw, .ref qt, .int 0])), (qw, .inr (0, [.ref f0, .int 0, .int 0, .int 0])), (qf, .inl (cF, 1200, .inl (fun _ => 0)))] H := hP
  have hD : va_D A [(h0, .inr (4, [.ref f0, .ref f1, .ref f2, .ref f3, .ref f4, .ref f5, .ref f6, .ref f7, .ref f8, .ref f9, .ref f10, .int 64, .int 0, .int 0, .int 0])), (f0, .inl (cA, 1200, .inl (va_cpy (fun _ => 0) (fun _ => 0) (Int32.toNatClampNeg 0) (Int32.toNatClampNeg 0) (Int32.toNatClampNeg 1200)))), (f1, .inr (2, [.ref qw, .ref qt, .int 0])), (qw, .inr (0, [.ref f0, .int 0, .int 0, .int 0])), (qf, .inl (cF, 1200, .inl (fun _ => 0)))] := hD
  refine lv_aload_n hx hb d_FO_loadFrom_20 rfl (lv_at hl 0 rfl) ?_
  refine va_get (D := (dC, dI)) (ci := 4) (v := .ref f1) (C := R_FO) (T := F_FO) (N := 15) hx hb hts in_FO hown hK hP 0 rfl rfl 1 (by decide) (hts _ (List.mem_cons_of_mem _ w_118)) (fun _ h9 => h9) rfl d_FO_loadFrom_21 ?_
  refine lv_iload_n hx hb d_FO_loadFrom_24 rfl (lv_at hl 2 rfl) ?_
  have hPc := hP.sub (ws' := [(f1, .inr (2, [.ref qw, .ref qt, .int 0])), (qw, .inr (0, [.ref f0, .int 0, .int 0, .int 0])), (f0, .inl (cA, 1200, .inl (va_cpy (fun _ => 0) (fun _ => 0) (Int32.toNatClampNeg 0) (Int32.toNatClampNeg 0) (Int32.toNatClampNeg 1200))))]) [2, 3, 1] rfl
  have hDc := hD.sub (ws' := [(f1, .inr (2, [.ref qw, .ref qt, .int 0])), (qw, .inr (0, [.ref f0, .int 0, .int 0, .int 0])), (f0, .inl (cA, 1200, .inl (va_cpy (fun _ => 0) (fun _ => 0) (Int32.toNatClampNeg 0) (Int32.toNatClampNeg 0) (Int32.toNatClampNeg 1200))))]) [2, 3, 1] (by decide) rfl
  have hKc := hK.sub (tys' := [(cA, .int)]) [0] rfl
  have hFc := va_free (wc := [(f1, .inr (2, [.ref qw, .ref qt, .int 0])), (qw, .inr (0, [.ref f0, .int 0, .int 0, .int 0])), (f0, .inl (cA, 1200, .inl (va_cpy (fun _ => 0) (fun _ => 0) (Int32.toNatClampNeg 0) (Int32.toNatClampNeg 0) (Int32.toNatClampNeg 1200))))]) hD hS hA [2, 3, 1] rfl
  refine va_calli (va_runV (As := [.int 0]) (rest := []) ⟨hx, hb, hml, hown, hts⟩ (c_DI_isRight l dC dI f1 qw qt f0 cA (va_cpy (fun _ => 0) (fun _ => 0) (Int32.toNatClampNeg 0) (Int32.toNatClampNeg 0) (Int32.toNatClampNeg 1200)) H.size) (cwV 1 hts (tw_inV w_340 w_341 w_342 w_3 w_343) rfl rfl rfl (by decide +kernel) ⟨Nat.le_of_ble_eq_true rfl, Nat.le_of_ble_eq_true rfl⟩) ⟨fun a U g mk q => by obtain ⟨q0, q1, qP, qK, qD⟩ := q; exact ⟨q0, q1, qP, va_K.moved (u := U) (U := U.calling g mk a) (Vm.Alike.refl U.vm) qK, qD⟩, va_recv (hK := hK) (hP := hP) (q0 := 2) (ci := 2) rfl rfl, fun U hU hW => ⟨rfl, by rw [hU], by rw [hU]; exact hPc, va_K.moved hW.alike hKc, hDc.weaken (fun _ _ _ _ => trivial)⟩⟩ rfl rfl hl.1 rfl (lv_room (Nat.le_of_ble_eq_true rfl)) d_FO_loadFrom_25 ⟨Nat.le_of_ble_eq_true rfl, Nat.le_of_ble_eq_true rfl⟩) hS (fun q _ h => hFc q h) hFc (fun r152 u t H1 locs ht hvm hw hB hz1 hk1 hS => ?_)
  have hP1 : va_P (dC, dI) cls_ [] H1 := fun k q h => by simp at h
  have hD1 : va_D (va_A [(f1, .inr (2, [.ref qw, .ref qt, .int 0])), (qw, .inr (0, [.ref f0, .int 0, .int 0, .int 0])), (f0, .inl (cA, 1200, .inl (va_cpy (fun _ => 0) (fun _ => 0) (Int32.toNatClampNeg 0) (Int32.toNatClampNeg 0) (Int32.toNatClampNeg 1200))))] H.size) [] := ⟨fun i j p q h => by simp at h, fun k q h => by simp at h⟩
  obtain ⟨hP, hD⟩ := va_join (wr := [(h0, .inr (4, [.ref f0, .ref f1, .ref f2, .ref f3, .ref f4, .ref f5, .ref f6, .ref f7, .ref f8, .ref f9, .ref f10, .int 64, .int 0, .int 0, .int 0])), (qf, .inl (cF, 1200, .inl (fun _ => 0)))]) (w1 := []) hP hD [2, 3, 1] [0, 4] rfl rfl (by decide) (by decide) hk1 hFc hP1 hD1
  generalize H1 = H at hP hS ⊢
  have hP : va_P (dC, dI) cls_ [(h0, .inr (4, [.ref f0, .ref f1, .ref f2, .ref f3, .ref f4, .ref f5, .ref f6, .ref f7, .ref f8, .ref f9, .ref f10, .int 64, .int 0, .int 0, .int 0])), (qf, .inl (cF, 1200, .inl (fun _ => 0)))] H := hP
  have hD : va_D A [(h0, .inr (4, [.ref f0, .ref f1, .ref f2, .ref f3, .ref f4, .ref f5, .ref f6, .ref f7, .ref f8, .ref f9, .ref f10, .int 64, .int 0, .int 0, .int 0])), (qf, .inl (cF, 1200, .inl (fun _ => 0)))] := hD
  have hw : r152 = 0 := hw
  subst hw
  refine lv_if_ne (tgt := 33) hx hb d_FO_loadFrom_28 (by decide) (fun hc => absurd hc (by decide +kernel)) (fun _ => ?_)
  refine lv_iconst (v := (-1)) hx hb d_FO_loadFrom_31 (by decide) ?_
  refine W.widen (k := 0) (n := 0) (Nat.le_of_ble_eq_true rfl) (Nat.le_of_ble_eq_true rfl) ?_
  exact W.iret (v := (-1)) hx hb hr (fun t ht hW => ⟨⟨(-1), (), rfl, rfl, trivial⟩, hS.F ht⟩) hS.2.2 d_FO_loadFrom_32
set_option maxHeartbeats 4000000 in
set_option maxRecDepth 100000 in
/-- GlyphLines.load -/
theorem c_GL_load (l : Launch) (dC : Nat → ClassId) (dI : Nat → Nat → Nat) (h0 qf a2 a3 a5 a6 a7 qx : Nat) (cF : ClassId) (f0 f1 f2 f3 f4 f5 f6 f7 f8 f9 f10 qw qt : Nat) (cA : ClassId) (ck : Int32) (sz : Nat) : Met l y_GL_load s_GL_load ({ frames := 14, cells := 0, slots := 0, locals := 500 }) (va_Pc [.ref h0, .int ck] (fun U => U.heap.size = sz ∧ va_P (dC, dI) cls_ [(h0, .inr (9, [.ref qf, .int 0, .ref a2, .ref a3, .int 0, .ref a5, .ref a6, .ref a7, .ref qx, .int 0])), (qf, .inl (cF, 1200, .inl (fun _ => 0))), (a3, .inr (4, [.ref f0, .ref f1, .ref f2, .ref f3, .ref f4, .ref f5, .ref f6, .ref f7, .ref f8, .ref f9, .ref f10, .int 64, .int 0, .int 0, .int 0])), (f0, .inl (cA, 1200, .inl (fun _ => 0))), (f1, .inr (2, [.ref qw, .ref qt, .int 0])), (qw, .inr (0, [.ref f0, .int 0, .int 0, .int 0]))] U.heap ∧ va_K (dC, dI) cls_ [(cF, .int), (cA, .int)] U ∧ va_D (fun _ => True) [(h0, .inr (9, [.ref qf, .int 0, .ref a2, .ref a3, .int 0, .ref a5, .ref a6, .ref a7, .ref qx, .int 0])), (qf, .inl (cF, 1200, .inl (fun _ => 0))), (a3, .inr (4, [.ref f0, .ref f1, .ref f2, .ref f3, .ref f4, .ref f5, .ref f6, .ref f7, .ref f8, .ref f9, .ref f10, .int 64, .int 0, .int 0, .int 0])), (f0, .inl (cA, 1200, .inl (fun _ => 0))), (f1, .inr (2, [.ref qw, .ref qt, .int 0])), (qw, .inr (0, [.ref f0, .int 0, .int 0, .int 0]))])) (va_Qi (fun (r : Int32) (_ : Unit) => r = -1) (fun (_ : Unit) (t : State) => True) (va_A [(h0, .inr (9, [.ref qf, .int 0, .ref a2, .ref a3, .int 0, .ref a5, .ref a6, .ref a7, .ref qx, .int 0])), (qf, .inl (cF, 1200, .inl (fun _ => 0))), (a3, .inr (4, [.ref f0, .ref f1, .ref f2, .ref f3, .ref f4, .ref f5, .ref f6, .ref f7, .ref f8, .ref f9, .ref f10, .int 64, .int 0, .int 0, .int 0])), (f0, .inl (cA, 1200, .inl (fun _ => 0))), (f1, .inr (2, [.ref qw, .ref qt, .int 0])), (qw, .inr (0, [.ref f0, .int 0, .int 0, .int 0]))] sz)) 0 0 (va_A [(h0, .inr (9, [.ref qf, .int 0, .ref a2, .ref a3, .int 0, .ref a5, .ref a6, .ref a7, .ref qx, .int 0])), (qf, .inl (cF, 1200, .inl (fun _ => 0))), (a3, .inr (4, [.ref f0, .ref f1, .ref f2, .ref f3, .ref f4, .ref f5, .ref f6, .ref f7, .ref f8, .ref f9, .ref f10, .int 64, .int 0, .int 0, .int 0])), (f0, .inl (cA, 1200, .inl (fun _ => 0))), (f1, .inr (2, [.ref qw, .ref qt, .int 0])), (qw, .inr (0, [.ref f0, .int 0, .int 0, .int 0]))] sz) := by
  refine Met.ofW (cc := b_GL_load) (maxL := 4) (ret := (some .int)) (by decide) rfl ?_
  intro p e s m args below meth c s₁ B hml hv
  obtain ⟨rfl, hsz, hP, hK, hD0⟩ := hv
  have hx := B.exec
  have hb := B.bytes
  have hr := B.returns
  have hts := atoms_spec (ws := s_GL_load) B.pre
  have hown : s.vm.findClass R_GL = some m.cls := findClass_of_methodNamed B.named
  have hlocks := B.notSynchronized
  subst hsz
  have hD := hD0.self (sz := s.heap.size)
  generalize hAe : va_A [(h0, .inr (9, [.ref qf, .int 0, .ref a2, .ref a3, .int 0, .ref a5, .ref a6, .ref a7, .ref qx, .int 0])), (qf, .inl (cF, 1200, .inl (fun _ => 0))), (a3, .inr (4, [.ref f0, .ref f1, .ref f2, .ref f3, .ref f4, .ref f5, .ref f6, .ref f7, .ref f8, .ref f9, .ref f10, .int 64, .int 0, .int 0, .int 0])), (f0, .inl (cA, 1200, .inl (fun _ => 0))), (f1, .inr (2, [.ref qw, .ref qt, .int 0])), (qw, .inr (0, [.ref f0, .int 0, .int 0, .int 0]))] s.heap.size = A at hD ⊢
  have hA : ∀ q : Nat, s.heap.size ≤ q → A q := fun q h => by rw [← hAe]; exact Or.inr h
  have hS : va_S A s.heap s.heap [] := va_S.rf
  have hP : va_P (dC, dI) cls_ [(h0, .inr (9, [.ref qf, .int 0, .ref a2, .ref a3, .int 0, .ref a5, .ref a6, .ref a7, .ref qx, .int 0])), (qf, .inl (cF, 1200, .inl (fun _ => 0))), (a3, .inr (4, [.ref f0, .ref f1, .ref f2, .ref f3, .ref f4, .ref f5, .ref f6, .ref f7, .ref f8, .ref f9, .ref f10, .int 64, .int 0, .int 0, .int 0])), (f0, .inl (cA, 1200, .inl (fun _ => 0))), (f1, .inr (2, [.ref qw, .ref qt, .int 0])), (qw, .inr (0, [.ref f0, .int 0, .int 0, .int 0]))] s.heap := hP
  have hl := lv_entry ([.ref h0, .int ck]) (n := 4) (Nat.le_of_ble_eq_true rfl)
  rw [lg_entry_eq]
  generalize (lg_sl ([.ref h0, .int ck]) ++ List.replicate (4 - (lg_sl ([.ref h0, .int ck])).length) Slot.unset).toArray = ls at hl ⊢
  have hl : lv_has ls 4 [(0, .ref h0), (1, .int ck)] := hl
  refine lv_aload_n hx hb d_GL_load_0 rfl (lv_at hl 0 rfl) ?_
  refine va_get (D := (dC, dI)) (ci := 9) (v := .ref a3) (C := R_GL) (T := F_GL) (N := 10) hx hb hts in_GL hown hK hP 0 rfl rfl 3 (by decide) (hts _ (List.mem_cons_of_mem _ w_290)) (fun _ h9 => h9) rfl d_GL_load_1 ?_
  refine lv_aload_n hx hb d_GL_load_4 rfl (lv_at hl 0 rfl) ?_
  refine va_get (D := (dC, dI)) (ci := 9) (v := .ref qf) (C := R_GL) (T := F_GL) (N := 10) hx hb hts in_GL hown hK hP 0 rfl rfl 0 (by decide) (hts _ (List.mem_cons_of_mem _ w_287)) (fun _ h9 => h9) rfl d_GL_load_5 ?_
  refine lv_aload_n hx hb d_GL_load_8 rfl (lv_at hl 0 rfl) ?_
  refine va_get (D := (dC, dI)) (ci := 9) (v := .int 0) (C := R_GL) (T := F_GL) (N := 10) hx hb hts in_GL hown hK hP 0 rfl rfl 1 (by decide) (hts _ (List.mem_cons_of_mem _ w_288)) (fun _ h9 => h9) rfl d_GL_load_9 ?_
  refine lv_iload_n hx hb d_GL_load_12 rfl (lv_at hl 1 rfl) ?_
  refine lv_aload_n hx hb d_GL_load_13 rfl (lv_at hl 0 rfl) ?_
  refine va_get (D := (dC, dI)) (ci := 9) (v := .ref a5) (C := R_GL) (T := F_GL) (N := 10) hx hb hts in_GL hown hK hP 0 rfl rfl 5 (by decide) (hts _ (List.mem_cons_of_mem _ w_292)) (fun _ h9 => h9) rfl d_GL_load_14 ?_
  have hPc := hP.sub (ws' := [(a3, .inr (4, [.ref f0, .ref f1, .ref f2, .ref f3, .ref f4, .ref f5, .ref f6, .ref f7, .ref f8, .ref f9, .ref f10, .int 64, .int 0, .int 0, .int 0])), (f0, .inl (cA, 1200, .inl (fun _ => 0))), (f1, .inr (2, [.ref qw, .ref qt, .int 0])), (qw, .inr (0, [.ref f0, .int 0, .int 0, .int 0])), (qf, .inl (cF, 1200, .inl (fun _ => 0)))]) [2, 3, 4, 5, 1] rfl
  have hDc := hD.sub (ws' := [(a3, .inr (4, [.ref f0, .ref f1, .ref f2, .ref f3, .ref f4, .ref f5, .ref f6, .ref f7, .ref f8, .ref f9, .ref f10, .int 64, .int 0, .int 0, .int 0])), (f0, .inl (cA, 1200, .inl (fun _ => 0))), (f1, .inr (2, [.ref qw, .ref qt, .int 0])), (qw, .inr (0, [.ref f0, .int 0, .int 0, .int 0])), (qf, .inl (cF, 1200, .inl (fun _ => 0)))]) [2, 3, 4, 5, 1] (by decide) rfl
  have hKc := hK.sub (tys' := [(cA, .int), (cF, .int)]) [1, 0] rfl
  have hFc := va_free (wc := [(a3, .inr (4, [.ref f0, .ref f1, .ref f2, .ref f3, .ref f4, .ref f5, .ref f6, .ref f7, .ref f8, .ref f9, .ref f10, .int 64, .int 0, .int 0, .int 0])), (f0, .inl (cA, 1200, .inl (fun _ => 0))), (f1, .inr (2, [.ref qw, .ref qt, .int 0])), (qw, .inr (0, [.ref f0, .int 0, .int 0, .int 0])), (qf, .inl (cF, 1200, .inl (fun _ => 0)))]) hD hS hA [2, 3, 4, 5, 1] rfl
  refine va_calli (va_runV (As := [.ref qf, .int 0, .int ck, .ref a5]) (rest := []) ⟨hx, hb, hml, hown, hts⟩ (c_FO_loadFrom l dC dI a3 qf a5 cF f0 f1 f2 f3 f4 f5 f6 f7 f8 f9 f10 qw qt cA ck s.heap.size) (cwV 4 hts (tw_inV w_330 w_331 w_332 w_2 w_333) rfl rfl rfl (by decide +kernel) ⟨Nat.le_of_ble_eq_true rfl, Nat.le_of_ble_eq_true rfl⟩) ⟨fun a U g mk q => by obtain ⟨q0, q1, qP, qK, qD⟩ := q; exact ⟨q0, q1, qP, va_K.moved (u := U) (U := U.calling g mk a) (Vm.Alike.refl U.vm) qK, qD⟩, va_recv (hK := hK) (hP := hP) (q0 := 2) (ci := 4) rfl rfl, fun U hU hW => ⟨rfl, by rw [hU], by rw [hU]; exact hPc, va_K.moved hW.alike hKc, hDc.weaken (fun _ _ _ _ => trivial)⟩⟩ rfl rfl hl.1 rfl (lv_room (Nat.le_of_ble_eq_true rfl)) d_GL_load_17 ⟨Nat.le_of_ble_eq_true rfl, Nat.le_of_ble_eq_true rfl⟩) hS (fun q _ h => hFc q h) hFc (fun r153 u t H1 locs ht hvm hw hB hz1 hk1 hS => ?_)
  have hP1 : va_P (dC, dI) cls_ [] H1 := fun k q h => by simp at h
  have hD1 : va_D (va_A [(a3, .inr (4, [.ref f0, .ref f1, .ref f2, .ref f3, .ref f4, .ref f5, .ref f6, .ref f7, .ref f8, .ref f9, .ref f10, .int 64, .int 0, .int 0, .int 0])), (f0, .inl (cA, 1200, .inl (fun _ => 0))), (f1, .inr (2, [.ref qw, .ref qt, .int 0])), (qw, .inr (0, [.ref f0, .int 0, .int 0, .int 0])), (qf, .inl (cF, 1200, .inl (fun _ => 0)))] s.heap.size) [] := ⟨fun i j p q h => by simp at h, fun k q h => by simp at h⟩
  obtain ⟨hP, hD⟩ := va_join (wr := [(h0, .inr (9, [.ref qf, .int 0, .ref a2, .ref a3, .int 0, .ref a5, .ref a6, .ref a7, .ref qx, .int 0]))]) (w1 := []) hP hD [2, 3, 4, 5, 1] [0] rfl rfl (by decide) (by decide) hk1 hFc hP1 hD1
  generalize H1 = H at hP hS ⊢
  have hP : va_P (dC, dI) cls_ [(h0, .inr (9, [.ref qf, .int 0, .ref a2, .ref a3, .int 0, .ref a5, .ref a6, .ref a7, .ref qx, .int 0]))] H := hP
  have hD : va_D A [(h0, .inr (9, [.ref qf, .int 0, .ref a2, .ref a3, .int 0, .ref a5, .ref a6, .ref a7, .ref qx, .int 0]))] := hD
  have hw : r153 = (-1) := hw
  subst hw
  refine lv_istore_n (lv' := [(2, .int ((-1))), (0, .ref h0), (1, .int ck)]) hx hb d_GL_load_20 rfl hl (by decide) rfl (fun ls hl => ?_)
  refine lv_iload_n hx hb d_GL_load_21 rfl (lv_at hl 0 rfl) ?_
  refine lv_if_le (tgt := 48) hx hb d_GL_load_22 (by decide) (fun _ => ?_) (fun hc => absurd hc (by decide +kernel))
  refine lv_iload_n hx hb d_GL_load_48 rfl (lv_at hl 0 rfl) ?_
  refine W.widen (k := 0) (n := 0) (Nat.le_of_ble_eq_true rfl) (Nat.le_of_ble_eq_true rfl) ?_
  exact W.iret (v := (-1)) hx hb hr (fun t ht hW => ⟨⟨(-1), (), rfl, rfl, trivial⟩, hS.F ht⟩) hS.2.2 d_GL_load_49
end
