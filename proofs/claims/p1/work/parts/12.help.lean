abbrev b_LW_put : ByteArray := method_3_code
def y_LW_put : MethodName := ⟨R_LW, "put", "(LGlyphLines;II[J)I"⟩
def s_LW_put : List Cond := .codeWith y_LW_put b_LW_put 5 (some .int) [(0, 10, 13, 13), (0, 10, 17, 15)] :: tw_T
abbrev b_LW_glyph : ByteArray := method_5_code
def y_LW_glyph : MethodName := ⟨R_LW, "glyph", "(LGlyphLines;I[J)I"⟩
def s_LW_glyph : List Cond := .codeWith y_LW_glyph b_LW_glyph 4 (some .int) [(0, 9, 12, 24), (0, 9, 15, 15)] :: tw_T
abbrev b_LW_measure : ByteArray := method_6_code
def y_LW_measure : MethodName := ⟨R_LW, "measure", "(LGlyphLines;II[J)I"⟩
def s_LW_measure : List Cond := .codeWith y_LW_measure b_LW_measure 5 (some .int) [(0, 10, 13, 24), (0, 10, 17, 13)] :: tw_T
abbrev b_LW_point : ByteArray := method_7_code
def y_LW_point : MethodName := ⟨R_LW, "point", "(LGlyphLines;III[J)I"⟩
def s_LW_point : List Cond := .codeWith y_LW_point b_LW_point 6 (some .int) [(0, 12, 15, 24), (0, 12, 19, 13)] :: tw_T
abbrev b_LW_kerning : ByteArray := method_8_code
def y_LW_kerning : MethodName := ⟨R_LW, "kerning", "(LGlyphLines;II[J)I"⟩
def s_LW_kerning : List Cond := .codeWith y_LW_kerning b_LW_kerning 5 (some .int) [(0, 10, 13, 24), (0, 10, 17, 13)] :: tw_T
abbrev b_LW_paint : ByteArray := method_9_code
def y_LW_paint : MethodName := ⟨R_LW, "paint", "(LGlyphLines;I[J)I"⟩
def s_LW_paint : List Cond := .codeWith y_LW_paint b_LW_paint 4 (some .int) [(0, 9, 12, 24), (0, 9, 15, 15)] :: tw_T
abbrev b_LW_cut : ByteArray := method_4_code
def y_LW_cut : MethodName := ⟨R_LW, "cut", "(LGlyphLines;I[J)I"⟩
def s_LW_cut : List Cond := .codeWith y_LW_cut b_LW_cut 4 (some .int) [(0, 9, 12, 15)] :: tw_T
abbrev b_LW_row : ByteArray := method_10_code
def y_LW_row : MethodName := ⟨R_LW, "row", "(LGlyphLines;I[J)I"⟩
def s_LW_row : List Cond := .codeWith y_LW_row b_LW_row 4 (some .int) [(0, 8, 11, 13)] :: tw_T
theorem w_551 : (Jvm.Cond.classLink "GlyphLinesLaw" (13 : Nat) "java/lang/IndexOutOfBoundsException") ∈ tw_T := tw_of 551 (by decide +kernel) (by decide +kernel)
theorem w_552 : (Jvm.Cond.classLink "GlyphLinesLaw" (15 : Nat) "java/lang/IllegalArgumentException") ∈ tw_T := tw_of 552 (by decide +kernel) (by decide +kernel)
theorem w_553 : (Jvm.Cond.methodLink "GlyphLinesLaw" (7 : Nat) ({ cls := "GlyphLines", name := "put", desc := "(II)I" } : Jvm.MethodName)) ∈ tw_T := tw_of 553 (by decide +kernel) (by decide +kernel)
theorem w_554 : (Jvm.Cond.instanceMethod ({ cls := "GlyphLines", name := "put", desc := "(II)I" } : Jvm.MethodName)) ∈ tw_T := tw_of 554 (by decide +kernel) (by decide +kernel)
theorem w_555 : (Jvm.Cond.selects "GlyphLines" ({ cls := "GlyphLines", name := "put", desc := "(II)I" } : Jvm.MethodName) ({ cls := "GlyphLines", name := "put", desc := "(II)I" } : Jvm.MethodName)) ∈ tw_T := tw_of 555 (by decide +kernel) (by decide +kernel)
theorem w_556 : (Jvm.Cond.code ({ cls := "GlyphLines", name := "put", desc := "(II)I" } : Jvm.MethodName) prog_1_method_3_code (4 : Nat) (Option.some Jvm.ClassFile.FieldType.int)) ∈ tw_T := tw_of 556 (by decide +kernel) (by decide +kernel)
theorem w_644 : (Jvm.Cond.methodLink "GlyphLinesLaw" (17 : Nat) ({ cls := "GlyphLines", name := "cut", desc := "(I)I" } : Jvm.MethodName)) ∈ tw_T := tw_of 644 (by decide +kernel) (by decide +kernel)
theorem w_645 : (Jvm.Cond.instanceMethod ({ cls := "GlyphLines", name := "cut", desc := "(I)I" } : Jvm.MethodName)) ∈ tw_T := tw_of 645 (by decide +kernel) (by decide +kernel)
theorem w_646 : (Jvm.Cond.selects "GlyphLines" ({ cls := "GlyphLines", name := "cut", desc := "(I)I" } : Jvm.MethodName) ({ cls := "GlyphLines", name := "cut", desc := "(I)I" } : Jvm.MethodName)) ∈ tw_T := tw_of 646 (by decide +kernel) (by decide +kernel)
theorem w_647 : (Jvm.Cond.code ({ cls := "GlyphLines", name := "cut", desc := "(I)I" } : Jvm.MethodName) prog_1_method_5_code (4 : Nat) (Option.some Jvm.ClassFile.FieldType.int)) ∈ tw_T := tw_of 647 (by decide +kernel) (by decide +kernel)
theorem w_653 : (Jvm.Cond.classLink "GlyphLinesLaw" (24 : Nat) "java/lang/IllegalStateException") ∈ tw_T := tw_of 653 (by decide +kernel) (by decide +kernel)
theorem w_654 : (Jvm.Cond.methodLink "GlyphLinesLaw" (21 : Nat) ({ cls := "GlyphLines", name := "glyph", desc := "(I)I" } : Jvm.MethodName)) ∈ tw_T := tw_of 654 (by decide +kernel) (by decide +kernel)
theorem w_655 : (Jvm.Cond.instanceMethod ({ cls := "GlyphLines", name := "glyph", desc := "(I)I" } : Jvm.MethodName)) ∈ tw_T := tw_of 655 (by decide +kernel) (by decide +kernel)
theorem w_656 : (Jvm.Cond.selects "GlyphLines" ({ cls := "GlyphLines", name := "glyph", desc := "(I)I" } : Jvm.MethodName) ({ cls := "GlyphLines", name := "glyph", desc := "(I)I" } : Jvm.MethodName)) ∈ tw_T := tw_of 656 (by decide +kernel) (by decide +kernel)
theorem w_657 : (Jvm.Cond.code ({ cls := "GlyphLines", name := "glyph", desc := "(I)I" } : Jvm.MethodName) prog_1_method_7_code (2 : Nat) (Option.some Jvm.ClassFile.FieldType.int)) ∈ tw_T := tw_of 657 (by decide +kernel) (by decide +kernel)
theorem w_695 : (Jvm.Cond.methodLink "GlyphLinesLaw" (26 : Nat) ({ cls := "GlyphLines", name := "measure", desc := "(II)I" } : Jvm.MethodName)) ∈ tw_T := tw_of 695 (by decide +kernel) (by decide +kernel)
theorem w_696 : (Jvm.Cond.instanceMethod ({ cls := "GlyphLines", name := "measure", desc := "(II)I" } : Jvm.MethodName)) ∈ tw_T := tw_of 696 (by decide +kernel) (by decide +kernel)
theorem w_697 : (Jvm.Cond.selects "GlyphLines" ({ cls := "GlyphLines", name := "measure", desc := "(II)I" } : Jvm.MethodName) ({ cls := "GlyphLines", name := "measure", desc := "(II)I" } : Jvm.MethodName)) ∈ tw_T := tw_of 697 (by decide +kernel) (by decide +kernel)
theorem w_698 : (Jvm.Cond.code ({ cls := "GlyphLines", name := "measure", desc := "(II)I" } : Jvm.MethodName) prog_1_method_8_code (3 : Nat) (Option.some Jvm.ClassFile.FieldType.int)) ∈ tw_T := tw_of 698 (by decide +kernel) (by decide +kernel)
theorem w_713 : (Jvm.Cond.methodLink "GlyphLinesLaw" (29 : Nat) ({ cls := "GlyphLines", name := "point", desc := "(III)I" } : Jvm.MethodName)) ∈ tw_T := tw_of 713 (by decide +kernel) (by decide +kernel)
theorem w_714 : (Jvm.Cond.instanceMethod ({ cls := "GlyphLines", name := "point", desc := "(III)I" } : Jvm.MethodName)) ∈ tw_T := tw_of 714 (by decide +kernel) (by decide +kernel)
theorem w_715 : (Jvm.Cond.selects "GlyphLines" ({ cls := "GlyphLines", name := "point", desc := "(III)I" } : Jvm.MethodName) ({ cls := "GlyphLines", name := "point", desc := "(III)I" } : Jvm.MethodName)) ∈ tw_T := tw_of 715 (by decide +kernel) (by decide +kernel)
theorem w_716 : (Jvm.Cond.code ({ cls := "GlyphLines", name := "point", desc := "(III)I" } : Jvm.MethodName) prog_1_method_9_code (4 : Nat) (Option.some Jvm.ClassFile.FieldType.int)) ∈ tw_T := tw_of 716 (by decide +kernel) (by decide +kernel)
theorem w_722 : (Jvm.Cond.methodLink "GlyphLinesLaw" (33 : Nat) ({ cls := "GlyphLines", name := "kerning", desc := "(II)I" } : Jvm.MethodName)) ∈ tw_T := tw_of 722 (by decide +kernel) (by decide +kernel)
theorem w_723 : (Jvm.Cond.instanceMethod ({ cls := "GlyphLines", name := "kerning", desc := "(II)I" } : Jvm.MethodName)) ∈ tw_T := tw_of 723 (by decide +kernel) (by decide +kernel)
theorem w_724 : (Jvm.Cond.selects "GlyphLines" ({ cls := "GlyphLines", name := "kerning", desc := "(II)I" } : Jvm.MethodName) ({ cls := "GlyphLines", name := "kerning", desc := "(II)I" } : Jvm.MethodName)) ∈ tw_T := tw_of 724 (by decide +kernel) (by decide +kernel)
theorem w_725 : (Jvm.Cond.code ({ cls := "GlyphLines", name := "kerning", desc := "(II)I" } : Jvm.MethodName) prog_1_method_10_code (3 : Nat) (Option.some Jvm.ClassFile.FieldType.int)) ∈ tw_T := tw_of 725 (by decide +kernel) (by decide +kernel)
theorem w_737 : (Jvm.Cond.methodLink "GlyphLinesLaw" (36 : Nat) ({ cls := "GlyphLines", name := "paint", desc := "(I)I" } : Jvm.MethodName)) ∈ tw_T := tw_of 737 (by decide +kernel) (by decide +kernel)
theorem w_738 : (Jvm.Cond.instanceMethod ({ cls := "GlyphLines", name := "paint", desc := "(I)I" } : Jvm.MethodName)) ∈ tw_T := tw_of 738 (by decide +kernel) (by decide +kernel)
theorem w_739 : (Jvm.Cond.selects "GlyphLines" ({ cls := "GlyphLines", name := "paint", desc := "(I)I" } : Jvm.MethodName) ({ cls := "GlyphLines", name := "paint", desc := "(I)I" } : Jvm.MethodName)) ∈ tw_T := tw_of 739 (by decide +kernel) (by decide +kernel)
theorem w_740 : (Jvm.Cond.code ({ cls := "GlyphLines", name := "paint", desc := "(I)I" } : Jvm.MethodName) prog_1_method_13_code (3 : Nat) (Option.some Jvm.ClassFile.FieldType.int)) ∈ tw_T := tw_of 740 (by decide +kernel) (by decide +kernel)
theorem w_841 : (Jvm.Cond.methodLink "GlyphLinesLaw" (39 : Nat) ({ cls := "GlyphLines", name := "row", desc := "(I)J" } : Jvm.MethodName)) ∈ tw_T := tw_of 841 (by decide +kernel) (by decide +kernel)
theorem w_842 : (Jvm.Cond.instanceMethod ({ cls := "GlyphLines", name := "row", desc := "(I)J" } : Jvm.MethodName)) ∈ tw_T := tw_of 842 (by decide +kernel) (by decide +kernel)
theorem w_843 : (Jvm.Cond.selects "GlyphLines" ({ cls := "GlyphLines", name := "row", desc := "(I)J" } : Jvm.MethodName) ({ cls := "GlyphLines", name := "row", desc := "(I)J" } : Jvm.MethodName)) ∈ tw_T := tw_of 843 (by decide +kernel) (by decide +kernel)
theorem w_844 : (Jvm.Cond.code ({ cls := "GlyphLines", name := "row", desc := "(I)J" } : Jvm.MethodName) prog_1_method_14_code (2 : Nat) (Option.some Jvm.ClassFile.FieldType.long)) ∈ tw_T := tw_of 844 (by decide +kernel) (by decide +kernel)
theorem d_LW_cut_0 : decode b_LW_cut 0 = .ok (.aload_n 2, 1) := by decide +kernel
theorem d_LW_cut_1 : decode b_LW_cut 1 = .ok (.iconst 0, 1) := by decide +kernel
theorem d_LW_cut_12 : decode b_LW_cut 12 = .ok (.astore_n 3, 1) := by decide +kernel
theorem d_LW_cut_13 : decode b_LW_cut 13 = .ok (.iconst 1, 1) := by decide +kernel
theorem d_LW_cut_14 : decode b_LW_cut 14 = .ok (.ireturn, 1) := by decide +kernel
theorem d_LW_cut_15 : decode b_LW_cut 15 = .ok (.iconst 0, 1) := by decide +kernel
theorem d_LW_cut_16 : decode b_LW_cut 16 = .ok (.ireturn, 1) := by decide +kernel
theorem d_LW_cut_2 : decode b_LW_cut 2 = .ok (.aload_n 0, 1) := by decide +kernel
theorem d_LW_cut_3 : decode b_LW_cut 3 = .ok (.iload_n 1, 1) := by decide +kernel
theorem d_LW_cut_4 : decode b_LW_cut 4 = .ok (.invokevirtual 17, 3) := by decide +kernel
theorem d_LW_cut_7 : decode b_LW_cut 7 = .ok (.i2l, 1) := by decide +kernel
theorem d_LW_cut_8 : decode b_LW_cut 8 = .ok (.lastore, 1) := by decide +kernel
theorem d_LW_cut_9 : decode b_LW_cut 9 = .ok (.goto (6), 3) := by decide +kernel
theorem d_LW_glyph_0 : decode b_LW_glyph 0 = .ok (.aload_n 2, 1) := by decide +kernel
theorem d_LW_glyph_1 : decode b_LW_glyph 1 = .ok (.iconst 0, 1) := by decide +kernel
theorem d_LW_glyph_12 : decode b_LW_glyph 12 = .ok (.astore_n 3, 1) := by decide +kernel
theorem d_LW_glyph_13 : decode b_LW_glyph 13 = .ok (.iconst 1, 1) := by decide +kernel
theorem d_LW_glyph_14 : decode b_LW_glyph 14 = .ok (.ireturn, 1) := by decide +kernel
theorem d_LW_glyph_2 : decode b_LW_glyph 2 = .ok (.aload_n 0, 1) := by decide +kernel
theorem d_LW_glyph_3 : decode b_LW_glyph 3 = .ok (.iload_n 1, 1) := by decide +kernel
theorem d_LW_glyph_4 : decode b_LW_glyph 4 = .ok (.invokevirtual 21, 3) := by decide +kernel
theorem d_LW_kerning_0 : decode b_LW_kerning 0 = .ok (.aload_n 3, 1) := by decide +kernel
theorem d_LW_kerning_1 : decode b_LW_kerning 1 = .ok (.iconst 0, 1) := by decide +kernel
theorem d_LW_kerning_13 : decode b_LW_kerning 13 = .ok (.astore 4, 2) := by decide +kernel
theorem d_LW_kerning_15 : decode b_LW_kerning 15 = .ok (.iconst 1, 1) := by decide +kernel
theorem d_LW_kerning_16 : decode b_LW_kerning 16 = .ok (.ireturn, 1) := by decide +kernel
theorem d_LW_kerning_2 : decode b_LW_kerning 2 = .ok (.aload_n 0, 1) := by decide +kernel
theorem d_LW_kerning_3 : decode b_LW_kerning 3 = .ok (.iload_n 1, 1) := by decide +kernel
theorem d_LW_kerning_4 : decode b_LW_kerning 4 = .ok (.iload_n 2, 1) := by decide +kernel
theorem d_LW_kerning_5 : decode b_LW_kerning 5 = .ok (.invokevirtual 33, 3) := by decide +kernel
theorem d_LW_measure_0 : decode b_LW_measure 0 = .ok (.aload_n 3, 1) := by decide +kernel
theorem d_LW_measure_1 : decode b_LW_measure 1 = .ok (.iconst 0, 1) := by decide +kernel
theorem d_LW_measure_13 : decode b_LW_measure 13 = .ok (.astore 4, 2) := by decide +kernel
theorem d_LW_measure_15 : decode b_LW_measure 15 = .ok (.iconst 1, 1) := by decide +kernel
theorem d_LW_measure_16 : decode b_LW_measure 16 = .ok (.ireturn, 1) := by decide +kernel
theorem d_LW_measure_2 : decode b_LW_measure 2 = .ok (.aload_n 0, 1) := by decide +kernel
theorem d_LW_measure_3 : decode b_LW_measure 3 = .ok (.iload_n 1, 1) := by decide +kernel
theorem d_LW_measure_4 : decode b_LW_measure 4 = .ok (.iload_n 2, 1) := by decide +kernel
theorem d_LW_measure_5 : decode b_LW_measure 5 = .ok (.invokevirtual 26, 3) := by decide +kernel
theorem d_LW_paint_0 : decode b_LW_paint 0 = .ok (.aload_n 2, 1) := by decide +kernel
theorem d_LW_paint_1 : decode b_LW_paint 1 = .ok (.iconst 0, 1) := by decide +kernel
theorem d_LW_paint_12 : decode b_LW_paint 12 = .ok (.astore_n 3, 1) := by decide +kernel
theorem d_LW_paint_13 : decode b_LW_paint 13 = .ok (.iconst 1, 1) := by decide +kernel
theorem d_LW_paint_14 : decode b_LW_paint 14 = .ok (.ireturn, 1) := by decide +kernel
theorem d_LW_paint_2 : decode b_LW_paint 2 = .ok (.aload_n 0, 1) := by decide +kernel
theorem d_LW_paint_3 : decode b_LW_paint 3 = .ok (.iload_n 1, 1) := by decide +kernel
theorem d_LW_paint_4 : decode b_LW_paint 4 = .ok (.invokevirtual 36, 3) := by decide +kernel
theorem d_LW_point_0 : decode b_LW_point 0 = .ok (.aload 4, 2) := by decide +kernel
theorem d_LW_point_15 : decode b_LW_point 15 = .ok (.astore 5, 2) := by decide +kernel
theorem d_LW_point_17 : decode b_LW_point 17 = .ok (.iconst 1, 1) := by decide +kernel
theorem d_LW_point_18 : decode b_LW_point 18 = .ok (.ireturn, 1) := by decide +kernel
theorem d_LW_point_2 : decode b_LW_point 2 = .ok (.iconst 0, 1) := by decide +kernel
theorem d_LW_point_3 : decode b_LW_point 3 = .ok (.aload_n 0, 1) := by decide +kernel
theorem d_LW_point_4 : decode b_LW_point 4 = .ok (.iload_n 1, 1) := by decide +kernel
theorem d_LW_point_5 : decode b_LW_point 5 = .ok (.iload_n 2, 1) := by decide +kernel
theorem d_LW_point_6 : decode b_LW_point 6 = .ok (.iload_n 3, 1) := by decide +kernel
theorem d_LW_point_7 : decode b_LW_point 7 = .ok (.invokevirtual 29, 3) := by decide +kernel
theorem d_LW_put_0 : decode b_LW_put 0 = .ok (.aload_n 3, 1) := by decide +kernel
theorem d_LW_put_1 : decode b_LW_put 1 = .ok (.iconst 0, 1) := by decide +kernel
theorem d_LW_put_13 : decode b_LW_put 13 = .ok (.astore 4, 2) := by decide +kernel
theorem d_LW_put_15 : decode b_LW_put 15 = .ok (.iconst 1, 1) := by decide +kernel
theorem d_LW_put_16 : decode b_LW_put 16 = .ok (.ireturn, 1) := by decide +kernel
theorem d_LW_put_2 : decode b_LW_put 2 = .ok (.aload_n 0, 1) := by decide +kernel
theorem d_LW_put_3 : decode b_LW_put 3 = .ok (.iload_n 1, 1) := by decide +kernel
theorem d_LW_put_4 : decode b_LW_put 4 = .ok (.iload_n 2, 1) := by decide +kernel
theorem d_LW_put_5 : decode b_LW_put 5 = .ok (.invokevirtual 7, 3) := by decide +kernel
theorem d_LW_row_0 : decode b_LW_row 0 = .ok (.aload_n 2, 1) := by decide +kernel
theorem d_LW_row_1 : decode b_LW_row 1 = .ok (.iconst 0, 1) := by decide +kernel
theorem d_LW_row_11 : decode b_LW_row 11 = .ok (.astore_n 3, 1) := by decide +kernel
theorem d_LW_row_12 : decode b_LW_row 12 = .ok (.iconst 1, 1) := by decide +kernel
theorem d_LW_row_13 : decode b_LW_row 13 = .ok (.ireturn, 1) := by decide +kernel
theorem d_LW_row_14 : decode b_LW_row 14 = .ok (.iconst 0, 1) := by decide +kernel
theorem d_LW_row_15 : decode b_LW_row 15 = .ok (.ireturn, 1) := by decide +kernel
theorem d_LW_row_2 : decode b_LW_row 2 = .ok (.aload_n 0, 1) := by decide +kernel
theorem d_LW_row_3 : decode b_LW_row 3 = .ok (.iload_n 1, 1) := by decide +kernel
theorem d_LW_row_4 : decode b_LW_row 4 = .ok (.invokevirtual 39, 3) := by decide +kernel
theorem d_LW_row_7 : decode b_LW_row 7 = .ok (.lastore, 1) := by decide +kernel
theorem d_LW_row_8 : decode b_LW_row 8 = .ok (.goto (6), 3) := by decide +kernel
theorem th_tab {p : Program} {l : Launch} {y : MethodName} {ws : List Cond} {rm : Room} {cc : ByteArray} {maxL : Nat} {ret : Option FieldType} {e : Env} {s : State} {m : MethodId} {args : Array Value} {below : List Frame} {meth : Method} {c : Code} {s₁ : State} {a1 a2 a3 a4 : Nat} {r : List (Nat × Nat × Nat × Nat)} (B : BodyLoose p l y (headSpec ws rm) cc maxL ret e s m args below meth c s₁) (h : (Cond.codeWith y cc maxL ret ((a1, a2, a3, a4) :: r)).before args s = true) :
    ∃ (ent : ExceptionTableEntry) (ents : List ExceptionTableEntry), c.exceptionTable.toList = ent :: ents ∧ ent.startPc = a1 ∧ ent.endPc = a2 ∧ ent.handlerPc = a3 ∧ ent.catchType = a4 := by
  obtain ⟨m9, meth9, c9, hn9, h1, h2, -, -, h5, -⟩ := Cond.codeWith_spec h
  cases B.named.symm.trans hn9
  cases B.method.symm.trans h1
  cases (Stand.of_body B).code.symm.trans h2
  cases ht : c.exceptionTable.toList with
  | nil => rw [ht] at h5; cases h5
  | cons x t =>
    rw [ht] at h5
    simp only [List.map_cons, List.cons.injEq, Prod.mk.injEq] at h5
    exact ⟨x, t, rfl, h5.1.1, h5.1.2.1, h5.1.2.2.1, h5.1.2.2.2⟩
set_option maxHeartbeats 4000000 in
set_option maxRecDepth 100000 in
/-- GlyphLinesLaw.put -/
theorem c_LW_put (l : Launch) (hfl : l.flags = flags0) (dC : Nat → ClassId) (dI : Nat → Nat → Nat) (h0 qf a2 a3 a5 a6 a7 qx : Nat) (i b : Int32) (qo : Nat) (sz : Nat) : Met l y_LW_put s_LW_put ({ frames := 16, cells := 1, slots := 6, locals := 600 }) (va_Pc [.ref h0, .int i, .int b, .ref qo] (fun U => U.heap.size = sz ∧ va_P (dC, dI) cls_ [(h0, .inr (9, [.ref qf, .int 0, .ref a2, .ref a3, .int 0, .ref a5, .ref a6, .ref a7, .ref qx, .int 0]))] U.heap ∧ va_K (dC, dI) cls_ [] U ∧ va_D (fun _ => True) [(h0, .inr (9, [.ref qf, .int 0, .ref a2, .ref a3, .int 0, .ref a5, .ref a6, .ref a7, .ref qx, .int 0]))] ∧ th_All U)) (va_Qi (fun (r : Int32) (_ : Unit) => r = 1) (fun (_ : Unit) (t : State) => True) (va_A [(h0, .inr (9, [.ref qf, .int 0, .ref a2, .ref a3, .int 0, .ref a5, .ref a6, .ref a7, .ref qx, .int 0]))] sz)) 1 6 (va_A [(h0, .inr (9, [.ref qf, .int 0, .ref a2, .ref a3, .int 0, .ref a5, .ref a6, .ref a7, .ref qx, .int 0]))] sz) := by
  refine va_MetW (cc := b_LW_put) (maxL := 5) (ret := (some .int)) (hh := [(0, 10, 13, 13), (0, 10, 17, 15)]) (by decide) rfl ?_
  intro p e s m args below meth c s₁ B hml hv
  obtain ⟨rfl, hsz, hP, hK, hD0, hT9⟩ := hv
  have hx := B.exec
  have hb := B.bytes
  have hr := B.returns
  have hts := atoms_spec (ws := s_LW_put) B.pre
  have hown : s.vm.findClass R_LW = some m.cls := findClass_of_methodNamed B.named
  have hlocks := B.notSynchronized
  obtain ⟨⟨sp9, ep9, hp9, ct9⟩, ents, htab, rfl, rfl, rfl, rfl⟩ := th_tab B (hts _ List.mem_cons_self)
  have hH : ∀ q : Nat, q < s.heap.size → s.heap[q]? = s.heap[q]? := fun _ _ => rfl
  subst hsz
  have hD := hD0.self (sz := s.heap.size)
  generalize hAe : va_A [(h0, .inr (9, [.ref qf, .int 0, .ref a2, .ref a3, .int 0, .ref a5, .ref a6, .ref a7, .ref qx, .int 0]))] s.heap.size = A at hD ⊢
  have hA : ∀ q : Nat, s.heap.size ≤ q → A q := fun q h => by rw [← hAe]; exact Or.inr h
  have hS : va_S A s.heap s.heap [] := va_S.rf
  have hP : va_P (dC, dI) cls_ [(h0, .inr (9, [.ref qf, .int 0, .ref a2, .ref a3, .int 0, .ref a5, .ref a6, .ref a7, .ref qx, .int 0]))] s.heap := hP
  have hl := lv_entry ([.ref h0, .int i, .int b, .ref qo]) (n := 5) (Nat.le_of_ble_eq_true rfl)
  rw [lg_entry_eq]
  generalize (lg_sl ([.ref h0, .int i, .int b, .ref qo]) ++ List.replicate (5 - (lg_sl ([.ref h0, .int i, .int b, .ref qo])).length) Slot.unset).toArray = ls at hl ⊢
  have hl : lv_has ls 5 [(0, .ref h0), (1, .int i), (2, .int b), (3, .ref qo)] := hl
  refine lv_aload_n hx hb d_LW_put_0 rfl (lv_at hl 3 rfl) ?_
  refine lv_iconst (v := 0) hx hb d_LW_put_1 (by decide) ?_
  refine lv_aload_n hx hb d_LW_put_2 rfl (lv_at hl 0 rfl) ?_
  refine lv_iload_n hx hb d_LW_put_3 rfl (lv_at hl 1 rfl) ?_
  refine lv_iload_n hx hb d_LW_put_4 rfl (lv_at hl 2 rfl) ?_
  have hPc := hP.sub (ws' := [(h0, .inr (9, [.ref qf, .int 0, .ref a2, .ref a3, .int 0, .ref a5, .ref a6, .ref a7, .ref qx, .int 0]))]) [0] rfl
  have hDc := hD.sub (ws' := [(h0, .inr (9, [.ref qf, .int 0, .ref a2, .ref a3, .int 0, .ref a5, .ref a6, .ref a7, .ref qx, .int 0]))]) [0] (by decide) rfl
  have hKc := hK.sub (tys' := []) [] rfl
  have hFc := va_free (wc := [(h0, .inr (9, [.ref qf, .int 0, .ref a2, .ref a3, .int 0, .ref a5, .ref a6, .ref a7, .ref qx, .int 0]))]) hD hS hA [0] rfl
  refine th_takeV (As := [.int i, .int b]) (rest := [.int 0, .ref qo]) ⟨hx, hb, hml, hown, hts⟩ (c_GL_put l hfl dC dI h0 qf a2 a3 a5 a6 a7 qx i b s.heap.size) (cwV 2 hts (tw_inV w_553 w_554 w_555 w_1 w_556) rfl rfl rfl (by decide +kernel) ⟨Nat.le_of_ble_eq_true rfl, Nat.le_of_ble_eq_true rfl⟩) ⟨fun a U g mk q => by obtain ⟨q0, q1, qP, qK, qD, qE0⟩ := q; exact ⟨q0, q1, qP, va_K.moved (u := U) (U := U.calling g mk a) (Vm.Alike.refl U.vm) qK, qD, th_All.call qE0⟩, va_recv (hK := hK) (hP := hP) (q0 := 0) (ci := 9) rfl rfl, fun U hU hW => ⟨rfl, by rw [hU], by rw [hU]; exact hPc, va_K.moved hW.alike hKc, hDc.weaken (fun _ _ _ _ => trivial), hT9.to hW (by rw [hU]; exact hH)⟩⟩ rfl hl.1 (Nat.le_of_ble_eq_true rfl) d_LW_put_5 ⟨Nat.le_of_ble_eq_true rfl, Nat.le_of_ble_eq_true rfl⟩ htab (by decide) (by decide) (hts _ (List.mem_cons_of_mem _ w_551)) (fun x9 H hz9 hk9 => ?_)
  have hS : va_S A s.heap H [] := ⟨hz9, fun q h _ => hk9 q h, fun _ h => by cases h⟩
  refine lv_astore (lv' := [(4, .ref x9), (0, .ref h0), (1, .int i), (2, .int b), (3, .ref qo)]) hx hb d_LW_put_13 hl (by decide) rfl (fun ls hl => ?_)
  refine lv_iconst (v := 1) hx hb d_LW_put_15 (by decide) ?_
  refine W.widen (k := 1) (n := 6) (Nat.le_of_ble_eq_true rfl) (Nat.le_of_ble_eq_true rfl) ?_
  exact W.iret (v := 1) hx hb hr (fun t ht hW => ⟨⟨1, (), rfl, rfl, trivial⟩, hS.F ht⟩) hS.2.2 d_LW_put_16
set_option maxHeartbeats 4000000 in
set_option maxRecDepth 100000 in
/-- GlyphLinesLaw.glyph -/
theorem c_LW_glyph (l : Launch) (hfl : l.flags = flags0) (dC : Nat → ClassId) (dI : Nat → Nat → Nat) (h0 qf a2 a3 a5 a6 a7 qx : Nat) (ch : Int32) (qo : Nat) (sz : Nat) : Met l y_LW_glyph s_LW_glyph ({ frames := 16, cells := 1, slots := 6, locals := 600 }) (va_Pc [.ref h0, .int ch, .ref qo] (fun U => U.heap.size = sz ∧ va_P (dC, dI) cls_ [(h0, .inr (9, [.ref qf, .int 0, .ref a2, .ref a3, .int 0, .ref a5, .ref a6, .ref a7, .ref qx, .int 0]))] U.heap ∧ va_K (dC, dI) cls_ [] U ∧ va_D (fun _ => True) [(h0, .inr (9, [.ref qf, .int 0, .ref a2, .ref a3, .int 0, .ref a5, .ref a6, .ref a7, .ref qx, .int 0]))] ∧ th_All U)) (va_Qi (fun (r : Int32) (_ : Unit) => r = 1) (fun (_ : Unit) (t : State) => True) (va_A [(h0, .inr (9, [.ref qf, .int 0, .ref a2, .ref a3, .int 0, .ref a5, .ref a6, .ref a7, .ref qx, .int 0]))] sz)) 1 6 (va_A [(h0, .inr (9, [.ref qf, .int 0, .ref a2, .ref a3, .int 0, .ref a5, .ref a6, .ref a7, .ref qx, .int 0]))] sz) := by
  refine va_MetW (cc := b_LW_glyph) (maxL := 4) (ret := (some .int)) (hh := [(0, 9, 12, 24), (0, 9, 15, 15)]) (by decide) rfl ?_
  intro p e s m args below meth c s₁ B hml hv
  obtain ⟨rfl, hsz, hP, hK, hD0, hT9⟩ := hv
  have hx := B.exec
  have hb := B.bytes
  have hr := B.returns
  have hts := atoms_spec (ws := s_LW_glyph) B.pre
  have hown : s.vm.findClass R_LW = some m.cls := findClass_of_methodNamed B.named
  have hlocks := B.notSynchronized
  obtain ⟨⟨sp9, ep9, hp9, ct9⟩, ents, htab, rfl, rfl, rfl, rfl⟩ := th_tab B (hts _ List.mem_cons_self)
  have hH : ∀ q : Nat, q < s.heap.size → s.heap[q]? = s.heap[q]? := fun _ _ => rfl
  subst hsz
  have hD := hD0.self (sz := s.heap.size)
  generalize hAe : va_A [(h0, .inr (9, [.ref qf, .int 0, .ref a2, .ref a3, .int 0, .ref a5, .ref a6, .ref a7, .ref qx, .int 0]))] s.heap.size = A at hD ⊢
  have hA : ∀ q : Nat, s.heap.size ≤ q → A q := fun q h => by rw [← hAe]; exact Or.inr h
  have hS : va_S A s.heap s.heap [] := va_S.rf
  have hP : va_P (dC, dI) cls_ [(h0, .inr (9, [.ref qf, .int 0, .ref a2, .ref a3, .int 0, .ref a5, .ref a6, .ref a7, .ref qx, .int 0]))] s.heap := hP
  have hl := lv_entry ([.ref h0, .int ch, .ref qo]) (n := 4) (Nat.le_of_ble_eq_true rfl)
  rw [lg_entry_eq]
  generalize (lg_sl ([.ref h0, .int ch, .ref qo]) ++ List.replicate (4 - (lg_sl ([.ref h0, .int ch, .ref qo])).length) Slot.unset).toArray = ls at hl ⊢
  have hl : lv_has ls 4 [(0, .ref h0), (1, .int ch), (2, .ref qo)] := hl
  refine lv_aload_n hx hb d_LW_glyph_0 rfl (lv_at hl 2 rfl) ?_
  refine lv_iconst (v := 0) hx hb d_LW_glyph_1 (by decide) ?_
  refine lv_aload_n hx hb d_LW_glyph_2 rfl (lv_at hl 0 rfl) ?_
  refine lv_iload_n hx hb d_LW_glyph_3 rfl (lv_at hl 1 rfl) ?_
  have hPc := hP.sub (ws' := [(h0, .inr (9, [.ref qf, .int 0, .ref a2, .ref a3, .int 0, .ref a5, .ref a6, .ref a7, .ref qx, .int 0]))]) [0] rfl
  have hDc := hD.sub (ws' := [(h0, .inr (9, [.ref qf, .int 0, .ref a2, .ref a3, .int 0, .ref a5, .ref a6, .ref a7, .ref qx, .int 0]))]) [0] (by decide) rfl
  have hKc := hK.sub (tys' := []) [] rfl
  have hFc := va_free (wc := [(h0, .inr (9, [.ref qf, .int 0, .ref a2, .ref a3, .int 0, .ref a5, .ref a6, .ref a7, .ref qx, .int 0]))]) hD hS hA [0] rfl
  refine th_takeV (As := [.int ch]) (rest := [.int 0, .ref qo]) ⟨hx, hb, hml, hown, hts⟩ (c_GL_glyph l hfl dC dI h0 qf a2 a3 a5 a6 a7 qx ch s.heap.size) (cwV 1 hts (tw_inV w_654 w_655 w_656 w_1 w_657) rfl rfl rfl (by decide +kernel) ⟨Nat.le_of_ble_eq_true rfl, Nat.le_of_ble_eq_true rfl⟩) ⟨fun a U g mk q => by obtain ⟨q0, q1, qP, qK, qD, qE0⟩ := q; exact ⟨q0, q1, qP, va_K.moved (u := U) (U := U.calling g mk a) (Vm.Alike.refl U.vm) qK, qD, th_All.call qE0⟩, va_recv (hK := hK) (hP := hP) (q0 := 0) (ci := 9) rfl rfl, fun U hU hW => ⟨rfl, by rw [hU], by rw [hU]; exact hPc, va_K.moved hW.alike hKc, hDc.weaken (fun _ _ _ _ => trivial), hT9.to hW (by rw [hU]; exact hH)⟩⟩ rfl hl.1 (Nat.le_of_ble_eq_true rfl) d_LW_glyph_4 ⟨Nat.le_of_ble_eq_true rfl, Nat.le_of_ble_eq_true rfl⟩ htab (by decide) (by decide) (hts _ (List.mem_cons_of_mem _ w_653)) (fun x9 H hz9 hk9 => ?_)
  have hS : va_S A s.heap H [] := ⟨hz9, fun q h _ => hk9 q h, fun _ h => by cases h⟩
  refine lv_astore_n (lv' := [(3, .ref x9), (0, .ref h0), (1, .int ch), (2, .ref qo)]) hx hb d_LW_glyph_12 rfl hl (by decide) rfl (fun ls hl => ?_)
  refine lv_iconst (v := 1) hx hb d_LW_glyph_13 (by decide) ?_
  refine W.widen (k := 1) (n := 6) (Nat.le_of_ble_eq_true rfl) (Nat.le_of_ble_eq_true rfl) ?_
  exact W.iret (v := 1) hx hb hr (fun t ht hW => ⟨⟨1, (), rfl, rfl, trivial⟩, hS.F ht⟩) hS.2.2 d_LW_glyph_14
set_option maxHeartbeats 4000000 in
set_option maxRecDepth 100000 in
/-- GlyphLinesLaw.measure -/
theorem c_LW_measure (l : Launch) (hfl : l.flags = flags0) (dC : Nat → ClassId) (dI : Nat → Nat → Nat) (h0 qf a2 a3 a5 a6 a7 qx : Nat) (gl wh : Int32) (qo : Nat) (sz : Nat) : Met l y_LW_measure s_LW_measure ({ frames := 16, cells := 1, slots := 6, locals := 600 }) (va_Pc [.ref h0, .int gl, .int wh, .ref qo] (fun U => U.heap.size = sz ∧ va_P (dC, dI) cls_ [(h0, .inr (9, [.ref qf, .int 0, .ref a2, .ref a3, .int 0, .ref a5, .ref a6, .ref a7, .ref qx, .int 0]))] U.heap ∧ va_K (dC, dI) cls_ [] U ∧ va_D (fun _ => True) [(h0, .inr (9, [.ref qf, .int 0, .ref a2, .ref a3, .int 0, .ref a5, .ref a6, .ref a7, .ref qx, .int 0]))] ∧ th_All U)) (va_Qi (fun (r : Int32) (_ : Unit) => r = 1) (fun (_ : Unit) (t : State) => True) (va_A [(h0, .inr (9, [.ref qf, .int 0, .ref a2, .ref a3, .int 0, .ref a5, .ref a6, .ref a7, .ref qx, .int 0]))] sz)) 1 6 (va_A [(h0, .inr (9, [.ref qf, .int 0, .ref a2, .ref a3, .int 0, .ref a5, .ref a6, .ref a7, .ref qx, .int 0]))] sz) := by
  refine va_MetW (cc := b_LW_measure) (maxL := 5) (ret := (some .int)) (hh := [(0, 10, 13, 24), (0, 10, 17, 13)]) (by decide) rfl ?_
  intro p e s m args below meth c s₁ B hml hv
  obtain ⟨rfl, hsz, hP, hK, hD0, hT9⟩ := hv
  have hx := B.exec
  have hb := B.bytes
  have hr := B.returns
  have hts := atoms_spec (ws := s_LW_measure) B.pre
  have hown : s.vm.findClass R_LW = some m.cls := findClass_of_methodNamed B.named
  have hlocks := B.notSynchronized
  obtain ⟨⟨sp9, ep9, hp9, ct9⟩, ents, htab, rfl, rfl, rfl, rfl⟩ := th_tab B (hts _ List.mem_cons_self)
  have hH : ∀ q : Nat, q < s.heap.size → s.heap[q]? = s.heap[q]? := fun _ _ => rfl
  subst hsz
  have hD := hD0.self (sz := s.heap.size)
  generalize hAe : va_A [(h0, .inr (9, [.ref qf, .int 0, .ref a2, .ref a3, .int 0, .ref a5, .ref a6, .ref a7, .ref qx, .int 0]))] s.heap.size = A at hD ⊢
  have hA : ∀ q : Nat, s.heap.size ≤ q → A q := fun q h => by rw [← hAe]; exact Or.inr h
  have hS : va_S A s.heap s.heap [] := va_S.rf
  have hP : va_P (dC, dI) cls_ [(h0, .inr (9, [.ref qf, .int 0, .ref a2, .ref a3, .int 0, .ref a5, .ref a6, .ref a7, .ref qx, .int 0]))] s.heap := hP
  have hl := lv_entry ([.ref h0, .int gl, .int wh, .ref qo]) (n := 5) (Nat.le_of_ble_eq_true rfl)
  rw [lg_entry_eq]
  generalize (lg_sl ([.ref h0, .int gl, .int wh, .ref qo]) ++ List.replicate (5 - (lg_sl ([.ref h0, .int gl, .int wh, .ref qo])).length) Slot.unset).toArray = ls at hl ⊢
  have hl : lv_has ls 5 [(0, .ref h0), (1, .int gl), (2, .int wh), (3, .ref qo)] := hl
  refine lv_aload_n hx hb d_LW_measure_0 rfl (lv_at hl 3 rfl) ?_
  refine lv_iconst (v := 0) hx hb d_LW_measure_1 (by decide) ?_
  refine lv_aload_n hx hb d_LW_measure_2 rfl (lv_at hl 0 rfl) ?_
  refine lv_iload_n hx hb d_LW_measure_3 rfl (lv_at hl 1 rfl) ?_
  refine lv_iload_n hx hb d_LW_measure_4 rfl (lv_at hl 2 rfl) ?_
  have hPc := hP.sub (ws' := [(h0, .inr (9, [.ref qf, .int 0, .ref a2, .ref a3, .int 0, .ref a5, .ref a6, .ref a7, .ref qx, .int 0]))]) [0] rfl
  have hDc := hD.sub (ws' := [(h0, .inr (9, [.ref qf, .int 0, .ref a2, .ref a3, .int 0, .ref a5, .ref a6, .ref a7, .ref qx, .int 0]))]) [0] (by decide) rfl
  have hKc := hK.sub (tys' := []) [] rfl
  have hFc := va_free (wc := [(h0, .inr (9, [.ref qf, .int 0, .ref a2, .ref a3, .int 0, .ref a5, .ref a6, .ref a7, .ref qx, .int 0]))]) hD hS hA [0] rfl
  refine th_takeV (As := [.int gl, .int wh]) (rest := [.int 0, .ref qo]) ⟨hx, hb, hml, hown, hts⟩ (c_GL_measure l hfl dC dI h0 qf a2 a3 a5 a6 a7 qx gl wh s.heap.size) (cwV 2 hts (tw_inV w_695 w_696 w_697 w_1 w_698) rfl rfl rfl (by decide +kernel) ⟨Nat.le_of_ble_eq_true rfl, Nat.le_of_ble_eq_true rfl⟩) ⟨fun a U g mk q => by obtain ⟨q0, q1, qP, qK, qD, qE0⟩ := q; exact ⟨q0, q1, qP, va_K.moved (u := U) (U := U.calling g mk a) (Vm.Alike.refl U.vm) qK, qD, th_All.call qE0⟩, va_recv (hK := hK) (hP := hP) (q0 := 0) (ci := 9) rfl rfl, fun U hU hW => ⟨rfl, by rw [hU], by rw [hU]; exact hPc, va_K.moved hW.alike hKc, hDc.weaken (fun _ _ _ _ => trivial), hT9.to hW (by rw [hU]; exact hH)⟩⟩ rfl hl.1 (Nat.le_of_ble_eq_true rfl) d_LW_measure_5 ⟨Nat.le_of_ble_eq_true rfl, Nat.le_of_ble_eq_true rfl⟩ htab (by decide) (by decide) (hts _ (List.mem_cons_of_mem _ w_653)) (fun x9 H hz9 hk9 => ?_)
  have hS : va_S A s.heap H [] := ⟨hz9, fun q h _ => hk9 q h, fun _ h => by cases h⟩
  refine lv_astore (lv' := [(4, .ref x9), (0, .ref h0), (1, .int gl), (2, .int wh), (3, .ref qo)]) hx hb d_LW_measure_13 hl (by decide) rfl (fun ls hl => ?_)
  refine lv_iconst (v := 1) hx hb d_LW_measure_15 (by decide) ?_
  refine W.widen (k := 1) (n := 6) (Nat.le_of_ble_eq_true rfl) (Nat.le_of_ble_eq_true rfl) ?_
  exact W.iret (v := 1) hx hb hr (fun t ht hW => ⟨⟨1, (), rfl, rfl, trivial⟩, hS.F ht⟩) hS.2.2 d_LW_measure_16
set_option maxHeartbeats 4000000 in
set_option maxRecDepth 100000 in
/-- GlyphLinesLaw.point -/
theorem c_LW_point (l : Launch) (hfl : l.flags = flags0) (dC : Nat → ClassId) (dI : Nat → Nat → Nat) (h0 qf a2 a3 a5 a6 a7 qx : Nat) (gl i wh : Int32) (qo : Nat) (sz : Nat) : Met l y_LW_point s_LW_point ({ frames := 16, cells := 1, slots := 6, locals := 600 }) (va_Pc [.ref h0, .int gl, .int i, .int wh, .ref qo] (fun U => U.heap.size = sz ∧ va_P (dC, dI) cls_ [(h0, .inr (9, [.ref qf, .int 0, .ref a2, .ref a3, .int 0, .ref a5, .ref a6, .ref a7, .ref qx, .int 0]))] U.heap ∧ va_K (dC, dI) cls_ [] U ∧ va_D (fun _ => True) [(h0, .inr (9, [.ref qf, .int 0, .ref a2, .ref a3, .int 0, .ref a5, .ref a6, .ref a7, .ref qx, .int 0]))] ∧ th_All U)) (va_Qi (fun (r : Int32) (_ : Unit) => r = 1) (fun (_ : Unit) (t : State) => True) (va_A [(h0, .inr (9, [.ref qf, .int 0, .ref a2, .ref a3, .int 0, .ref a5, .ref a6, .ref a7, .ref qx, .int 0]))] sz)) 1 6 (va_A [(h0, .inr (9, [.ref qf, .int 0, .ref a2, .ref a3, .int 0, .ref a5, .ref a6, .ref a7, .ref qx, .int 0]))] sz) := by
  refine va_MetW (cc := b_LW_point) (maxL := 6) (ret := (some .int)) (hh := [(0, 12, 15, 24), (0, 12, 19, 13)]) (by decide) rfl ?_
  intro p e s m args below meth c s₁ B hml hv
  obtain ⟨rfl, hsz, hP, hK, hD0, hT9⟩ := hv
  have hx := B.exec
  have hb := B.bytes
  have hr := B.returns
  have hts := atoms_spec (ws := s_LW_point) B.pre
  have hown : s.vm.findClass R_LW = some m.cls := findClass_of_methodNamed B.named
  have hlocks := B.notSynchronized
  obtain ⟨⟨sp9, ep9, hp9, ct9⟩, ents, htab, rfl, rfl, rfl, rfl⟩ := th_tab B (hts _ List.mem_cons_self)
  have hH : ∀ q : Nat, q < s.heap.size → s.heap[q]? = s.heap[q]? := fun _ _ => rfl
  subst hsz
  have hD := hD0.self (sz := s.heap.size)
  generalize hAe : va_A [(h0, .inr (9, [.ref qf, .int 0, .ref a2, .ref a3, .int 0, .ref a5, .ref a6, .ref a7, .ref qx, .int 0]))] s.heap.size = A at hD ⊢
  have hA : ∀ q : Nat, s.heap.size ≤ q → A q := fun q h => by rw [← hAe]; exact Or.inr h
  have hS : va_S A s.heap s.heap [] := va_S.rf
  have hP : va_P (dC, dI) cls_ [(h0, .inr (9, [.ref qf, .int 0, .ref a2, .ref a3, .int 0, .ref a5, .ref a6, .ref a7, .ref qx, .int 0]))] s.heap := hP
  have hl := lv_entry ([.ref h0, .int gl, .int i, .int wh, .ref qo]) (n := 6) (Nat.le_of_ble_eq_true rfl)
  rw [lg_entry_eq]
  generalize (lg_sl ([.ref h0, .int gl, .int i, .int wh, .ref qo]) ++ List.replicate (6 - (lg_sl ([.ref h0, .int gl, .int i, .int wh, .ref qo])).length) Slot.unset).toArray = ls at hl ⊢
  have hl : lv_has ls 6 [(0, .ref h0), (1, .int gl), (2, .int i), (3, .int wh), (4, .ref qo)] := hl
  refine lv_aload hx hb d_LW_point_0 (lv_at hl 4 rfl) ?_
  refine lv_iconst (v := 0) hx hb d_LW_point_2 (by decide) ?_
  refine lv_aload_n hx hb d_LW_point_3 rfl (lv_at hl 0 rfl) ?_
  refine lv_iload_n hx hb d_LW_point_4 rfl (lv_at hl 1 rfl) ?_
  refine lv_iload_n hx hb d_LW_point_5 rfl (lv_at hl 2 rfl) ?_
  refine lv_iload_n hx hb d_LW_point_6 rfl (lv_at hl 3 rfl) ?_
  have hPc := hP.sub (ws' := [(h0, .inr (9, [.ref qf, .int 0, .ref a2, .ref a3, .int 0, .ref a5, .ref a6, .ref a7, .ref qx, .int 0]))]) [0] rfl
  have hDc := hD.sub (ws' := [(h0, .inr (9, [.ref qf, .int 0, .ref a2, .ref a3, .int 0, .ref a5, .ref a6, .ref a7, .ref qx, .int 0]))]) [0] (by decide) rfl
  have hKc := hK.sub (tys' := []) [] rfl
  have hFc := va_free (wc := [(h0, .inr (9, [.ref qf, .int 0, .ref a2, .ref a3, .int 0, .ref a5, .ref a6, .ref a7, .ref qx, .int 0]))]) hD hS hA [0] rfl
  refine th_takeV (As := [.int gl, .int i, .int wh]) (rest := [.int 0, .ref qo]) ⟨hx, hb, hml, hown, hts⟩ (c_GL_point l hfl dC dI h0 qf a2 a3 a5 a6 a7 qx gl i wh s.heap.size) (cwV 3 hts (tw_inV w_713 w_714 w_715 w_1 w_716) rfl rfl rfl (by decide +kernel) ⟨Nat.le_of_ble_eq_true rfl, Nat.le_of_ble_eq_true rfl⟩) ⟨fun a U g mk q => by obtain ⟨q0, q1, qP, qK, qD, qE0⟩ := q; exact ⟨q0, q1, qP, va_K.moved (u := U) (U := U.calling g mk a) (Vm.Alike.refl U.vm) qK, qD, th_All.call qE0⟩, va_recv (hK := hK) (hP := hP) (q0 := 0) (ci := 9) rfl rfl, fun U hU hW => ⟨rfl, by rw [hU], by rw [hU]; exact hPc, va_K.moved hW.alike hKc, hDc.weaken (fun _ _ _ _ => trivial), hT9.to hW (by rw [hU]; exact hH)⟩⟩ rfl hl.1 (Nat.le_of_ble_eq_true rfl) d_LW_point_7 ⟨Nat.le_of_ble_eq_true rfl, Nat.le_of_ble_eq_true rfl⟩ htab (by decide) (by decide) (hts _ (List.mem_cons_of_mem _ w_653)) (fun x9 H hz9 hk9 => ?_)
  have hS : va_S A s.heap H [] := ⟨hz9, fun q h _ => hk9 q h, fun _ h => by cases h⟩
  refine lv_astore (lv' := [(5, .ref x9), (0, .ref h0), (1, .int gl), (2, .int i), (3, .int wh), (4, .ref qo)]) hx hb d_LW_point_15 hl (by decide) rfl (fun ls hl => ?_)
  refine lv_iconst (v := 1) hx hb d_LW_point_17 (by decide) ?_
  refine W.widen (k := 1) (n := 6) (Nat.le_of_ble_eq_true rfl) (Nat.le_of_ble_eq_true rfl) ?_
  exact W.iret (v := 1) hx hb hr (fun t ht hW => ⟨⟨1, (), rfl, rfl, trivial⟩, hS.F ht⟩) hS.2.2 d_LW_point_18
set_option maxHeartbeats 4000000 in
set_option maxRecDepth 100000 in
/-- GlyphLinesLaw.kerning -/
theorem c_LW_kerning (l : Launch) (hfl : l.flags = flags0) (dC : Nat → ClassId) (dI : Nat → Nat → Nat) (h0 qf a2 a3 a5 a6 a7 qx : Nat) (le ri : Int32) (qo : Nat) (sz : Nat) : Met l y_LW_kerning s_LW_kerning ({ frames := 16, cells := 1, slots := 6, locals := 600 }) (va_Pc [.ref h0, .int le, .int ri, .ref qo] (fun U => U.heap.size = sz ∧ va_P (dC, dI) cls_ [(h0, .inr (9, [.ref qf, .int 0, .ref a2, .ref a3, .int 0, .ref a5, .ref a6, .ref a7, .ref qx, .int 0]))] U.heap ∧ va_K (dC, dI) cls_ [] U ∧ va_D (fun _ => True) [(h0, .inr (9, [.ref qf, .int 0, .ref a2, .ref a3, .int 0, .ref a5, .ref a6, .ref a7, .ref qx, .int 0]))] ∧ th_All U)) (va_Qi (fun (r : Int32) (_ : Unit) => r = 1) (fun (_ : Unit) (t : State) => True) (va_A [(h0, .inr (9, [.ref qf, .int 0, .ref a2, .ref a3, .int 0, .ref a5, .ref a6, .ref a7, .ref qx, .int 0]))] sz)) 1 6 (va_A [(h0, .inr (9, [.ref qf, .int 0, .ref a2, .ref a3, .int 0, .ref a5, .ref a6, .ref a7, .ref qx, .int 0]))] sz) := by
  refine va_MetW (cc := b_LW_kerning) (maxL := 5) (ret := (some .int)) (hh := [(0, 10, 13, 24), (0, 10, 17, 13)]) (by decide) rfl ?_
  intro p e s m args below meth c s₁ B hml hv
  obtain ⟨rfl, hsz, hP, hK, hD0, hT9⟩ := hv
  have hx := B.exec
  have hb := B.bytes
  have hr := B.returns
  have hts := atoms_spec (ws := s_LW_kerning) B.pre
  have hown : s.vm.findClass R_LW = some m.cls := findClass_of_methodNamed B.named
  have hlocks := B.notSynchronized
  obtain ⟨⟨sp9, ep9, hp9, ct9⟩, ents, htab, rfl, rfl, rfl, rfl⟩ := th_tab B (hts _ List.mem_cons_self)
  have hH : ∀ q : Nat, q < s.heap.size → s.heap[q]? = s.heap[q]? := fun _ _ => rfl
  subst hsz
  have hD := hD0.self (sz := s.heap.size)
  generalize hAe : va_A [(h0, .inr (9, [.ref qf, .int 0, .ref a2, .ref a3, .int 0, .ref a5, .ref a6, .ref a7, .ref qx, .int 0]))] s.heap.size = A at hD ⊢
  have hA : ∀ q : Nat, s.heap.size ≤ q → A q := fun q h => by rw [← hAe]; exact Or.inr h
  have hS : va_S A s.heap s.heap [] := va_S.rf
  have hP : va_P (dC, dI) cls_ [(h0, .inr (9, [.ref qf, .int 0, .ref a2, .ref a3, .int 0, .ref a5, .ref a6, .ref a7, .ref qx, .int 0]))] s.heap := hP
  have hl := lv_entry ([.ref h0, .int le, .int ri, .ref qo]) (n := 5) (Nat.le_of_ble_eq_true rfl)
  rw [lg_entry_eq]
  generalize (lg_sl ([.ref h0, .int le, .int ri, .ref qo]) ++ List.replicate (5 - (lg_sl ([.ref h0, .int le, .int ri, .ref qo])).length) Slot.unset).toArray = ls at hl ⊢
  have hl : lv_has ls 5 [(0, .ref h0), (1, .int le), (2, .int ri), (3, .ref qo)] := hl
  refine lv_aload_n hx hb d_LW_kerning_0 rfl (lv_at hl 3 rfl) ?_
  refine lv_iconst (v := 0) hx hb d_LW_kerning_1 (by decide) ?_
  refine lv_aload_n hx hb d_LW_kerning_2 rfl (lv_at hl 0 rfl) ?_
  refine lv_iload_n hx hb d_LW_kerning_3 rfl (lv_at hl 1 rfl) ?_
  refine lv_iload_n hx hb d_LW_kerning_4 rfl (lv_at hl 2 rfl) ?_
  have hPc := hP.sub (ws' := [(h0, .inr (9, [.ref qf, .int 0, .ref a2, .ref a3, .int 0, .ref a5, .ref a6, .ref a7, .ref qx, .int 0]))]) [0] rfl
  have hDc := hD.sub (ws' := [(h0, .inr (9, [.ref qf, .int 0, .ref a2, .ref a3, .int 0, .ref a5, .ref a6, .ref a7, .ref qx, .int 0]))]) [0] (by decide) rfl
  have hKc := hK.sub (tys' := []) [] rfl
  have hFc := va_free (wc := [(h0, .inr (9, [.ref qf, .int 0, .ref a2, .ref a3, .int 0, .ref a5, .ref a6, .ref a7, .ref qx, .int 0]))]) hD hS hA [0] rfl
  refine th_takeV (As := [.int le, .int ri]) (rest := [.int 0, .ref qo]) ⟨hx, hb, hml, hown, hts⟩ (c_GL_kerning l hfl dC dI h0 qf a2 a3 a5 a6 a7 qx le ri s.heap.size) (cwV 2 hts (tw_inV w_722 w_723 w_724 w_1 w_725) rfl rfl rfl (by decide +kernel) ⟨Nat.le_of_ble_eq_true rfl, Nat.le_of_ble_eq_true rfl⟩) ⟨fun a U g mk q => by obtain ⟨q0, q1, qP, qK, qD, qE0⟩ := q; exact ⟨q0, q1, qP, va_K.moved (u := U) (U := U.calling g mk a) (Vm.Alike.refl U.vm) qK, qD, th_All.call qE0⟩, va_recv (hK := hK) (hP := hP) (q0 := 0) (ci := 9) rfl rfl, fun U hU hW => ⟨rfl, by rw [hU], by rw [hU]; exact hPc, va_K.moved hW.alike hKc, hDc.weaken (fun _ _ _ _ => trivial), hT9.to hW (by rw [hU]; exact hH)⟩⟩ rfl hl.1 (Nat.le_of_ble_eq_true rfl) d_LW_kerning_5 ⟨Nat.le_of_ble_eq_true rfl, Nat.le_of_ble_eq_true rfl⟩ htab (by decide) (by decide) (hts _ (List.mem_cons_of_mem _ w_653)) (fun x9 H hz9 hk9 => ?_)
  have hS : va_S A s.heap H [] := ⟨hz9, fun q h _ => hk9 q h, fun _ h => by cases h⟩
  refine lv_astore (lv' := [(4, .ref x9), (0, .ref h0), (1, .int le), (2, .int ri), (3, .ref qo)]) hx hb d_LW_kerning_13 hl (by decide) rfl (fun ls hl => ?_)
  refine lv_iconst (v := 1) hx hb d_LW_kerning_15 (by decide) ?_
  refine W.widen (k := 1) (n := 6) (Nat.le_of_ble_eq_true rfl) (Nat.le_of_ble_eq_true rfl) ?_
  exact W.iret (v := 1) hx hb hr (fun t ht hW => ⟨⟨1, (), rfl, rfl, trivial⟩, hS.F ht⟩) hS.2.2 d_LW_kerning_16
set_option maxHeartbeats 4000000 in
set_option maxRecDepth 100000 in
/-- GlyphLinesLaw.paint -/
theorem c_LW_paint (l : Launch) (hfl : l.flags = flags0) (dC : Nat → ClassId) (dI : Nat → Nat → Nat) (h0 qf a2 a3 a5 a6 a7 qx : Nat) (pp : Int32) (qo : Nat) (sz : Nat) : Met l y_LW_paint s_LW_paint ({ frames := 16, cells := 1, slots := 6, locals := 600 }) (va_Pc [.ref h0, .int pp, .ref qo] (fun U => U.heap.size = sz ∧ va_P (dC, dI) cls_ [(h0, .inr (9, [.ref qf, .int 0, .ref a2, .ref a3, .int 0, .ref a5, .ref a6, .ref a7, .ref qx, .int 0]))] U.heap ∧ va_K (dC, dI) cls_ [] U ∧ va_D (fun _ => True) [(h0, .inr (9, [.ref qf, .int 0, .ref a2, .ref a3, .int 0, .ref a5, .ref a6, .ref a7, .ref qx, .int 0]))] ∧ th_All U)) (va_Qi (fun (r : Int32) (_ : Unit) => r = 1) (fun (_ : Unit) (t : State) => True) (va_A [(h0, .inr (9, [.ref qf, .int 0, .ref a2, .ref a3, .int 0, .ref a5, .ref a6, .ref a7, .ref qx, .int 0]))] sz)) 1 6 (va_A [(h0, .inr (9, [.ref qf, .int 0, .ref a2, .ref a3, .int 0, .ref a5, .ref a6, .ref a7, .ref qx, .int 0]))] sz) := by
  refine va_MetW (cc := b_LW_paint) (maxL := 4) (ret := (some .int)) (hh := [(0, 9, 12, 24), (0, 9, 15, 15)]) (by decide) rfl ?_
  intro p e s m args below meth c s₁ B hml hv
  obtain ⟨rfl, hsz, hP, hK, hD0, hT9⟩ := hv
  have hx := B.exec
  have hb := B.bytes
  have hr := B.returns
  have hts := atoms_spec (ws := s_LW_paint) B.pre
  have hown : s.vm.findClass R_LW = some m.cls := findClass_of_methodNamed B.named
  have hlocks := B.notSynchronized
  obtain ⟨⟨sp9, ep9, hp9, ct9⟩, ents, htab, rfl, rfl, rfl, rfl⟩ := th_tab B (hts _ List.mem_cons_self)
  have hH : ∀ q : Nat, q < s.heap.size → s.heap[q]? = s.heap[q]? := fun _ _ => rfl
  subst hsz
  have hD := hD0.self (sz := s.heap.size)
  generalize hAe : va_A [(h0, .inr (9, [.ref qf, .int 0, .ref a2, .ref a3, .int 0, .ref a5, .ref a6, .ref a7, .ref qx, .int 0]))] s.heap.size = A at hD ⊢
  have hA : ∀ q : Nat, s.heap.size ≤ q → A q := fun q h => by rw [← hAe]; exact Or.inr h
  have hS : va_S A s.heap s.heap [] := va_S.rf
  have hP : va_P (dC, dI) cls_ [(h0, .inr (9, [.ref qf, .int 0, .ref a2, .ref a3, .int 0, .ref a5, .ref a6, .ref a7, .ref qx, .int 0]))] s.heap := hP
  have hl := lv_entry ([.ref h0, .int pp, .ref qo]) (n := 4) (Nat.le_of_ble_eq_true rfl)
  rw [lg_entry_eq]
  generalize (lg_sl ([.ref h0, .int pp, .ref qo]) ++ List.replicate (4 - (lg_sl ([.ref h0, .int pp, .ref qo])).length) Slot.unset).toArray = ls at hl ⊢
  have hl : lv_has ls 4 [(0, .ref h0), (1, .int pp), (2, .ref qo)] := hl
  refine lv_aload_n hx hb d_LW_paint_0 rfl (lv_at hl 2 rfl) ?_
  refine lv_iconst (v := 0) hx hb d_LW_paint_1 (by decide) ?_
  refine lv_aload_n hx hb d_LW_paint_2 rfl (lv_at hl 0 rfl) ?_
  refine lv_iload_n hx hb d_LW_paint_3 rfl (lv_at hl 1 rfl) ?_
  have hPc := hP.sub (ws' := [(h0, .inr (9, [.ref qf, .int 0, .ref a2, .ref a3, .int 0, .ref a5, .ref a6, .ref a7, .ref qx, .int 0]))]) [0] rfl
  have hDc := hD.sub (ws' := [(h0, .inr (9, [.ref qf, .int 0, .ref a2, .ref a3, .int 0, .ref a5, .ref a6, .ref a7, .ref qx, .int 0]))]) [0] (by decide) rfl
  have hKc := hK.sub (tys' := []) [] rfl
  have hFc := va_free (wc := [(h0, .inr (9, [.ref qf, .int 0, .ref a2, .ref a3, .int 0, .ref a5, .ref a6, .ref a7, .ref qx, .int 0]))]) hD hS hA [0] rfl
  refine th_takeV (As := [.int pp]) (rest := [.int 0, .ref qo]) ⟨hx, hb, hml, hown, hts⟩ (c_GL_paint l hfl dC dI h0 qf a2 a3 a5 a6 a7 qx pp s.heap.size) (cwV 1 hts (tw_inV w_737 w_738 w_739 w_1 w_740) rfl rfl rfl (by decide +kernel) ⟨Nat.le_of_ble_eq_true rfl, Nat.le_of_ble_eq_true rfl⟩) ⟨fun a U g mk q => by obtain ⟨q0, q1, qP, qK, qD, qE0⟩ := q; exact ⟨q0, q1, qP, va_K.moved (u := U) (U := U.calling g mk a) (Vm.Alike.refl U.vm) qK, qD, th_All.call qE0⟩, va_recv (hK := hK) (hP := hP) (q0 := 0) (ci := 9) rfl rfl, fun U hU hW => ⟨rfl, by rw [hU], by rw [hU]; exact hPc, va_K.moved hW.alike hKc, hDc.weaken (fun _ _ _ _ => trivial), hT9.to hW (by rw [hU]; exact hH)⟩⟩ rfl hl.1 (Nat.le_of_ble_eq_true rfl) d_LW_paint_4 ⟨Nat.le_of_ble_eq_true rfl, Nat.le_of_ble_eq_true rfl⟩ htab (by decide) (by decide) (hts _ (List.mem_cons_of_mem _ w_653)) (fun x9 H hz9 hk9 => ?_)
  have hS : va_S A s.heap H [] := ⟨hz9, fun q h _ => hk9 q h, fun _ h => by cases h⟩
  refine lv_astore_n (lv' := [(3, .ref x9), (0, .ref h0), (1, .int pp), (2, .ref qo)]) hx hb d_LW_paint_12 rfl hl (by decide) rfl (fun ls hl => ?_)
  refine lv_iconst (v := 1) hx hb d_LW_paint_13 (by decide) ?_
  refine W.widen (k := 1) (n := 6) (Nat.le_of_ble_eq_true rfl) (Nat.le_of_ble_eq_true rfl) ?_
  exact W.iret (v := 1) hx hb hr (fun t ht hW => ⟨⟨1, (), rfl, rfl, trivial⟩, hS.F ht⟩) hS.2.2 d_LW_paint_14
set_option maxHeartbeats 4000000 in
set_option maxRecDepth 100000 in
/-- GlyphLinesLaw.cut -/
theorem c_LW_cut_t (l : Launch) (hfl : l.flags = flags0) (dC : Nat → ClassId) (dI : Nat → Nat → Nat) (h0 qf a2 a3 a5 a6 a7 qx : Nat) (many : Int32) (qo : Nat) (sz : Nat) (hm : many < 0) : Met l y_LW_cut s_LW_cut ({ frames := 16, cells := 1, slots := 6, locals := 600 }) (va_Pc [.ref h0, .int many, .ref qo] (fun U => U.heap.size = sz ∧ va_P (dC, dI) cls_ [(h0, .inr (9, [.ref qf, .int 0, .ref a2, .ref a3, .int 0, .ref a5, .ref a6, .ref a7, .ref qx, .int 0]))] U.heap ∧ va_K (dC, dI) cls_ [] U ∧ va_D (fun _ => True) [(h0, .inr (9, [.ref qf, .int 0, .ref a2, .ref a3, .int 0, .ref a5, .ref a6, .ref a7, .ref qx, .int 0]))] ∧ th_All U)) (va_Qi (fun (r : Int32) (_ : Unit) => r = 1) (fun (_ : Unit) (t : State) => True) (va_A [(h0, .inr (9, [.ref qf, .int 0, .ref a2, .ref a3, .int 0, .ref a5, .ref a6, .ref a7, .ref qx, .int 0]))] sz)) 1 6 (va_A [(h0, .inr (9, [.ref qf, .int 0, .ref a2, .ref a3, .int 0, .ref a5, .ref a6, .ref a7, .ref qx, .int 0]))] sz) := by
  refine va_MetW (cc := b_LW_cut) (maxL := 4) (ret := (some .int)) (hh := [(0, 9, 12, 15)]) (by decide) rfl ?_
  intro p e s m args below meth c s₁ B hml hv
  obtain ⟨rfl, hsz, hP, hK, hD0, hT9⟩ := hv
  have hx := B.exec
  have hb := B.bytes
  have hr := B.returns
  have hts := atoms_spec (ws := s_LW_cut) B.pre
  have hown : s.vm.findClass R_LW = some m.cls := findClass_of_methodNamed B.named
  have hlocks := B.notSynchronized
  obtain ⟨⟨sp9, ep9, hp9, ct9⟩, ents, htab, rfl, rfl, rfl, rfl⟩ := th_tab B (hts _ List.mem_cons_self)
  have hH : ∀ q : Nat, q < s.heap.size → s.heap[q]? = s.heap[q]? := fun _ _ => rfl
  subst hsz
  have hD := hD0.self (sz := s.heap.size)
  generalize hAe : va_A [(h0, .inr (9, [.ref qf, .int 0, .ref a2, .ref a3, .int 0, .ref a5, .ref a6, .ref a7, .ref qx, .int 0]))] s.heap.size = A at hD ⊢
  have hA : ∀ q : Nat, s.heap.size ≤ q → A q := fun q h => by rw [← hAe]; exact Or.inr h
  have hS : va_S A s.heap s.heap [] := va_S.rf
  have hP : va_P (dC, dI) cls_ [(h0, .inr (9, [.ref qf, .int 0, .ref a2, .ref a3, .int 0, .ref a5, .ref a6, .ref a7, .ref qx, .int 0]))] s.heap := hP
  have hl := lv_entry ([.ref h0, .int many, .ref qo]) (n := 4) (Nat.le_of_ble_eq_true rfl)
  rw [lg_entry_eq]
  generalize (lg_sl ([.ref h0, .int many, .ref qo]) ++ List.replicate (4 - (lg_sl ([.ref h0, .int many, .ref qo])).length) Slot.unset).toArray = ls at hl ⊢
  have hl : lv_has ls 4 [(0, .ref h0), (1, .int many), (2, .ref qo)] := hl
  refine lv_aload_n hx hb d_LW_cut_0 rfl (lv_at hl 2 rfl) ?_
  refine lv_iconst (v := 0) hx hb d_LW_cut_1 (by decide) ?_
  refine lv_aload_n hx hb d_LW_cut_2 rfl (lv_at hl 0 rfl) ?_
  refine lv_iload_n hx hb d_LW_cut_3 rfl (lv_at hl 1 rfl) ?_
  have hPc := hP.sub (ws' := [(h0, .inr (9, [.ref qf, .int 0, .ref a2, .ref a3, .int 0, .ref a5, .ref a6, .ref a7, .ref qx, .int 0]))]) [0] rfl
  have hDc := hD.sub (ws' := [(h0, .inr (9, [.ref qf, .int 0, .ref a2, .ref a3, .int 0, .ref a5, .ref a6, .ref a7, .ref qx, .int 0]))]) [0] (by decide) rfl
  have hKc := hK.sub (tys' := []) [] rfl
  have hFc := va_free (wc := [(h0, .inr (9, [.ref qf, .int 0, .ref a2, .ref a3, .int 0, .ref a5, .ref a6, .ref a7, .ref qx, .int 0]))]) hD hS hA [0] rfl
  refine th_takeV (As := [.int many]) (rest := [.int 0, .ref qo]) ⟨hx, hb, hml, hown, hts⟩ (c_GL_cut_t l hfl dC dI h0 qf a2 a3 a5 a6 a7 qx many s.heap.size hm) (cwV 1 hts (tw_inV w_644 w_645 w_646 w_1 w_647) rfl rfl rfl (by decide +kernel) ⟨Nat.le_of_ble_eq_true rfl, Nat.le_of_ble_eq_true rfl⟩) ⟨fun a U g mk q => by obtain ⟨q0, q1, qP, qK, qD, qE0⟩ := q; exact ⟨q0, q1, qP, va_K.moved (u := U) (U := U.calling g mk a) (Vm.Alike.refl U.vm) qK, qD, th_All.call qE0⟩, va_recv (hK := hK) (hP := hP) (q0 := 0) (ci := 9) rfl rfl, fun U hU hW => ⟨rfl, by rw [hU], by rw [hU]; exact hPc, va_K.moved hW.alike hKc, hDc.weaken (fun _ _ _ _ => trivial), hT9.to hW (by rw [hU]; exact hH)⟩⟩ rfl hl.1 (Nat.le_of_ble_eq_true rfl) d_LW_cut_4 ⟨Nat.le_of_ble_eq_true rfl, Nat.le_of_ble_eq_true rfl⟩ htab (by decide) (by decide) (hts _ (List.mem_cons_of_mem _ w_552)) (fun x9 H hz9 hk9 => ?_)
  have hS : va_S A s.heap H [] := ⟨hz9, fun q h _ => hk9 q h, fun _ h => by cases h⟩
  refine lv_astore_n (lv' := [(3, .ref x9), (0, .ref h0), (1, .int many), (2, .ref qo)]) hx hb d_LW_cut_12 rfl hl (by decide) rfl (fun ls hl => ?_)
  refine lv_iconst (v := 1) hx hb d_LW_cut_13 (by decide) ?_
  refine W.widen (k := 1) (n := 6) (Nat.le_of_ble_eq_true rfl) (Nat.le_of_ble_eq_true rfl) ?_
  exact W.iret (v := 1) hx hb hr (fun t ht hW => ⟨⟨1, (), rfl, rfl, trivial⟩, hS.F ht⟩) hS.2.2 d_LW_cut_14
set_option maxHeartbeats 4000000 in
set_option maxRecDepth 100000 in
/-- GlyphLinesLaw.row -/
theorem c_LW_row_t (l : Launch) (hfl : l.flags = flags0) (dC : Nat → ClassId) (dI : Nat → Nat → Nat) (h0 qf a2 a3 a5 a6 a7 qx : Nat) (r : Int32) (qo : Nat) (sz : Nat) (hm : r < 0 ∨ ¬ r < 24) : Met l y_LW_row s_LW_row ({ frames := 16, cells := 1, slots := 6, locals := 600 }) (va_Pc [.ref h0, .int r, .ref qo] (fun U => U.heap.size = sz ∧ va_P (dC, dI) cls_ [(h0, .inr (9, [.ref qf, .int 0, .ref a2, .ref a3, .int 0, .ref a5, .ref a6, .ref a7, .ref qx, .int 0]))] U.heap ∧ va_K (dC, dI) cls_ [] U ∧ va_D (fun _ => True) [(h0, .inr (9, [.ref qf, .int 0, .ref a2, .ref a3, .int 0, .ref a5, .ref a6, .ref a7, .ref qx, .int 0]))] ∧ th_All U)) (va_Qi (fun (r : Int32) (_ : Unit) => r = 1) (fun (_ : Unit) (t : State) => True) (va_A [(h0, .inr (9, [.ref qf, .int 0, .ref a2, .ref a3, .int 0, .ref a5, .ref a6, .ref a7, .ref qx, .int 0]))] sz)) 1 6 (va_A [(h0, .inr (9, [.ref qf, .int 0, .ref a2, .ref a3, .int 0, .ref a5, .ref a6, .ref a7, .ref qx, .int 0]))] sz) := by
  refine va_MetW (cc := b_LW_row) (maxL := 4) (ret := (some .int)) (hh := [(0, 8, 11, 13)]) (by decide) rfl ?_
  intro p e s m args below meth c s₁ B hml hv
  obtain ⟨rfl, hsz, hP, hK, hD0, hT9⟩ := hv
  have hx := B.exec
  have hb := B.bytes
  have hr := B.returns
  have hts := atoms_spec (ws := s_LW_row) B.pre
  have hown : s.vm.findClass R_LW = some m.cls := findClass_of_methodNamed B.named
  have hlocks := B.notSynchronized
  obtain ⟨⟨sp9, ep9, hp9, ct9⟩, ents, htab, rfl, rfl, rfl, rfl⟩ := th_tab B (hts _ List.mem_cons_self)
  have hH : ∀ q : Nat, q < s.heap.size → s.heap[q]? = s.heap[q]? := fun _ _ => rfl
  subst hsz
  have hD := hD0.self (sz := s.heap.size)
  generalize hAe : va_A [(h0, .inr (9, [.ref qf, .int 0, .ref a2, .ref a3, .int 0, .ref a5, .ref a6, .ref a7, .ref qx, .int 0]))] s.heap.size = A at hD ⊢
  have hA : ∀ q : Nat, s.heap.size ≤ q → A q := fun q h => by rw [← hAe]; exact Or.inr h
  have hS : va_S A s.heap s.heap [] := va_S.rf
  have hP : va_P (dC, dI) cls_ [(h0, .inr (9, [.ref qf, .int 0, .ref a2, .ref a3, .int 0, .ref a5, .ref a6, .ref a7, .ref qx, .int 0]))] s.heap := hP
  have hl := lv_entry ([.ref h0, .int r, .ref qo]) (n := 4) (Nat.le_of_ble_eq_true rfl)
  rw [lg_entry_eq]
  generalize (lg_sl ([.ref h0, .int r, .ref qo]) ++ List.replicate (4 - (lg_sl ([.ref h0, .int r, .ref qo])).length) Slot.unset).toArray = ls at hl ⊢
  have hl : lv_has ls 4 [(0, .ref h0), (1, .int r), (2, .ref qo)] := hl
  refine lv_aload_n hx hb d_LW_row_0 rfl (lv_at hl 2 rfl) ?_
  refine lv_iconst (v := 0) hx hb d_LW_row_1 (by decide) ?_
  refine lv_aload_n hx hb d_LW_row_2 rfl (lv_at hl 0 rfl) ?_
  refine lv_iload_n hx hb d_LW_row_3 rfl (lv_at hl 1 rfl) ?_
  have hPc := hP.sub (ws' := [(h0, .inr (9, [.ref qf, .int 0, .ref a2, .ref a3, .int 0, .ref a5, .ref a6, .ref a7, .ref qx, .int 0]))]) [0] rfl
  have hDc := hD.sub (ws' := [(h0, .inr (9, [.ref qf, .int 0, .ref a2, .ref a3, .int 0, .ref a5, .ref a6, .ref a7, .ref qx, .int 0]))]) [0] (by decide) rfl
  have hKc := hK.sub (tys' := []) [] rfl
  have hFc := va_free (wc := [(h0, .inr (9, [.ref qf, .int 0, .ref a2, .ref a3, .int 0, .ref a5, .ref a6, .ref a7, .ref qx, .int 0]))]) hD hS hA [0] rfl
  refine th_takeV (As := [.int r]) (rest := [.int 0, .ref qo]) ⟨hx, hb, hml, hown, hts⟩ (c_GL_row_t l hfl dC dI h0 qf a2 a3 a5 a6 a7 qx r s.heap.size hm) (cwV 1 hts (tw_inV w_841 w_842 w_843 w_1 w_844) rfl rfl rfl (by decide +kernel) ⟨Nat.le_of_ble_eq_true rfl, Nat.le_of_ble_eq_true rfl⟩) ⟨fun a U g mk q => by obtain ⟨q0, q1, qP, qK, qD, qE0⟩ := q; exact ⟨q0, q1, qP, va_K.moved (u := U) (U := U.calling g mk a) (Vm.Alike.refl U.vm) qK, qD, th_All.call qE0⟩, va_recv (hK := hK) (hP := hP) (q0 := 0) (ci := 9) rfl rfl, fun U hU hW => ⟨rfl, by rw [hU], by rw [hU]; exact hPc, va_K.moved hW.alike hKc, hDc.weaken (fun _ _ _ _ => trivial), hT9.to hW (by rw [hU]; exact hH)⟩⟩ rfl hl.1 (Nat.le_of_ble_eq_true rfl) d_LW_row_4 ⟨Nat.le_of_ble_eq_true rfl, Nat.le_of_ble_eq_true rfl⟩ htab (by decide) (by decide) (hts _ (List.mem_cons_of_mem _ w_551)) (fun x9 H hz9 hk9 => ?_)
  have hS : va_S A s.heap H [] := ⟨hz9, fun q h _ => hk9 q h, fun _ h => by cases h⟩
  refine lv_astore_n (lv' := [(3, .ref x9), (0, .ref h0), (1, .int r), (2, .ref qo)]) hx hb d_LW_row_11 rfl hl (by decide) rfl (fun ls hl => ?_)
  refine lv_iconst (v := 1) hx hb d_LW_row_12 (by decide) ?_
  refine W.widen (k := 1) (n := 6) (Nat.le_of_ble_eq_true rfl) (Nat.le_of_ble_eq_true rfl) ?_
  exact W.iret (v := 1) hx hb hr (fun t ht hW => ⟨⟨1, (), rfl, rfl, trivial⟩, hS.F ht⟩) hS.2.2 d_LW_row_13
set_option maxHeartbeats 4000000 in
set_option maxRecDepth 100000 in
/-- GlyphLinesLaw.cut -/
theorem c_LW_cut (l : Launch) (dC : Nat → ClassId) (dI : Nat → Nat → Nat) (h0 qf a2 a3 a5 a6 a7 qx : Nat) (many : Int32) (qo : Nat) (cO : ClassId) (sz : Nat) (hm : ¬ many < 0) : Met l y_LW_cut s_LW_cut ({ frames := 16, cells := 0, slots := 0, locals := 600 }) (va_Pc [.ref h0, .int many, .ref qo] (fun U => U.heap.size = sz ∧ va_P (dC, dI) cls_ [(h0, .inr (9, [.ref qf, .int 0, .ref a2, .ref a3, .int 0, .ref a5, .ref a6, .ref a7, .ref qx, .int 0])), (qo, .inl (cO, 1, .inr (.inl (fun _ => 0))))] U.heap ∧ va_K (dC, dI) cls_ [(cO, .long)] U ∧ va_D (fun _ => True) [(h0, .inr (9, [.ref qf, .int 0, .ref a2, .ref a3, .int 0, .ref a5, .ref a6, .ref a7, .ref qx, .int 0])), (qo, .inl (cO, 1, .inr (.inl (fun _ => 0))))])) (va_Qi (fun (r : Int32) (_ : Unit) => r = 0) (fun (_ : Unit) (t : State) => va_P (dC, dI) cls_ [(qo, .inl (cO, 1, .inr (.inl (vp_updL (fun _ => 0) (Int32.toNatClampNeg 0) (0)))))] t.heap ∧ va_K (dC, dI) cls_ [(cO, .long)] t ∧ va_D (va_A [(h0, .inr (9, [.ref qf, .int 0, .ref a2, .ref a3, .int 0, .ref a5, .ref a6, .ref a7, .ref qx, .int 0])), (qo, .inl (cO, 1, .inr (.inl (fun _ => 0))))] sz) [(qo, .inl (cO, 1, .inr (.inl (vp_updL (fun _ => 0) (Int32.toNatClampNeg 0) (0)))))]) (va_A [(h0, .inr (9, [.ref qf, .int 0, .ref a2, .ref a3, .int 0, .ref a5, .ref a6, .ref a7, .ref qx, .int 0])), (qo, .inl (cO, 1, .inr (.inl (fun _ => 0))))] sz)) 0 0 (va_A [(h0, .inr (9, [.ref qf, .int 0, .ref a2, .ref a3, .int 0, .ref a5, .ref a6, .ref a7, .ref qx, .int 0])), (qo, .inl (cO, 1, .inr (.inl (fun _ => 0))))] sz) := by
  refine va_MetW (cc := b_LW_cut) (maxL := 4) (ret := (some .int)) (hh := [(0, 9, 12, 15)]) (by decide) rfl ?_
  intro p e s m args below meth c s₁ B hml hv
  obtain ⟨rfl, hsz, hP, hK, hD0⟩ := hv
  have hx := B.exec
  have hb := B.bytes
  have hr := B.returns
  have hts := atoms_spec (ws := s_LW_cut) B.pre
  have hown : s.vm.findClass R_LW = some m.cls := findClass_of_methodNamed B.named
  have hlocks := B.notSynchronized
  obtain ⟨⟨sp9, ep9, hp9, ct9⟩, ents, htab, rfl, rfl, rfl, rfl⟩ := th_tab B (hts _ List.mem_cons_self)
  have hH : ∀ q : Nat, q < s.heap.size → s.heap[q]? = s.heap[q]? := fun _ _ => rfl
  subst hsz
  have hD := hD0.self (sz := s.heap.size)
  generalize hAe : va_A [(h0, .inr (9, [.ref qf, .int 0, .ref a2, .ref a3, .int 0, .ref a5, .ref a6, .ref a7, .ref qx, .int 0])), (qo, .inl (cO, 1, .inr (.inl (fun _ => 0))))] s.heap.size = A at hD ⊢
  have hA : ∀ q : Nat, s.heap.size ≤ q → A q := fun q h => by rw [← hAe]; exact Or.inr h
  have hS : va_S A s.heap s.heap [] := va_S.rf
  have hP : va_P (dC, dI) cls_ [(h0, .inr (9, [.ref qf, .int 0, .ref a2, .ref a3, .int 0, .ref a5, .ref a6, .ref a7, .ref qx, .int 0])), (qo, .inl (cO, 1, .inr (.inl (fun _ => 0))))] s.heap := hP
  have hl := lv_entry ([.ref h0, .int many, .ref qo]) (n := 4) (Nat.le_of_ble_eq_true rfl)
  rw [lg_entry_eq]
  generalize (lg_sl ([.ref h0, .int many, .ref qo]) ++ List.replicate (4 - (lg_sl ([.ref h0, .int many, .ref qo])).length) Slot.unset).toArray = ls at hl ⊢
  have hl : lv_has ls 4 [(0, .ref h0), (1, .int many), (2, .ref qo)] := hl
  refine lv_aload_n hx hb d_LW_cut_0 rfl (lv_at hl 2 rfl) ?_
  refine lv_iconst (v := 0) hx hb d_LW_cut_1 (by decide) ?_
  refine lv_aload_n hx hb d_LW_cut_2 rfl (lv_at hl 0 rfl) ?_
  refine lv_iload_n hx hb d_LW_cut_3 rfl (lv_at hl 1 rfl) ?_
  have hPc := hP.sub (ws' := [(h0, .inr (9, [.ref qf, .int 0, .ref a2, .ref a3, .int 0, .ref a5, .ref a6, .ref a7, .ref qx, .int 0]))]) [0] rfl
  have hDc := hD.sub (ws' := [(h0, .inr (9, [.ref qf, .int 0, .ref a2, .ref a3, .int 0, .ref a5, .ref a6, .ref a7, .ref qx, .int 0]))]) [0] (by decide) rfl
  have hKc := hK.sub (tys' := []) [] rfl
  have hFc := va_free (wc := [(h0, .inr (9, [.ref qf, .int 0, .ref a2, .ref a3, .int 0, .ref a5, .ref a6, .ref a7, .ref qx, .int 0]))]) hD hS hA [0] rfl
  refine va_calli (va_runV (As := [.int many]) (rest := [.int 0, .ref qo]) ⟨hx, hb, hml, hown, hts⟩ (c_GL_cut l dC dI h0 qf a2 a3 a5 a6 a7 qx many s.heap.size hm) (cwV 1 hts (tw_inV w_644 w_645 w_646 w_1 w_647) rfl rfl rfl (by decide +kernel) ⟨Nat.le_of_ble_eq_true rfl, Nat.le_of_ble_eq_true rfl⟩) ⟨fun a U g mk q => by obtain ⟨q0, q1, qP, qK, qD⟩ := q; exact ⟨q0, q1, qP, va_K.moved (u := U) (U := U.calling g mk a) (Vm.Alike.refl U.vm) qK, qD⟩, va_recv (hK := hK) (hP := hP) (q0 := 0) (ci := 9) rfl rfl, fun U hU hW => ⟨rfl, by rw [hU], by rw [hU]; exact hPc, va_K.moved hW.alike hKc, hDc.weaken (fun _ _ _ _ => trivial)⟩⟩ rfl rfl hl.1 rfl (lv_room (Nat.le_of_ble_eq_true rfl)) d_LW_cut_4 ⟨Nat.le_of_ble_eq_true rfl, Nat.le_of_ble_eq_true rfl⟩) hS (fun q _ h => hFc q h) hFc (fun r183 u t H1 locs ht hvm hw hB hz1 hk1 hS => ?_)
  have hP1 : va_P (dC, dI) cls_ [] H1 := fun k q h => by simp at h
  have hD1 : va_D (va_A [(h0, .inr (9, [.ref qf, .int 0, .ref a2, .ref a3, .int 0, .ref a5, .ref a6, .ref a7, .ref qx, .int 0]))] s.heap.size) [] := ⟨fun i j p q h => by simp at h, fun k q h => by simp at h⟩
  obtain ⟨hP, hD⟩ := va_join (wr := [(qo, .inl (cO, 1, .inr (.inl (fun _ => 0))))]) (w1 := []) hP hD [0] [1] rfl rfl (by decide) (by decide) hk1 hFc hP1 hD1
  generalize H1 = H at hP hS ⊢
  have hP : va_P (dC, dI) cls_ [(qo, .inl (cO, 1, .inr (.inl (fun _ => 0))))] H := hP
  have hD : va_D A [(qo, .inl (cO, 1, .inr (.inl (fun _ => 0))))] := hD
  have hw : r183 = 0 := hw
  subst hw
  refine lv_i2l (v := 0) hx hb d_LW_cut_7 (by first | rfl | decide +kernel) ?_
  refine va_last hx hb hK hP hD hS 0 0 rfl rfl (pk_in 0 1 (by decide) (by decide +kernel) (by decide)) d_LW_cut_8 (fun H locs hP hD hS => ?_)
  have hP : va_P (dC, dI) cls_ [(qo, .inl (cO, 1, .inr (.inl (vp_updL (fun _ => 0) (Int32.toNatClampNeg 0) (0)))))] H := hP
  have hD : va_D A [(qo, .inl (cO, 1, .inr (.inl (vp_updL (fun _ => 0) (Int32.toNatClampNeg 0) (0)))))] := hD
  refine lv_goto (tgt := 15) hx hb d_LW_cut_9 (by decide) ?_
  refine lv_iconst (v := 0) hx hb d_LW_cut_15 (by decide) ?_
  refine W.widen (k := 0) (n := 0) (Nat.le_of_ble_eq_true rfl) (Nat.le_of_ble_eq_true rfl) ?_
  have hP9 := hP.sub (ws' := [(qo, .inl (cO, 1, .inr (.inl (vp_updL (fun _ => 0) (Int32.toNatClampNeg 0) (0)))))]) [0] rfl
  have hD9 := hD.sub (ws' := [(qo, .inl (cO, 1, .inr (.inl (vp_updL (fun _ => 0) (Int32.toNatClampNeg 0) (0)))))]) [0] (by decide) rfl
  have hK9 := hK.sub (tys' := [(cO, .long)]) [0] rfl
  exact W.iret (v := 0) hx hb hr (fun t ht hW => ⟨⟨0, (), rfl, rfl, by rw [ht]; exact hP9, va_K.moved hW.alike hK9, hD9⟩, hS.F ht⟩) hS.2.2 d_LW_cut_16
set_option maxHeartbeats 4000000 in
set_option maxRecDepth 100000 in
/-- GlyphLinesLaw.row -/
theorem c_LW_row (l : Launch) (dC : Nat → ClassId) (dI : Nat → Nat → Nat) (h0 qf a2 a3 a5 a6 a7 qx : Nat) (qr qs : Nat) (cB : ClassId) (r : Int32) (qo : Nat) (cO : ClassId) (sz : Nat) (h1 : ¬ r < 0) (h2 : r < 24) : Met l y_LW_row s_LW_row ({ frames := 16, cells := 0, slots := 0, locals := 600 }) (va_Pc [.ref h0, .int r, .ref qo] (fun U => U.heap.size = sz ∧ va_P (dC, dI) cls_ [(h0, .inr (9, [.ref qf, .int 0, .ref a2, .ref a3, .int 0, .ref a5, .ref a6, .ref a7, .ref qx, .int 0])), (a6, .inr (7, [.ref qr, .ref qs])), (qr, .inl (cB, 24, .inr (.inl (fun _ => 0)))), (qo, .inl (cO, 1, .inr (.inl (fun _ => 0))))] U.heap ∧ va_K (dC, dI) cls_ [(cB, .long), (cO, .long)] U ∧ va_D (fun _ => True) [(h0, .inr (9, [.ref qf, .int 0, .ref a2, .ref a3, .int 0, .ref a5, .ref a6, .ref a7, .ref qx, .int 0])), (a6, .inr (7, [.ref qr, .ref qs])), (qr, .inl (cB, 24, .inr (.inl (fun _ => 0)))), (qo, .inl (cO, 1, .inr (.inl (fun _ => 0))))] ∧ va_Nw (.fieldLinkNest "GlyphLines" 153 "GlyphLines$Picture" "rows" "[J" "GlyphLines") U)) (va_Qi (fun (r : Int32) (_ : Unit) => r = 0) (fun (_ : Unit) (t : State) => va_P (dC, dI) cls_ [(qo, .inl (cO, 1, .inr (.inl (vp_updL (fun _ => 0) (Int32.toNatClampNeg 0) (0)))))] t.heap ∧ va_K (dC, dI) cls_ [(cO, .long)] t ∧ va_D (va_A [(h0, .inr (9, [.ref qf, .int 0, .ref a2, .ref a3, .int 0, .ref a5, .ref a6, .ref a7, .ref qx, .int 0])), (a6, .inr (7, [.ref qr, .ref qs])), (qr, .inl (cB, 24, .inr (.inl (fun _ => 0)))), (qo, .inl (cO, 1, .inr (.inl (fun _ => 0))))] sz) [(qo, .inl (cO, 1, .inr (.inl (vp_updL (fun _ => 0) (Int32.toNatClampNeg 0) (0)))))]) (va_A [(h0, .inr (9, [.ref qf, .int 0, .ref a2, .ref a3, .int 0, .ref a5, .ref a6, .ref a7, .ref qx, .int 0])), (a6, .inr (7, [.ref qr, .ref qs])), (qr, .inl (cB, 24, .inr (.inl (fun _ => 0)))), (qo, .inl (cO, 1, .inr (.inl (fun _ => 0))))] sz)) 0 0 (va_A [(h0, .inr (9, [.ref qf, .int 0, .ref a2, .ref a3, .int 0, .ref a5, .ref a6, .ref a7, .ref qx, .int 0])), (a6, .inr (7, [.ref qr, .ref qs])), (qr, .inl (cB, 24, .inr (.inl (fun _ => 0)))), (qo, .inl (cO, 1, .inr (.inl (fun _ => 0))))] sz) := by
  refine va_MetW (cc := b_LW_row) (maxL := 4) (ret := (some .int)) (hh := [(0, 8, 11, 13)]) (by decide) rfl ?_
  intro p e s m args below meth c s₁ B hml hv
  obtain ⟨rfl, hsz, hP, hK, hD0, hN⟩ := hv
  have hx := B.exec
  have hb := B.bytes
  have hr := B.returns
  have hts := atoms_spec (ws := s_LW_row) B.pre
  have hown : s.vm.findClass R_LW = some m.cls := findClass_of_methodNamed B.named
  have hlocks := B.notSynchronized
  obtain ⟨⟨sp9, ep9, hp9, ct9⟩, ents, htab, rfl, rfl, rfl, rfl⟩ := th_tab B (hts _ List.mem_cons_self)
  have hH : ∀ q : Nat, q < s.heap.size → s.heap[q]? = s.heap[q]? := fun _ _ => rfl
  subst hsz
  have hD := hD0.self (sz := s.heap.size)
  generalize hAe : va_A [(h0, .inr (9, [.ref qf, .int 0, .ref a2, .ref a3, .int 0, .ref a5, .ref a6, .ref a7, .ref qx, .int 0])), (a6, .inr (7, [.ref qr, .ref qs])), (qr, .inl (cB, 24, .inr (.inl (fun _ => 0)))), (qo, .inl (cO, 1, .inr (.inl (fun _ => 0))))] s.heap.size = A at hD ⊢
  have hA : ∀ q : Nat, s.heap.size ≤ q → A q := fun q h => by rw [← hAe]; exact Or.inr h
  have hS : va_S A s.heap s.heap [] := va_S.rf
  have hP : va_P (dC, dI) cls_ [(h0, .inr (9, [.ref qf, .int 0, .ref a2, .ref a3, .int 0, .ref a5, .ref a6, .ref a7, .ref qx, .int 0])), (a6, .inr (7, [.ref qr, .ref qs])), (qr, .inl (cB, 24, .inr (.inl (fun _ => 0)))), (qo, .inl (cO, 1, .inr (.inl (fun _ => 0))))] s.heap := hP
  have hl := lv_entry ([.ref h0, .int r, .ref qo]) (n := 4) (Nat.le_of_ble_eq_true rfl)
  rw [lg_entry_eq]
  generalize (lg_sl ([.ref h0, .int r, .ref qo]) ++ List.replicate (4 - (lg_sl ([.ref h0, .int r, .ref qo])).length) Slot.unset).toArray = ls at hl ⊢
  have hl : lv_has ls 4 [(0, .ref h0), (1, .int r), (2, .ref qo)] := hl
  refine lv_aload_n hx hb d_LW_row_0 rfl (lv_at hl 2 rfl) ?_
  refine lv_iconst (v := 0) hx hb d_LW_row_1 (by decide) ?_
  refine lv_aload_n hx hb d_LW_row_2 rfl (lv_at hl 0 rfl) ?_
  refine lv_iload_n hx hb d_LW_row_3 rfl (lv_at hl 1 rfl) ?_
  have hPc := hP.sub (ws' := [(h0, .inr (9, [.ref qf, .int 0, .ref a2, .ref a3, .int 0, .ref a5, .ref a6, .ref a7, .ref qx, .int 0])), (a6, .inr (7, [.ref qr, .ref qs])), (qr, .inl (cB, 24, .inr (.inl (fun _ => 0))))]) [0, 1, 2] rfl
  have hDc := hD.sub (ws' := [(h0, .inr (9, [.ref qf, .int 0, .ref a2, .ref a3, .int 0, .ref a5, .ref a6, .ref a7, .ref qx, .int 0])), (a6, .inr (7, [.ref qr, .ref qs])), (qr, .inl (cB, 24, .inr (.inl (fun _ => 0))))]) [0, 1, 2] (by decide) rfl
  have hKc := hK.sub (tys' := [(cB, .long)]) [0] rfl
  have hFc := va_free (wc := [(h0, .inr (9, [.ref qf, .int 0, .ref a2, .ref a3, .int 0, .ref a5, .ref a6, .ref a7, .ref qx, .int 0])), (a6, .inr (7, [.ref qr, .ref qs])), (qr, .inl (cB, 24, .inr (.inl (fun _ => 0))))]) hD hS hA [0, 1, 2] rfl
  refine va_calll (va_runV (As := [.int r]) (rest := [.int 0, .ref qo]) ⟨hx, hb, hml, hown, hts⟩ (c_GL_row l dC dI h0 qf a2 a3 a5 a6 a7 qx qr qs cB r s.heap.size h1 h2) (cwV 1 hts (tw_inV w_841 w_842 w_843 w_1 w_844) rfl rfl rfl (by decide +kernel) ⟨Nat.le_of_ble_eq_true rfl, Nat.le_of_ble_eq_true rfl⟩) ⟨fun a U g mk q => by obtain ⟨q0, q1, qP, qK, qD, qE0⟩ := q; exact ⟨q0, q1, qP, va_K.moved (u := U) (U := U.calling g mk a) (Vm.Alike.refl U.vm) qK, qD, va_Nw.same rfl (u := U) (U := U.calling g mk a) rfl qE0⟩, va_recv (hK := hK) (hP := hP) (q0 := 0) (ci := 9) rfl rfl, fun U hU hW => ⟨rfl, by rw [hU], by rw [hU]; exact hPc, va_K.moved hW.alike hKc, hDc.weaken (fun _ _ _ _ => trivial), va_Nw.warmF hW hN⟩⟩ rfl rfl hl.1 rfl (lv_room (Nat.le_of_ble_eq_true rfl)) d_LW_row_4 ⟨Nat.le_of_ble_eq_true rfl, Nat.le_of_ble_eq_true rfl⟩) hS (fun q _ h => hFc q h) hFc (fun r184 u t H1 locs ht hvm hw hB hz1 hk1 hS => ?_)
  have hP1 : va_P (dC, dI) cls_ [] H1 := fun k q h => by simp at h
  have hD1 : va_D (va_A [(h0, .inr (9, [.ref qf, .int 0, .ref a2, .ref a3, .int 0, .ref a5, .ref a6, .ref a7, .ref qx, .int 0])), (a6, .inr (7, [.ref qr, .ref qs])), (qr, .inl (cB, 24, .inr (.inl (fun _ => 0))))] s.heap.size) [] := ⟨fun i j p q h => by simp at h, fun k q h => by simp at h⟩
  obtain ⟨hP, hD⟩ := va_join (wr := [(qo, .inl (cO, 1, .inr (.inl (fun _ => 0))))]) (w1 := []) hP hD [0, 1, 2] [3] rfl rfl (by decide) (by decide) hk1 hFc hP1 hD1
  generalize H1 = H at hP hS ⊢
  have hP : va_P (dC, dI) cls_ [(qo, .inl (cO, 1, .inr (.inl (fun _ => 0))))] H := hP
  have hD : va_D A [(qo, .inl (cO, 1, .inr (.inl (fun _ => 0))))] := hD
  have hw : r184 = 0 := hw
  subst hw
  refine va_last hx hb hK hP hD hS 0 1 rfl rfl (pk_in 0 1 (by decide) (by decide +kernel) (by decide)) d_LW_row_7 (fun H locs hP hD hS => ?_)
  have hP : va_P (dC, dI) cls_ [(qo, .inl (cO, 1, .inr (.inl (vp_updL (fun _ => 0) (Int32.toNatClampNeg 0) (0)))))] H := hP
  have hD : va_D A [(qo, .inl (cO, 1, .inr (.inl (vp_updL (fun _ => 0) (Int32.toNatClampNeg 0) (0)))))] := hD
  refine lv_goto (tgt := 14) hx hb d_LW_row_8 (by decide) ?_
  refine lv_iconst (v := 0) hx hb d_LW_row_14 (by decide) ?_
  refine W.widen (k := 0) (n := 0) (Nat.le_of_ble_eq_true rfl) (Nat.le_of_ble_eq_true rfl) ?_
  have hP9 := hP.sub (ws' := [(qo, .inl (cO, 1, .inr (.inl (vp_updL (fun _ => 0) (Int32.toNatClampNeg 0) (0)))))]) [0] rfl
  have hD9 := hD.sub (ws' := [(qo, .inl (cO, 1, .inr (.inl (vp_updL (fun _ => 0) (Int32.toNatClampNeg 0) (0)))))]) [0] (by decide) rfl
  have hK9 := hK.sub (tys' := [(cO, .long)]) [1] rfl
  exact W.iret (v := 0) hx hb hr (fun t ht hW => ⟨⟨0, (), rfl, rfl, by rw [ht]; exact hP9, va_K.moved hW.alike hK9, hD9⟩, hS.F ht⟩) hS.2.2 d_LW_row_15
abbrev b_LW_law : ByteArray := code
