abbrev b_MD_number : ByteArray := prog_12_method_8_code
def y_MD_number : MethodName := ⟨R_MD, "number", "(III)J"⟩
def s_MD_number : List Cond := .code y_MD_number b_MD_number 7 (some .long) :: tw_T
abbrev b_MD_u16 : ByteArray := prog_12_method_9_code
def y_MD_u16 : MethodName := ⟨R_MD, "u16", "(III)I"⟩
def s_MD_u16 : List Cond := .code y_MD_u16 b_MD_u16 4 (some .int) :: tw_T
abbrev b_MD_s16 : ByteArray := prog_12_method_10_code
def y_MD_s16 : MethodName := ⟨R_MD, "s16", "(III)I"⟩
def s_MD_s16 : List Cond := .code y_MD_s16 b_MD_s16 4 (some .int) :: tw_T
abbrev b_MD_tableOf : ByteArray := prog_12_method_11_code
def y_MD_tableOf : MethodName := ⟨R_MD, "tableOf", "(J)I"⟩
def s_MD_tableOf : List Cond := .code y_MD_tableOf b_MD_tableOf 2 (some .int) :: tw_T
abbrev b_MD_isLong : ByteArray := prog_12_method_15_code
def y_MD_isLong : MethodName := ⟨R_MD, "isLong", "(IIJ)Z"⟩
def s_MD_isLong : List Cond := .code y_MD_isLong b_MD_isLong 5 (some .boolean) :: tw_T
abbrev b_MD_locaAt : ByteArray := prog_12_method_16_code
def y_MD_locaAt : MethodName := ⟨R_MD, "locaAt", "(II)J"⟩
def s_MD_locaAt : List Cond := .code y_MD_locaAt b_MD_locaAt 3 (some .long) :: tw_T
theorem w_11 : (Jvm.Cond.initialized "GlyphLinesModel") ∈ tw_T := tw_of 11 (by decide +kernel) (by decide +kernel)
theorem w_857 : (Jvm.Cond.fieldLink "GlyphLinesModel" (13 : Nat) "GlyphLinesModel" "bytes" "[I") ∈ tw_T := tw_of 857 (by decide +kernel) (by decide +kernel)
theorem w_858 : (Jvm.Cond.fieldLink "GlyphLinesModel" (16 : Nat) "GlyphLinesModel" "places" "[I") ∈ tw_T := tw_of 858 (by decide +kernel) (by decide +kernel)
theorem w_859 : (Jvm.Cond.fieldLink "GlyphLinesModel" (19 : Nat) "GlyphLinesModel" "lengths" "[I") ∈ tw_T := tw_of 859 (by decide +kernel) (by decide +kernel)
theorem w_863 : (Jvm.Cond.fieldLink "GlyphLinesModel" (31 : Nat) "GlyphLinesModel" "forms" "[I") ∈ tw_T := tw_of 863 (by decide +kernel) (by decide +kernel)
theorem w_993 : (Jvm.Cond.methodLink "GlyphLinesModel" (103 : Nat) ({ cls := "GlyphLinesModel", name := "number", desc := "(III)J" } : Jvm.MethodName)) ∈ tw_T := tw_of 993 (by decide +kernel) (by decide +kernel)
theorem w_995 : (Jvm.Cond.instanceMethod ({ cls := "GlyphLinesModel", name := "number", desc := "(III)J" } : Jvm.MethodName)) ∈ tw_T := tw_of 995 (by decide +kernel) (by decide +kernel)
theorem w_996 : (Jvm.Cond.code ({ cls := "GlyphLinesModel", name := "number", desc := "(III)J" } : Jvm.MethodName) prog_12_method_8_code (7 : Nat) (Option.some Jvm.ClassFile.FieldType.long)) ∈ tw_T := tw_of 996 (by decide +kernel) (by decide +kernel)
theorem w_997 : (Jvm.Cond.constantLong "GlyphLinesModel" (101 : Nat) (256 : Int64)) ∈ tw_T := tw_of 997 (by decide +kernel) (by decide +kernel)
theorem w_1022 : (Jvm.Cond.methodLink "GlyphLinesModel" (107 : Nat) ({ cls := "GlyphLinesModel", name := "u16", desc := "(III)I" } : Jvm.MethodName)) ∈ tw_T := tw_of 1022 (by decide +kernel) (by decide +kernel)
theorem w_1024 : (Jvm.Cond.instanceMethod ({ cls := "GlyphLinesModel", name := "u16", desc := "(III)I" } : Jvm.MethodName)) ∈ tw_T := tw_of 1024 (by decide +kernel) (by decide +kernel)
theorem w_1025 : (Jvm.Cond.code ({ cls := "GlyphLinesModel", name := "u16", desc := "(III)I" } : Jvm.MethodName) prog_12_method_9_code (4 : Nat) (Option.some Jvm.ClassFile.FieldType.int)) ∈ tw_T := tw_of 1025 (by decide +kernel) (by decide +kernel)
theorem w_1031 : (Jvm.Cond.constantLong "GlyphLinesModel" (119 : Nat) (2 : Int64)) ∈ tw_T := tw_of 1031 (by decide +kernel) (by decide +kernel)
theorem wp_36 : Cond.selects "GlyphLinesModel" ({ cls := "GlyphLinesModel", name := "number", desc := "(III)J" } : Jvm.MethodName) ({ cls := "GlyphLinesModel", name := "number", desc := "(III)J" } : Jvm.MethodName) ∈ tw_T := tw_priv 36 (({ cls := "GlyphLinesModel", name := "number", desc := "(III)J" } : Jvm.MethodName), 36) (by decide +kernel) (by decide +kernel)
theorem wp_41 : Cond.selects "GlyphLinesModel" ({ cls := "GlyphLinesModel", name := "u16", desc := "(III)I" } : Jvm.MethodName) ({ cls := "GlyphLinesModel", name := "u16", desc := "(III)I" } : Jvm.MethodName) ∈ tw_T := tw_priv 41 (({ cls := "GlyphLinesModel", name := "u16", desc := "(III)I" } : Jvm.MethodName), 36) (by decide +kernel) (by decide +kernel)
theorem d_MD_isLong_0 : decode b_MD_isLong 0 = .ok (.aload_n 0, 1) := by decide +kernel
theorem d_MD_isLong_1 : decode b_MD_isLong 1 = .ok (.getfield 19, 3) := by decide +kernel
theorem d_MD_isLong_10 : decode b_MD_isLong 10 = .ok (.iaload, 1) := by decide +kernel
theorem d_MD_isLong_11 : decode b_MD_isLong 11 = .ok (.i2l, 1) := by decide +kernel
theorem d_MD_isLong_12 : decode b_MD_isLong 12 = .ok (.lload_n 3, 1) := by decide +kernel
theorem d_MD_isLong_13 : decode b_MD_isLong 13 = .ok (.lcmp, 1) := by decide +kernel
theorem d_MD_isLong_14 : decode b_MD_isLong 14 = .ok (.ifCond .lt (7), 3) := by decide +kernel
theorem d_MD_isLong_17 : decode b_MD_isLong 17 = .ok (.iconst 1, 1) := by decide +kernel
theorem d_MD_isLong_18 : decode b_MD_isLong 18 = .ok (.goto (4), 3) := by decide +kernel
theorem d_MD_isLong_21 : decode b_MD_isLong 21 = .ok (.iconst 0, 1) := by decide +kernel
theorem d_MD_isLong_22 : decode b_MD_isLong 22 = .ok (.ireturn, 1) := by decide +kernel
theorem d_MD_isLong_4 : decode b_MD_isLong 4 = .ok (.bipush 8, 2) := by decide +kernel
theorem d_MD_isLong_6 : decode b_MD_isLong 6 = .ok (.iload_n 1, 1) := by decide +kernel
theorem d_MD_isLong_7 : decode b_MD_isLong 7 = .ok (.imul, 1) := by decide +kernel
theorem d_MD_isLong_8 : decode b_MD_isLong 8 = .ok (.iload_n 2, 1) := by decide +kernel
theorem d_MD_isLong_9 : decode b_MD_isLong 9 = .ok (.iadd, 1) := by decide +kernel
theorem d_MD_locaAt_0 : decode b_MD_locaAt 0 = .ok (.aload_n 0, 1) := by decide +kernel
theorem d_MD_locaAt_1 : decode b_MD_locaAt 1 = .ok (.getfield 31, 3) := by decide +kernel
theorem d_MD_locaAt_12 : decode b_MD_locaAt 12 = .ok (.aload_n 0, 1) := by decide +kernel
theorem d_MD_locaAt_13 : decode b_MD_locaAt 13 = .ok (.iload_n 1, 1) := by decide +kernel
theorem d_MD_locaAt_14 : decode b_MD_locaAt 14 = .ok (.bipush 6, 2) := by decide +kernel
theorem d_MD_locaAt_16 : decode b_MD_locaAt 16 = .ok (.iconst 2, 1) := by decide +kernel
theorem d_MD_locaAt_17 : decode b_MD_locaAt 17 = .ok (.iload_n 2, 1) := by decide +kernel
theorem d_MD_locaAt_18 : decode b_MD_locaAt 18 = .ok (.imul, 1) := by decide +kernel
theorem d_MD_locaAt_19 : decode b_MD_locaAt 19 = .ok (.invokevirtual 107, 3) := by decide +kernel
theorem d_MD_locaAt_22 : decode b_MD_locaAt 22 = .ok (.i2l, 1) := by decide +kernel
theorem d_MD_locaAt_23 : decode b_MD_locaAt 23 = .ok (.lmul, 1) := by decide +kernel
theorem d_MD_locaAt_24 : decode b_MD_locaAt 24 = .ok (.goto (25), 3) := by decide +kernel
theorem d_MD_locaAt_27 : decode b_MD_locaAt 27 = .ok (.aload_n 0, 1) := by decide +kernel
theorem d_MD_locaAt_28 : decode b_MD_locaAt 28 = .ok (.iload_n 1, 1) := by decide +kernel
theorem d_MD_locaAt_29 : decode b_MD_locaAt 29 = .ok (.aload_n 0, 1) := by decide +kernel
theorem d_MD_locaAt_30 : decode b_MD_locaAt 30 = .ok (.getfield 16, 3) := by decide +kernel
theorem d_MD_locaAt_33 : decode b_MD_locaAt 33 = .ok (.bipush 8, 2) := by decide +kernel
theorem d_MD_locaAt_35 : decode b_MD_locaAt 35 = .ok (.iload_n 1, 1) := by decide +kernel
theorem d_MD_locaAt_36 : decode b_MD_locaAt 36 = .ok (.imul, 1) := by decide +kernel
theorem d_MD_locaAt_37 : decode b_MD_locaAt 37 = .ok (.bipush 6, 2) := by decide +kernel
theorem d_MD_locaAt_39 : decode b_MD_locaAt 39 = .ok (.iadd, 1) := by decide +kernel
theorem d_MD_locaAt_4 : decode b_MD_locaAt 4 = .ok (.iload_n 1, 1) := by decide +kernel
theorem d_MD_locaAt_40 : decode b_MD_locaAt 40 = .ok (.iaload, 1) := by decide +kernel
theorem d_MD_locaAt_41 : decode b_MD_locaAt 41 = .ok (.iconst 4, 1) := by decide +kernel
theorem d_MD_locaAt_42 : decode b_MD_locaAt 42 = .ok (.iload_n 2, 1) := by decide +kernel
theorem d_MD_locaAt_43 : decode b_MD_locaAt 43 = .ok (.imul, 1) := by decide +kernel
theorem d_MD_locaAt_44 : decode b_MD_locaAt 44 = .ok (.iadd, 1) := by decide +kernel
theorem d_MD_locaAt_45 : decode b_MD_locaAt 45 = .ok (.iconst 4, 1) := by decide +kernel
theorem d_MD_locaAt_46 : decode b_MD_locaAt 46 = .ok (.invokevirtual 103, 3) := by decide +kernel
theorem d_MD_locaAt_49 : decode b_MD_locaAt 49 = .ok (.lreturn, 1) := by decide +kernel
theorem d_MD_locaAt_5 : decode b_MD_locaAt 5 = .ok (.iaload, 1) := by decide +kernel
theorem d_MD_locaAt_6 : decode b_MD_locaAt 6 = .ok (.ifCond .ne (21), 3) := by decide +kernel
theorem d_MD_locaAt_9 : decode b_MD_locaAt 9 = .ok (.ldc2_w 119, 3) := by decide +kernel
theorem d_MD_number_0 : decode b_MD_number 0 = .ok (.lconst 0, 1) := by decide +kernel
theorem d_MD_number_1 : decode b_MD_number 1 = .ok (.lstore 4, 2) := by decide +kernel
theorem d_MD_number_12 : decode b_MD_number 12 = .ok (.lload 4, 2) := by decide +kernel
theorem d_MD_number_14 : decode b_MD_number 14 = .ok (.ldc2_w 101, 3) := by decide +kernel
theorem d_MD_number_17 : decode b_MD_number 17 = .ok (.lmul, 1) := by decide +kernel
theorem d_MD_number_18 : decode b_MD_number 18 = .ok (.aload_n 0, 1) := by decide +kernel
theorem d_MD_number_19 : decode b_MD_number 19 = .ok (.getfield 13, 3) := by decide +kernel
theorem d_MD_number_22 : decode b_MD_number 22 = .ok (.sipush 1200, 3) := by decide +kernel
theorem d_MD_number_25 : decode b_MD_number 25 = .ok (.iload_n 1, 1) := by decide +kernel
theorem d_MD_number_26 : decode b_MD_number 26 = .ok (.imul, 1) := by decide +kernel
theorem d_MD_number_27 : decode b_MD_number 27 = .ok (.iload_n 2, 1) := by decide +kernel
theorem d_MD_number_28 : decode b_MD_number 28 = .ok (.iadd, 1) := by decide +kernel
theorem d_MD_number_29 : decode b_MD_number 29 = .ok (.iload 6, 2) := by decide +kernel
theorem d_MD_number_3 : decode b_MD_number 3 = .ok (.iconst 0, 1) := by decide +kernel
theorem d_MD_number_31 : decode b_MD_number 31 = .ok (.iadd, 1) := by decide +kernel
theorem d_MD_number_32 : decode b_MD_number 32 = .ok (.iaload, 1) := by decide +kernel
theorem d_MD_number_33 : decode b_MD_number 33 = .ok (.i2l, 1) := by decide +kernel
theorem d_MD_number_34 : decode b_MD_number 34 = .ok (.ladd, 1) := by decide +kernel
theorem d_MD_number_35 : decode b_MD_number 35 = .ok (.lstore 4, 2) := by decide +kernel
theorem d_MD_number_37 : decode b_MD_number 37 = .ok (.iinc 6 (1), 3) := by decide +kernel
theorem d_MD_number_4 : decode b_MD_number 4 = .ok (.istore 6, 2) := by decide +kernel
theorem d_MD_number_40 : decode b_MD_number 40 = .ok (.goto (-34), 3) := by decide +kernel
theorem d_MD_number_43 : decode b_MD_number 43 = .ok (.lload 4, 2) := by decide +kernel
theorem d_MD_number_45 : decode b_MD_number 45 = .ok (.lreturn, 1) := by decide +kernel
theorem d_MD_number_6 : decode b_MD_number 6 = .ok (.iload 6, 2) := by decide +kernel
theorem d_MD_number_8 : decode b_MD_number 8 = .ok (.iload_n 3, 1) := by decide +kernel
theorem d_MD_number_9 : decode b_MD_number 9 = .ok (.if_icmp .ge (34), 3) := by decide +kernel
theorem d_MD_s16_0 : decode b_MD_s16 0 = .ok (.aload_n 0, 1) := by decide +kernel
theorem d_MD_s16_1 : decode b_MD_s16 1 = .ok (.iload_n 1, 1) := by decide +kernel
theorem d_MD_s16_2 : decode b_MD_s16 2 = .ok (.iload_n 2, 1) := by decide +kernel
theorem d_MD_s16_3 : decode b_MD_s16 3 = .ok (.iload_n 3, 1) := by decide +kernel
theorem d_MD_s16_4 : decode b_MD_s16 4 = .ok (.invokevirtual 107, 3) := by decide +kernel
theorem d_MD_s16_7 : decode b_MD_s16 7 = .ok (.i2s, 1) := by decide +kernel
theorem d_MD_s16_8 : decode b_MD_s16 8 = .ok (.ireturn, 1) := by decide +kernel
theorem d_MD_tableOf_0 : decode b_MD_tableOf 0 = .ok (.lload_n 0, 1) := by decide +kernel
theorem d_MD_tableOf_1 : decode b_MD_tableOf 1 = .ok (.l2i, 1) := by decide +kernel
theorem d_MD_tableOf_2 : decode b_MD_tableOf 2 = .ok (.lookupswitch (92) #[(1668112752, 74), (1735162214, 76), (1751474532, 78), (1751672161, 80), (1752003704, 82), (1801810542, 84), (1819239265, 86), (1835104368, 89)], 74) := by decide +kernel
theorem d_MD_tableOf_76 : decode b_MD_tableOf 76 = .ok (.iconst 0, 1) := by decide +kernel
theorem d_MD_tableOf_77 : decode b_MD_tableOf 77 = .ok (.ireturn, 1) := by decide +kernel
theorem d_MD_tableOf_78 : decode b_MD_tableOf 78 = .ok (.iconst 1, 1) := by decide +kernel
theorem d_MD_tableOf_79 : decode b_MD_tableOf 79 = .ok (.ireturn, 1) := by decide +kernel
theorem d_MD_tableOf_80 : decode b_MD_tableOf 80 = .ok (.iconst 2, 1) := by decide +kernel
theorem d_MD_tableOf_81 : decode b_MD_tableOf 81 = .ok (.ireturn, 1) := by decide +kernel
theorem d_MD_tableOf_82 : decode b_MD_tableOf 82 = .ok (.iconst 3, 1) := by decide +kernel
theorem d_MD_tableOf_83 : decode b_MD_tableOf 83 = .ok (.ireturn, 1) := by decide +kernel
theorem d_MD_tableOf_84 : decode b_MD_tableOf 84 = .ok (.iconst 4, 1) := by decide +kernel
theorem d_MD_tableOf_85 : decode b_MD_tableOf 85 = .ok (.ireturn, 1) := by decide +kernel
theorem d_MD_tableOf_86 : decode b_MD_tableOf 86 = .ok (.iconst 5, 1) := by decide +kernel
theorem d_MD_tableOf_87 : decode b_MD_tableOf 87 = .ok (.ireturn, 1) := by decide +kernel
theorem d_MD_tableOf_88 : decode b_MD_tableOf 88 = .ok (.bipush 6, 2) := by decide +kernel
theorem d_MD_tableOf_90 : decode b_MD_tableOf 90 = .ok (.ireturn, 1) := by decide +kernel
theorem d_MD_tableOf_91 : decode b_MD_tableOf 91 = .ok (.bipush 7, 2) := by decide +kernel
theorem d_MD_tableOf_93 : decode b_MD_tableOf 93 = .ok (.ireturn, 1) := by decide +kernel
theorem d_MD_tableOf_94 : decode b_MD_tableOf 94 = .ok (.iconst (-1), 1) := by decide +kernel
theorem d_MD_tableOf_95 : decode b_MD_tableOf 95 = .ok (.ireturn, 1) := by decide +kernel
theorem d_MD_u16_0 : decode b_MD_u16 0 = .ok (.aload_n 0, 1) := by decide +kernel
theorem d_MD_u16_1 : decode b_MD_u16 1 = .ok (.iload_n 1, 1) := by decide +kernel
theorem d_MD_u16_10 : decode b_MD_u16 10 = .ok (.iload_n 2, 1) := by decide +kernel
theorem d_MD_u16_11 : decode b_MD_u16 11 = .ok (.iadd, 1) := by decide +kernel
theorem d_MD_u16_12 : decode b_MD_u16 12 = .ok (.iaload, 1) := by decide +kernel
theorem d_MD_u16_13 : decode b_MD_u16 13 = .ok (.iload_n 3, 1) := by decide +kernel
theorem d_MD_u16_14 : decode b_MD_u16 14 = .ok (.iadd, 1) := by decide +kernel
theorem d_MD_u16_15 : decode b_MD_u16 15 = .ok (.iconst 2, 1) := by decide +kernel
theorem d_MD_u16_16 : decode b_MD_u16 16 = .ok (.invokevirtual 103, 3) := by decide +kernel
theorem d_MD_u16_19 : decode b_MD_u16 19 = .ok (.l2i, 1) := by decide +kernel
theorem d_MD_u16_2 : decode b_MD_u16 2 = .ok (.aload_n 0, 1) := by decide +kernel
theorem d_MD_u16_20 : decode b_MD_u16 20 = .ok (.ireturn, 1) := by decide +kernel
theorem d_MD_u16_3 : decode b_MD_u16 3 = .ok (.getfield 16, 3) := by decide +kernel
theorem d_MD_u16_6 : decode b_MD_u16 6 = .ok (.bipush 8, 2) := by decide +kernel
theorem d_MD_u16_8 : decode b_MD_u16 8 = .ok (.iload_n 1, 1) := by decide +kernel
theorem d_MD_u16_9 : decode b_MD_u16 9 = .ok (.imul, 1) := by decide +kernel
def isN (n : Nat) (f : Nat → Int32) : Prop := ∀ j : Nat, ∃ v : Nat, v < n ∧ f j = nI v
def bn (f : Nat → Int32) (i : Nat) : Nat := (f i).toNatClampNeg
theorem isN_at {B : Nat} {f : Nat → Int32} (h : isN B f) (j : Nat) (hB : B ≤ 2 ^ 31 := by decide) : ∃ v : Nat, v < B ∧ v = bn f j ∧ f j = nI v := by
  obtain ⟨v, h1, h2⟩ := h j
  refine ⟨v, h1, ?_, h2⟩
  unfold bn
  rw [h2, nI_clamp (by omega)]
theorem isN_upd {B : Nat} {f : Nat → Int32} {i : Nat} {x : Int32} (h : isN B f) (hx : ∃ v : Nat, v < B ∧ x = nI v) : isN B (upd f i x) := fun j => by
  unfold upd
  split
  · exact hx
  · exact h j
theorem up_same (f : Nat → Int32) (i : Nat) (x : Int32) : upd f i x i = x := if_pos rfl
theorem up_ne {f : Nat → Int32} {i j : Nat} {x : Int32} (h : j ≠ i) : upd f i x j = f j := if_neg h
def num1 (b : Nat → Int32) (o : Nat) : Nat := bn b o
def num2 (b : Nat → Int32) (o : Nat) : Nat := bn b o * 256 + bn b (o + 1)
def num4 (b : Nat → Int32) (o : Nat) : Nat := ((bn b o * 256 + bn b (o + 1)) * 256 + bn b (o + 2)) * 256 + bn b (o + 3)
theorem lc_lt {v : Int32} {a b : Nat} (e : v = lg_cmp (lN a) (lN b)) (ha : a < 2 ^ 63) (hb : b < 2 ^ 63) : v < 0 ↔ a < b := by rw [e, lg_cmp_lt, pk_lLT ha hb]
theorem lc_gt {v : Int32} {a b : Nat} (e : v = lg_cmp (lN a) (lN b)) (ha : a < 2 ^ 63) (hb : b < 2 ^ 63) : 0 < v ↔ b < a := by rw [e, lg_cmp_gt, pk_lLT hb ha]
theorem lc_le {v : Int32} {a b : Nat} (e : v = lg_cmp (lN a) (lN b)) (ha : a < 2 ^ 63) (hb : b < 2 ^ 63) : v ≤ 0 ↔ a ≤ b := by rw [e, lg_cmp_le, pk_lLE ha hb]
theorem lc_ge {v : Int32} {a b : Nat} (e : v = lg_cmp (lN a) (lN b)) (ha : a < 2 ^ 63) (hb : b < 2 ^ 63) : 0 ≤ v ↔ b ≤ a := by rw [e, lg_cmp_ge, pk_lLE hb ha]
theorem lc_eq {v : Int32} {a b : Nat} (e : v = lg_cmp (lN a) (lN b)) (ha : a < 2 ^ 63) (hb : b < 2 ^ 63) : v = 0 ↔ a = b := by rw [e, lg_cmp_eq, pk_lEQ ha hb]
def kp (a n : Nat) (f g : Nat → Int32) : Prop := ∀ i : Nat, (i < a ∨ a + n ≤ i) → g i = f i
theorem kp_rf {a n : Nat} {f : Nat → Int32} : kp a n f f := fun _ _ => rfl
theorem kp_upd {a n i : Nat} {f g : Nat → Int32} {x : Int32} (h : kp a n f g) (h1 : a ≤ i) (h2 : i < a + n) : kp a n f (upd g i x) := fun j hj => by rw [up_ne (by omega)]; exact h j hj
theorem kp_tr {a n : Nat} {f g k : Nat → Int32} (h : kp a n f g) (h2 : kp a n g k) : kp a n f k := fun j hj => (h2 j hj).trans (h j hj)
def negs (p : Nat → Int32) (o k : Nat) : Prop := ∀ u : Nat, u < k → p (o + u) < 0
theorem negs_s {p : Nat → Int32} {o k : Nat} (h : negs p o k) : negs (upd p (o + k) (-1)) o (k + 1) := fun u hu => by
  by_cases hk : u = k
  · rw [hk, up_same]; decide +kernel
  · rw [up_ne (by omega)]; exact h u (by omega)
def tabO (p l : Nat → Int32) (o : Nat) : Prop := ∀ t : Nat, t < 8 → p (o + t) < 0 ∨ ∃ q n : Nat, p (o + t) = nI q ∧ l (o + t) = nI n ∧ q + n ≤ 1200
theorem tabO_n {p l : Nat → Int32} {o : Nat} (h : negs p o 8) : tabO p l o := fun t ht => Or.inl (h t ht)
theorem tabO_u {p l : Nat → Int32} {o t q n : Nat} (h : tabO p l o) (hq : q + n ≤ 1200) : tabO (upd p (o + t) (nI q)) (upd l (o + t) (nI n)) o := fun u hu => by
  by_cases e : u = t
  · subst e
    exact Or.inr ⟨q, n, up_same _ _ _, up_same _ _ _, hq⟩
  · rw [up_ne (by omega), up_ne (by omega)]; exact h u hu
theorem tab_of {r : Int32} (h : r = -1 ∨ ∃ t : Nat, t < 8 ∧ r = nI t) (hn : ¬ r < 0) : ∃ t : Nat, t < 8 ∧ r = nI t := h.elim (fun z => absurd (by rw [z]; decide +kernel) hn) id
def dirs (b : Nat → Int32) (o k : Nat) : Prop := ∀ j : Nat, j < k → num4 b (o + (20 + 16 * j)) + num4 b (o + (24 + 16 * j)) ≤ 1200
theorem dirs_s {b : Nat → Int32} {o k : Nat} (h : dirs b o k) (h2 : num4 b (o + (20 + 16 * k)) + num4 b (o + (24 + 16 * k)) ≤ 1200) : dirs b o (k + 1) := fun j hj => by
  by_cases e : j = k
  · rw [e]; exact h2
  · exact h j (by omega)
def allP (p : Nat → Int32) (o k : Nat) : Prop := ∀ u : Nat, u < k → u ≠ 5 → ¬ p (o + u) < 0
theorem allP_5 {p : Nat → Int32} {o k : Nat} (h : allP p o k) (hk : k = 5) : allP p o (k + 1) := fun u hu h5 => h u (by omega) h5
theorem allP_s {p : Nat → Int32} {o k : Nat} {v : Int32} (h : allP p o k) (e : v = p (Int32.toNatClampNeg (nI (o + k)))) (hk : o + k < 2 ^ 31) (hn : ¬ v < 0) : allP p o (k + 1) := fun u hu h5 => by
  by_cases q : u = k
  · rw [q]; rw [nI_clamp hk] at e; rw [← e]; exact hn
  · exact h u (by omega) h5
def loc (b : Nat → Int32) (s fo q g : Nat) : Nat := if fo = 0 then 2 * num2 b (1200 * s + (q + 2 * g)) else num4 b (1200 * s + (q + 4 * g))
theorem loc_0 {b : Nat → Int32} {s q g fo : Nat} (h : fo = 0) : loc b s fo q g = 2 * num2 b (1200 * s + (q + 2 * g)) := if_pos h
theorem loc_1 {b : Nat → Int32} {s q g fo : Nat} (h : ¬ fo = 0) : loc b s fo q g = num4 b (1200 * s + (q + 4 * g)) := if_neg h
def locUp (b : Nat → Int32) (s fo q k : Nat) : Prop := ∀ j : Nat, j < k → loc b s fo q j ≤ loc b s fo q (j + 1)
theorem locUp_s {b : Nat → Int32} {s fo q k x y : Nat} (h : locUp b s fo q k) (e1 : x = loc b s fo q k) (e2 : y = loc b s fo q (k + 1)) (h2 : ¬ (y < x)) : locUp b s fo q (k + 1) := fun j hj => by
  by_cases e : j = k
  · rw [e]; omega
  · exact h j (by omega)
def locOK (b : Nat → Int32) (s fo q gc n : Nat) : Prop := ∀ g : Nat, g ≤ gc → loc b s fo q g ≤ n
theorem locOK_of {b : Nat → Int32} {s fo q gc n x : Nat} (h : locUp b s fo q gc) (e : x = loc b s fo q gc) (h2 : ¬ n < x) : locOK b s fo q gc n := by
  have key : ∀ d g : Nat, g + d = gc → loc b s fo q g ≤ n := by
    intro d
    induction d with
    | zero => intro g hg; rw [show g = gc by omega]; omega
    | succ d ih => intro g hg; exact Nat.le_trans (h g (by omega)) (ih (g + 1) (by omega))
  exact fun g hg => key (gc - g) g (by omega)
set_option maxHeartbeats 4000000 in
set_option maxRecDepth 100000 in
/-- GlyphLinesModel.number -/
theorem g_MD_number1 (l : Launch) (dC : Nat → ClassId) (dI : Nat → Nat → Nat) (m0 : Nat) (i_fault : Int32) (n_size : Nat) (r_file : Nat) (n_side : Nat) (o_font : Bool) (r_bytes : Nat) (r_places : Nat) (r_lengths : Nat) (r_glyphCount : Nat) (r_ems : Nat) (r_wides : Nat) (r_forms : Nat) (r_parts : Nat) (r_charts : Nat) (r_pointCount : Nat) (r_contourCount : Nat) (r_depths : Nat) (r_xs : Nat) (r_ys : Nat) (r_ons : Nat) (r_contours : Nat) (o_bad : Bool) (n_at : Nat) (n_end : Nat) (r_flags : Nat) (r_part : Nat) (n_typed : Nat) (r_text : Nat) (n_ring : Nat) (r_ringX : Nat) (r_ringY : Nat) (r_ringOn : Nat) (n_wait : Nat) (r_curves : Nat) (r_windings : Nat) (r_rows : Nat) (c_bytes : ClassId) (v_bytes : Nat → Int32) (sd9 : Nat) (pl9 : Nat) (sz : Nat) (hq0 : n_size ≤ 1200) (hq1 : n_side ≤ 1) (hq2 : n_typed ≤ 12) (hq3 : isN 256 v_bytes) (hq4 : sd9 ≤ 1) (hq5 : pl9 + 1 ≤ 1200) : Met l y_MD_number s_MD_number ({ frames := 8, cells := 0, slots := 0, locals := 200 }) (va_Pc [.ref m0, .int (nI (sd9)), .int (nI (pl9)), .int 1] (fun U => U.heap.size = sz ∧ va_P (dC, dI) cls_ [(m0, .inr (10, [.int i_fault, .int (nI (n_size)), .ref r_file, .int (nI (n_side)), .int (bI o_font), .ref r_bytes, .ref r_places, .ref r_lengths, .ref r_glyphCount, .ref r_ems, .ref r_wides, .ref r_forms, .ref r_parts, .ref r_charts, .ref r_pointCount, .ref r_contourCount, .ref r_depths, .ref r_xs, .ref r_ys, .ref r_ons, .ref r_contours, .int (bI o_bad), .int (nI (n_at)), .int (nI (n_end)), .ref r_flags, .ref r_part, .int (nI (n_typed)), .ref r_text, .int (nI (n_ring)), .ref r_ringX, .ref r_ringY, .ref r_ringOn, .int (nI (n_wait)), .ref r_curves, .ref r_windings, .ref r_rows])), (r_bytes, .inl (c_bytes, 2400, .inl (v_bytes)))] U.heap ∧ va_K (dC, dI) cls_ [(c_bytes, .int)] U ∧ va_D (fun _ => True) [(m0, .inr (10, [.int i_fault, .int (nI (n_size)), .ref r_file, .int (nI (n_side)), .int (bI o_font), .ref r_bytes, .ref r_places, .ref r_lengths, .ref r_glyphCount, .ref r_ems, .ref r_wides, .ref r_forms, .ref r_parts, .ref r_charts, .ref r_pointCount, .ref r_contourCount, .ref r_depths, .ref r_xs, .ref r_ys, .ref r_ons, .ref r_contours, .int (bI o_bad), .int (nI (n_at)), .int (nI (n_end)), .ref r_flags, .ref r_part, .int (nI (n_typed)), .ref r_text, .int (nI (n_ring)), .ref r_ringX, .ref r_ringY, .ref r_ringOn, .int (nI (n_wait)), .ref r_curves, .ref r_windings, .ref r_rows])), (r_bytes, .inl (c_bytes, 2400, .inl (v_bytes)))])) (va_Ql (fun (r : Int64) (_ : Unit) => ∃ v : Nat, v < 256 ∧ v = num1 v_bytes (1200 * sd9 + pl9) ∧ r = lN v) (fun (_ : Unit) (t : State) => va_P (dC, dI) cls_ [(m0, .inr (10, [.int i_fault, .int (nI (n_size)), .ref r_file, .int (nI (n_side)), .int (bI o_font), .ref r_bytes, .ref r_places, .ref r_lengths, .ref r_glyphCount, .ref r_ems, .ref r_wides, .ref r_forms, .ref r_parts, .ref r_charts, .ref r_pointCount, .ref r_contourCount, .ref r_depths, .ref r_xs, .ref r_ys, .ref r_ons, .ref r_contours, .int (bI o_bad), .int (nI (n_at)), .int (nI (n_end)), .ref r_flags, .ref r_part, .int (nI (n_typed)), .ref r_text, .int (nI (n_ring)), .ref r_ringX, .ref r_ringY, .ref r_ringOn, .int (nI (n_wait)), .ref r_curves, .ref r_windings, .ref r_rows])), (r_bytes, .inl (c_bytes, 2400, .inl (v_bytes)))] t.heap ∧ va_K (dC, dI) cls_ [(c_bytes, .int)] t ∧ va_D (va_A [(m0, .inr (10, [.int i_fault, .int (nI (n_size)), .ref r_file, .int (nI (n_side)), .int (bI o_font), .ref r_bytes, .ref r_places, .ref r_lengths, .ref r_glyphCount, .ref r_ems, .ref r_wides, .ref r_forms, .ref r_parts, .ref r_charts, .ref r_pointCount, .ref r_contourCount, .ref r_depths, .ref r_xs, .ref r_ys, .ref r_ons, .ref r_contours, .int (bI o_bad), .int (nI (n_at)), .int (nI (n_end)), .ref r_flags, .ref r_part, .int (nI (n_typed)), .ref r_text, .int (nI (n_ring)), .ref r_ringX, .ref r_ringY, .ref r_ringOn, .int (nI (n_wait)), .ref r_curves, .ref r_windings, .ref r_rows])), (r_bytes, .inl (c_bytes, 2400, .inl (v_bytes)))] sz) [(m0, .inr (10, [.int i_fault, .int (nI (n_size)), .ref r_file, .int (nI (n_side)), .int (bI o_font), .ref r_bytes, .ref r_places, .ref r_lengths, .ref r_glyphCount, .ref r_ems, .ref r_wides, .ref r_forms, .ref r_parts, .ref r_charts, .ref r_pointCount, .ref r_contourCount, .ref r_depths, .ref r_xs, .ref r_ys, .ref r_ons, .ref r_contours, .int (bI o_bad), .int (nI (n_at)), .int (nI (n_end)), .ref r_flags, .ref r_part, .int (nI (n_typed)), .ref r_text, .int (nI (n_ring)), .ref r_ringX, .ref r_ringY, .ref r_ringOn, .int (nI (n_wait)), .ref r_curves, .ref r_windings, .ref r_rows])), (r_bytes, .inl (c_bytes, 2400, .inl (v_bytes)))]) (va_A [(m0, .inr (10, [.int i_fault, .int (nI (n_size)), .ref r_file, .int (nI (n_side)), .int (bI o_font), .ref r_bytes, .ref r_places, .ref r_lengths, .ref r_glyphCount, .ref r_ems, .ref r_wides, .ref r_forms, .ref r_parts, .ref r_charts, .ref r_pointCount, .ref r_contourCount, .ref r_depths, .ref r_xs, .ref r_ys, .ref r_ons, .ref r_contours, .int (bI o_bad), .int (nI (n_at)), .int (nI (n_end)), .ref r_flags, .ref r_part, .int (nI (n_typed)), .ref r_text, .int (nI (n_ring)), .ref r_ringX, .ref r_ringY, .ref r_ringOn, .int (nI (n_wait)), .ref r_curves, .ref r_windings, .ref r_rows])), (r_bytes, .inl (c_bytes, 2400, .inl (v_bytes)))] sz)) 0 0 (va_A [(m0, .inr (10, [.int i_fault, .int (nI (n_size)), .ref r_file, .int (nI (n_side)), .int (bI o_font), .ref r_bytes, .ref r_places, .ref r_lengths, .ref r_glyphCount, .ref r_ems, .ref r_wides, .ref r_forms, .ref r_parts, .ref r_charts, .ref r_pointCount, .ref r_contourCount, .ref r_depths, .ref r_xs, .ref r_ys, .ref r_ons, .ref r_contours, .int (bI o_bad), .int (nI (n_at)), .int (nI (n_end)), .ref r_flags, .ref r_part, .int (nI (n_typed)), .ref r_text, .int (nI (n_ring)), .ref r_ringX, .ref r_ringY, .ref r_ringOn, .int (nI (n_wait)), .ref r_curves, .ref r_windings, .ref r_rows])), (r_bytes, .inl (c_bytes, 2400, .inl (v_bytes)))] sz) := by
  refine Met.ofW (cc := b_MD_number) (maxL := 7) (ret := (some .long)) (by decide) rfl ?_
  intro p e s m args below meth c s₁ B hml hv
  obtain ⟨rfl, hsz, hP, hK, hD0⟩ := hv
  have hx := B.exec
  have hb := B.bytes
  have hr := B.returns
  have hts := atoms_spec (ws := s_MD_number) B.pre
  have hown : s.vm.findClass R_MD = some m.cls := findClass_of_methodNamed B.named
  have hlocks := B.notSynchronized
  subst hsz
  have hD := hD0.self (sz := s.heap.size)
  generalize hAe : va_A [(m0, .inr (10, [.int i_fault, .int (nI (n_size)), .ref r_file, .int (nI (n_side)), .int (bI o_font), .ref r_bytes, .ref r_places, .ref r_lengths, .ref r_glyphCount, .ref r_ems, .ref r_wides, .ref r_forms, .ref r_parts, .ref r_charts, .ref r_pointCount, .ref r_contourCount, .ref r_depths, .ref r_xs, .ref r_ys, .ref r_ons, .ref r_contours, .int (bI o_bad), .int (nI (n_at)), .int (nI (n_end)), .ref r_flags, .ref r_part, .int (nI (n_typed)), .ref r_text, .int (nI (n_ring)), .ref r_ringX, .ref r_ringY, .ref r_ringOn, .int (nI (n_wait)), .ref r_curves, .ref r_windings, .ref r_rows])), (r_bytes, .inl (c_bytes, 2400, .inl (v_bytes)))] s.heap.size = A at hD ⊢
  have hA : ∀ q : Nat, s.heap.size ≤ q → A q := fun q h => by rw [← hAe]; exact Or.inr h
  have hS : va_S A s.heap s.heap [] := va_S.rf
  have hP : va_P (dC, dI) cls_ [(m0, .inr (10, [.int i_fault, .int (nI (n_size)), .ref r_file, .int (nI (n_side)), .int (bI o_font), .ref r_bytes, .ref r_places, .ref r_lengths, .ref r_glyphCount, .ref r_ems, .ref r_wides, .ref r_forms, .ref r_parts, .ref r_charts, .ref r_pointCount, .ref r_contourCount, .ref r_depths, .ref r_xs, .ref r_ys, .ref r_ons, .ref r_contours, .int (bI o_bad), .int (nI (n_at)), .int (nI (n_end)), .ref r_flags, .ref r_part, .int (nI (n_typed)), .ref r_text, .int (nI (n_ring)), .ref r_ringX, .ref r_ringY, .ref r_ringOn, .int (nI (n_wait)), .ref r_curves, .ref r_windings, .ref r_rows])), (r_bytes, .inl (c_bytes, 2400, .inl (v_bytes)))] s.heap := hP
  have hl := lv_entry ([.ref m0, .int (nI (sd9)), .int (nI (pl9)), .int 1]) (n := 7) (Nat.le_of_ble_eq_true rfl)
  rw [lg_entry_eq]
  generalize (lg_sl ([.ref m0, .int (nI (sd9)), .int (nI (pl9)), .int 1]) ++ List.replicate (7 - (lg_sl ([.ref m0, .int (nI (sd9)), .int (nI (pl9)), .int 1])).length) Slot.unset).toArray = ls at hl ⊢
  have hl : lv_has ls 7 [(0, .ref m0), (1, .int (nI (sd9))), (2, .int (nI (pl9))), (3, .int 1)] := hl
  refine lv_lconst (v := 0) hx hb d_MD_number_0 (by decide) ?_
  refine lv_lstore (lv' := [(4, .long 0), (0, .ref m0), (1, .int (nI (sd9))), (2, .int (nI (pl9))), (3, .int 1)]) hx hb d_MD_number_1 hl (by decide) rfl (fun ls hl => ?_)
  refine lv_iconst (v := 0) hx hb d_MD_number_3 (by decide) ?_
  refine lv_istore (lv' := [(6, .int 0), (4, .long 0), (0, .ref m0), (1, .int (nI (sd9))), (2, .int (nI (pl9))), (3, .int 1)]) hx hb d_MD_number_4 hl (by decide) rfl (fun ls hl => ?_)
  refine lv_iload hx hb d_MD_number_6 (lv_at hl 0 rfl) ?_
  refine lv_iload_n hx hb d_MD_number_8 rfl (lv_at hl 5 rfl) ?_
  refine lv_icmp_ge (tgt := 43) hx hb d_MD_number_9 (by decide) (fun hc => absurd hc (by decide +kernel)) (fun _ => ?_)
  refine lv_lload hx hb d_MD_number_12 (lv_at hl 1 rfl) ?_
  refine lv_ldc2 (v := 256) hx hb hown (hts _ (List.mem_cons_of_mem _ w_997)) d_MD_number_14 ?_
  refine lv_lmul hx hb d_MD_number_17 ?_
  refine lv_cl (y := 0) (by decide +kernel) ?_
  refine lv_aload_n hx hb d_MD_number_18 rfl (lv_at hl 2 rfl) ?_
  refine va_get (D := (dC, dI)) (ci := 10) (v := .ref r_bytes) (C := R_MD) (T := F_MD) (N := 36) hx hb hts in_MD hown hK hP 0 rfl rfl 5 (by decide) (hts _ (List.mem_cons_of_mem _ w_857)) (fun _ h9 => h9) rfl d_MD_number_19 ?_
  refine lv_sipush (v := 1200) hx hb d_MD_number_22 (by decide) ?_
  refine lv_iload_n hx hb d_MD_number_25 rfl (lv_at hl 3 rfl) ?_
  refine lv_imul hx hb d_MD_number_26 ?_
  refine lv_ci (y := nI (1200 * sd9)) (pk_mul (1200) (sd9)) ?_
  refine lv_iload_n hx hb d_MD_number_27 rfl (lv_at hl 4 rfl) ?_
  refine lv_iadd hx hb d_MD_number_28 ?_
  refine lv_ci (y := nI (1200 * sd9 + pl9)) (nI_add (1200 * sd9) (pl9)) ?_
  refine lv_iload hx hb d_MD_number_29 (lv_at hl 0 rfl) ?_
  refine lv_iadd hx hb d_MD_number_31 ?_
  refine lv_ci (y := nI (1200 * sd9 + pl9)) (nI_add (1200 * sd9 + pl9) 0) ?_
  refine va_iald hx hb hK hP 1 0 rfl rfl (pk_in (1200 * sd9 + pl9) 2400 (by omega) rfl (by decide)) d_MD_number_32 ?_
  obtain ⟨kn7508, hkn7508, bkn7508, ekn7508⟩ := isN_at (f := v_bytes) (B := 256) (by assumption) (1200 * sd9 + pl9)
  refine lv_ci (y := nI (kn7508)) (by rw [nI_clamp (show 1200 * sd9 + pl9 < 2 ^ 31 by omega)]; exact ekn7508) ?_
  refine lv_i2l (v := (nI (kn7508)).toInt64) hx hb d_MD_number_33 rfl ?_
  refine lv_cl (y := lN (kn7508)) (nI_l (by omega)) ?_
  refine lv_ladd hx hb d_MD_number_34 ?_
  refine lv_cl (y := lN (0 + kn7508)) (lN_add (0) (kn7508)) ?_
  refine lv_lstore (lv' := [(4, .long (lN (0 + kn7508))), (6, .int 0), (0, .ref m0), (1, .int (nI (sd9))), (2, .int (nI (pl9))), (3, .int 1)]) hx hb d_MD_number_35 hl (by decide) rfl (fun ls hl => ?_)
  refine lv_iinc (k := 1) (v := 1) (lv' := [(6, .int 1), (4, .long (lN (0 + kn7508))), (0, .ref m0), (1, .int (nI (sd9))), (2, .int (nI (pl9))), (3, .int 1)]) hx hb d_MD_number_37 hl rfl (by first | rfl | decide +kernel) (by decide) rfl (fun ls hl => ?_)
  refine lv_goto (tgt := 6) hx hb d_MD_number_40 (by decide) ?_
  refine lv_iload hx hb d_MD_number_6 (lv_at hl 0 rfl) ?_
  refine lv_iload_n hx hb d_MD_number_8 rfl (lv_at hl 5 rfl) ?_
  refine lv_icmp_ge (tgt := 43) hx hb d_MD_number_9 (by decide) (fun _ => ?_) (fun hc => absurd hc (by decide +kernel))
  refine lv_lload hx hb d_MD_number_43 (lv_at hl 1 rfl) ?_
  refine W.widen (k := 0) (n := 0) (Nat.le_of_ble_eq_true rfl) (Nat.le_of_ble_eq_true rfl) ?_
  have hP9 := hP.sub (ws' := [(m0, .inr (10, [.int i_fault, .int (nI (n_size)), .ref r_file, .int (nI (n_side)), .int (bI o_font), .ref r_bytes, .ref r_places, .ref r_lengths, .ref r_glyphCount, .ref r_ems, .ref r_wides, .ref r_forms, .ref r_parts, .ref r_charts, .ref r_pointCount, .ref r_contourCount, .ref r_depths, .ref r_xs, .ref r_ys, .ref r_ons, .ref r_contours, .int (bI o_bad), .int (nI (n_at)), .int (nI (n_end)), .ref r_flags, .ref r_part, .int (nI (n_typed)), .ref r_text, .int (nI (n_ring)), .ref r_ringX, .ref r_ringY, .ref r_ringOn, .int (nI (n_wait)), .ref r_curves, .ref r_windings, .ref r_rows])), (r_bytes, .inl (c_bytes, 2400, .inl (v_bytes)))]) [0, 1] rfl
  have hD9 := hD.sub (ws' := [(m0, .inr (10, [.int i_fault, .int (nI (n_size)), .ref r_file, .int (nI (n_side)), .int (bI o_font), .ref r_bytes, .ref r_places, .ref r_lengths, .ref r_glyphCount, .ref r_ems, .ref r_wides, .ref r_forms, .ref r_parts, .ref r_charts, .ref r_pointCount, .ref r_contourCount, .ref r_depths, .ref r_xs, .ref r_ys, .ref r_ons, .ref r_contours, .int (bI o_bad), .int (nI (n_at)), .int (nI (n_end)), .ref r_flags, .ref r_part, .int (nI (n_typed)), .ref r_text, .int (nI (n_ring)), .ref r_ringX, .ref r_ringY, .ref r_ringOn, .int (nI (n_wait)), .ref r_curves, .ref r_windings, .ref r_rows])), (r_bytes, .inl (c_bytes, 2400, .inl (v_bytes)))]) [0, 1] (by decide) rfl
  have hK9 := hK.sub (tys' := [(c_bytes, .int)]) [0] rfl
  exact W.lret (v := lN (0 + kn7508)) hx hb hr (fun t ht hW => ⟨⟨lN (0 + kn7508), (), rfl, ⟨0 + kn7508, by omega, by unfold num1; omega, rfl⟩, by rw [ht]; exact hP9, va_K.moved hW.alike hK9, hD9⟩, hS.F ht⟩) hS.2.2 d_MD_number_45
set_option maxHeartbeats 4000000 in
set_option maxRecDepth 100000 in
/-- GlyphLinesModel.number -/
theorem g_MD_number2 (l : Launch) (dC : Nat → ClassId) (dI : Nat → Nat → Nat) (m0 : Nat) (i_fault : Int32) (n_size : Nat) (r_file : Nat) (n_side : Nat) (o_font : Bool) (r_bytes : Nat) (r_places : Nat) (r_lengths : Nat) (r_glyphCount : Nat) (r_ems : Nat) (r_wides : Nat) (r_forms : Nat) (r_parts : Nat) (r_charts : Nat) (r_pointCount : Nat) (r_contourCount : Nat) (r_depths : Nat) (r_xs : Nat) (r_ys : Nat) (r_ons : Nat) (r_contours : Nat) (o_bad : Bool) (n_at : Nat) (n_end : Nat) (r_flags : Nat) (r_part : Nat) (n_typed : Nat) (r_text : Nat) (n_ring : Nat) (r_ringX : Nat) (r_ringY : Nat) (r_ringOn : Nat) (n_wait : Nat) (r_curves : Nat) (r_windings : Nat) (r_rows : Nat) (c_bytes : ClassId) (v_bytes : Nat → Int32) (sd9 : Nat) (pl9 : Nat) (sz : Nat) (hq0 : n_size ≤ 1200) (hq1 : n_side ≤ 1) (hq2 : n_typed ≤ 12) (hq3 : isN 256 v_bytes) (hq4 : sd9 ≤ 1) (hq5 : pl9 + 2 ≤ 1200) : Met l y_MD_number s_MD_number ({ frames := 8, cells := 0, slots := 0, locals := 200 }) (va_Pc [.ref m0, .int (nI (sd9)), .int (nI (pl9)), .int 2] (fun U => U.heap.size = sz ∧ va_P (dC, dI) cls_ [(m0, .inr (10, [.int i_fault, .int (nI (n_size)), .ref r_file, .int (nI (n_side)), .int (bI o_font), .ref r_bytes, .ref r_places, .ref r_lengths, .ref r_glyphCount, .ref r_ems, .ref r_wides, .ref r_forms, .ref r_parts, .ref r_charts, .ref r_pointCount, .ref r_contourCount, .ref r_depths, .ref r_xs, .ref r_ys, .ref r_ons, .ref r_contours, .int (bI o_bad), .int (nI (n_at)), .int (nI (n_end)), .ref r_flags, .ref r_part, .int (nI (n_typed)), .ref r_text, .int (nI (n_ring)), .ref r_ringX, .ref r_ringY, .ref r_ringOn, .int (nI (n_wait)), .ref r_curves, .ref r_windings, .ref r_rows])), (r_bytes, .inl (c_bytes, 2400, .inl (v_bytes)))] U.heap ∧ va_K (dC, dI) cls_ [(c_bytes, .int)] U ∧ va_D (fun _ => True) [(m0, .inr (10, [.int i_fault, .int (nI (n_size)), .ref r_file, .int (nI (n_side)), .int (bI o_font), .ref r_bytes, .ref r_places, .ref r_lengths, .ref r_glyphCount, .ref r_ems, .ref r_wides, .ref r_forms, .ref r_parts, .ref r_charts, .ref r_pointCount, .ref r_contourCount, .ref r_depths, .ref r_xs, .ref r_ys, .ref r_ons, .ref r_contours, .int (bI o_bad), .int (nI (n_at)), .int (nI (n_end)), .ref r_flags, .ref r_part, .int (nI (n_typed)), .ref r_text, .int (nI (n_ring)), .ref r_ringX, .ref r_ringY, .ref r_ringOn, .int (nI (n_wait)), .ref r_curves, .ref r_windings, .ref r_rows])), (r_bytes, .inl (c_bytes, 2400, .inl (v_bytes)))])) (va_Ql (fun (r : Int64) (_ : Unit) => ∃ v : Nat, v < 65536 ∧ v = num2 v_bytes (1200 * sd9 + pl9) ∧ r = lN v) (fun (_ : Unit) (t : State) => va_P (dC, dI) cls_ [(m0, .inr (10, [.int i_fault, .int (nI (n_size)), .ref r_file, .int (nI (n_side)), .int (bI o_font), .ref r_bytes, .ref r_places, .ref r_lengths, .ref r_glyphCount, .ref r_ems, .ref r_wides, .ref r_forms, .ref r_parts, .ref r_charts, .ref r_pointCount, .ref r_contourCount, .ref r_depths, .ref r_xs, .ref r_ys, .ref r_ons, .ref r_contours, .int (bI o_bad), .int (nI (n_at)), .int (nI (n_end)), .ref r_flags, .ref r_part, .int (nI (n_typed)), .ref r_text, .int (nI (n_ring)), .ref r_ringX, .ref r_ringY, .ref r_ringOn, .int (nI (n_wait)), .ref r_curves, .ref r_windings, .ref r_rows])), (r_bytes, .inl (c_bytes, 2400, .inl (v_bytes)))] t.heap ∧ va_K (dC, dI) cls_ [(c_bytes, .int)] t ∧ va_D (va_A [(m0, .inr (10, [.int i_fault, .int (nI (n_size)), .ref r_file, .int (nI (n_side)), .int (bI o_font), .ref r_bytes, .ref r_places, .ref r_lengths, .ref r_glyphCount, .ref r_ems, .ref r_wides, .ref r_forms, .ref r_parts, .ref r_charts, .ref r_pointCount, .ref r_contourCount, .ref r_depths, .ref r_xs, .ref r_ys, .ref r_ons, .ref r_contours, .int (bI o_bad), .int (nI (n_at)), .int (nI (n_end)), .ref r_flags, .ref r_part, .int (nI (n_typed)), .ref r_text, .int (nI (n_ring)), .ref r_ringX, .ref r_ringY, .ref r_ringOn, .int (nI (n_wait)), .ref r_curves, .ref r_windings, .ref r_rows])), (r_bytes, .inl (c_bytes, 2400, .inl (v_bytes)))] sz) [(m0, .inr (10, [.int i_fault, .int (nI (n_size)), .ref r_file, .int (nI (n_side)), .int (bI o_font), .ref r_bytes, .ref r_places, .ref r_lengths, .ref r_glyphCount, .ref r_ems, .ref r_wides, .ref r_forms, .ref r_parts, .ref r_charts, .ref r_pointCount, .ref r_contourCount, .ref r_depths, .ref r_xs, .ref r_ys, .ref r_ons, .ref r_contours, .int (bI o_bad), .int (nI (n_at)), .int (nI (n_end)), .ref r_flags, .ref r_part, .int (nI (n_typed)), .ref r_text, .int (nI (n_ring)), .ref r_ringX, .ref r_ringY, .ref r_ringOn, .int (nI (n_wait)), .ref r_curves, .ref r_windings, .ref r_rows])), (r_bytes, .inl (c_bytes, 2400, .inl (v_bytes)))]) (va_A [(m0, .inr (10, [.int i_fault, .int (nI (n_size)), .ref r_file, .int (nI (n_side)), .int (bI o_font), .ref r_bytes, .ref r_places, .ref r_lengths, .ref r_glyphCount, .ref r_ems, .ref r_wides, .ref r_forms, .ref r_parts, .ref r_charts, .ref r_pointCount, .ref r_contourCount, .ref r_depths, .ref r_xs, .ref r_ys, .ref r_ons, .ref r_contours, .int (bI o_bad), .int (nI (n_at)), .int (nI (n_end)), .ref r_flags, .ref r_part, .int (nI (n_typed)), .ref r_text, .int (nI (n_ring)), .ref r_ringX, .ref r_ringY, .ref r_ringOn, .int (nI (n_wait)), .ref r_curves, .ref r_windings, .ref r_rows])), (r_bytes, .inl (c_bytes, 2400, .inl (v_bytes)))] sz)) 0 0 (va_A [(m0, .inr (10, [.int i_fault, .int (nI (n_size)), .ref r_file, .int (nI (n_side)), .int (bI o_font), .ref r_bytes, .ref r_places, .ref r_lengths, .ref r_glyphCount, .ref r_ems, .ref r_wides, .ref r_forms, .ref r_parts, .ref r_charts, .ref r_pointCount, .ref r_contourCount, .ref r_depths, .ref r_xs, .ref r_ys, .ref r_ons, .ref r_contours, .int (bI o_bad), .int (nI (n_at)), .int (nI (n_end)), .ref r_flags, .ref r_part, .int (nI (n_typed)), .ref r_text, .int (nI (n_ring)), .ref r_ringX, .ref r_ringY, .ref r_ringOn, .int (nI (n_wait)), .ref r_curves, .ref r_windings, .ref r_rows])), (r_bytes, .inl (c_bytes, 2400, .inl (v_bytes)))] sz) := by
  refine Met.ofW (cc := b_MD_number) (maxL := 7) (ret := (some .long)) (by decide) rfl ?_
  intro p e s m args below meth c s₁ B hml hv
  obtain ⟨rfl, hsz, hP, hK, hD0⟩ := hv
  have hx := B.exec
  have hb := B.bytes
  have hr := B.returns
  have hts := atoms_spec (ws := s_MD_number) B.pre
  have hown : s.vm.findClass R_MD = some m.cls := findClass_of_methodNamed B.named
  have hlocks := B.notSynchronized
  subst hsz
  have hD := hD0.self (sz := s.heap.size)
  generalize hAe : va_A [(m0, .inr (10, [.int i_fault, .int (nI (n_size)), .ref r_file, .int (nI (n_side)), .int (bI o_font), .ref r_bytes, .ref r_places, .ref r_lengths, .ref r_glyphCount, .ref r_ems, .ref r_wides, .ref r_forms, .ref r_parts, .ref r_charts, .ref r_pointCount, .ref r_contourCount, .ref r_depths, .ref r_xs, .ref r_ys, .ref r_ons, .ref r_contours, .int (bI o_bad), .int (nI (n_at)), .int (nI (n_end)), .ref r_flags, .ref r_part, .int (nI (n_typed)), .ref r_text, .int (nI (n_ring)), .ref r_ringX, .ref r_ringY, .ref r_ringOn, .int (nI (n_wait)), .ref r_curves, .ref r_windings, .ref r_rows])), (r_bytes, .inl (c_bytes, 2400, .inl (v_bytes)))] s.heap.size = A at hD ⊢
  have hA : ∀ q : Nat, s.heap.size ≤ q → A q := fun q h => by rw [← hAe]; exact Or.inr h
  have hS : va_S A s.heap s.heap [] := va_S.rf
  have hP : va_P (dC, dI) cls_ [(m0, .inr (10, [.int i_fault, .int (nI (n_size)), .ref r_file, .int (nI (n_side)), .int (bI o_font), .ref r_bytes, .ref r_places, .ref r_lengths, .ref r_glyphCount, .ref r_ems, .ref r_wides, .ref r_forms, .ref r_parts, .ref r_charts, .ref r_pointCount, .ref r_contourCount, .ref r_depths, .ref r_xs, .ref r_ys, .ref r_ons, .ref r_contours, .int (bI o_bad), .int (nI (n_at)), .int (nI (n_end)), .ref r_flags, .ref r_part, .int (nI (n_typed)), .ref r_text, .int (nI (n_ring)), .ref r_ringX, .ref r_ringY, .ref r_ringOn, .int (nI (n_wait)), .ref r_curves, .ref r_windings, .ref r_rows])), (r_bytes, .inl (c_bytes, 2400, .inl (v_bytes)))] s.heap := hP
  have hl := lv_entry ([.ref m0, .int (nI (sd9)), .int (nI (pl9)), .int 2]) (n := 7) (Nat.le_of_ble_eq_true rfl)
  rw [lg_entry_eq]
  generalize (lg_sl ([.ref m0, .int (nI (sd9)), .int (nI (pl9)), .int 2]) ++ List.replicate (7 - (lg_sl ([.ref m0, .int (nI (sd9)), .int (nI (pl9)), .int 2])).length) Slot.unset).toArray = ls at hl ⊢
  have hl : lv_has ls 7 [(0, .ref m0), (1, .int (nI (sd9))), (2, .int (nI (pl9))), (3, .int 2)] := hl
  refine lv_lconst (v := 0) hx hb d_MD_number_0 (by decide) ?_
  refine lv_lstore (lv' := [(4, .long 0), (0, .ref m0), (1, .int (nI (sd9))), (2, .int (nI (pl9))), (3, .int 2)]) hx hb d_MD_number_1 hl (by decide) rfl (fun ls hl => ?_)
  refine lv_iconst (v := 0) hx hb d_MD_number_3 (by decide) ?_
  refine lv_istore (lv' := [(6, .int 0), (4, .long 0), (0, .ref m0), (1, .int (nI (sd9))), (2, .int (nI (pl9))), (3, .int 2)]) hx hb d_MD_number_4 hl (by decide) rfl (fun ls hl => ?_)
  refine lv_iload hx hb d_MD_number_6 (lv_at hl 0 rfl) ?_
  refine lv_iload_n hx hb d_MD_number_8 rfl (lv_at hl 5 rfl) ?_
  refine lv_icmp_ge (tgt := 43) hx hb d_MD_number_9 (by decide) (fun hc => absurd hc (by decide +kernel)) (fun _ => ?_)
  refine lv_lload hx hb d_MD_number_12 (lv_at hl 1 rfl) ?_
  refine lv_ldc2 (v := 256) hx hb hown (hts _ (List.mem_cons_of_mem _ w_997)) d_MD_number_14 ?_
  refine lv_lmul hx hb d_MD_number_17 ?_
  refine lv_cl (y := 0) (by decide +kernel) ?_
  refine lv_aload_n hx hb d_MD_number_18 rfl (lv_at hl 2 rfl) ?_
  refine va_get (D := (dC, dI)) (ci := 10) (v := .ref r_bytes) (C := R_MD) (T := F_MD) (N := 36) hx hb hts in_MD hown hK hP 0 rfl rfl 5 (by decide) (hts _ (List.mem_cons_of_mem _ w_857)) (fun _ h9 => h9) rfl d_MD_number_19 ?_
  refine lv_sipush (v := 1200) hx hb d_MD_number_22 (by decide) ?_
  refine lv_iload_n hx hb d_MD_number_25 rfl (lv_at hl 3 rfl) ?_
  refine lv_imul hx hb d_MD_number_26 ?_
  refine lv_ci (y := nI (1200 * sd9)) (pk_mul (1200) (sd9)) ?_
  refine lv_iload_n hx hb d_MD_number_27 rfl (lv_at hl 4 rfl) ?_
  refine lv_iadd hx hb d_MD_number_28 ?_
  refine lv_ci (y := nI (1200 * sd9 + pl9)) (nI_add (1200 * sd9) (pl9)) ?_
  refine lv_iload hx hb d_MD_number_29 (lv_at hl 0 rfl) ?_
  refine lv_iadd hx hb d_MD_number_31 ?_
  refine lv_ci (y := nI (1200 * sd9 + pl9)) (nI_add (1200 * sd9 + pl9) 0) ?_
  refine va_iald hx hb hK hP 1 0 rfl rfl (pk_in (1200 * sd9 + pl9) 2400 (by omega) rfl (by decide)) d_MD_number_32 ?_
  obtain ⟨kn7509, hkn7509, bkn7509, ekn7509⟩ := isN_at (f := v_bytes) (B := 256) (by assumption) (1200 * sd9 + pl9)
  refine lv_ci (y := nI (kn7509)) (by rw [nI_clamp (show 1200 * sd9 + pl9 < 2 ^ 31 by omega)]; exact ekn7509) ?_
  refine lv_i2l (v := (nI (kn7509)).toInt64) hx hb d_MD_number_33 rfl ?_
  refine lv_cl (y := lN (kn7509)) (nI_l (by omega)) ?_
  refine lv_ladd hx hb d_MD_number_34 ?_
  refine lv_cl (y := lN (0 + kn7509)) (lN_add (0) (kn7509)) ?_
  refine lv_lstore (lv' := [(4, .long (lN (0 + kn7509))), (6, .int 0), (0, .ref m0), (1, .int (nI (sd9))), (2, .int (nI (pl9))), (3, .int 2)]) hx hb d_MD_number_35 hl (by decide) rfl (fun ls hl => ?_)
  refine lv_iinc (k := 1) (v := 1) (lv' := [(6, .int 1), (4, .long (lN (0 + kn7509))), (0, .ref m0), (1, .int (nI (sd9))), (2, .int (nI (pl9))), (3, .int 2)]) hx hb d_MD_number_37 hl rfl (by first | rfl | decide +kernel) (by decide) rfl (fun ls hl => ?_)
  refine lv_goto (tgt := 6) hx hb d_MD_number_40 (by decide) ?_
  refine lv_iload hx hb d_MD_number_6 (lv_at hl 0 rfl) ?_
  refine lv_iload_n hx hb d_MD_number_8 rfl (lv_at hl 5 rfl) ?_
  refine lv_icmp_ge (tgt := 43) hx hb d_MD_number_9 (by decide) (fun hc => absurd hc (by decide +kernel)) (fun _ => ?_)
  refine lv_lload hx hb d_MD_number_12 (lv_at hl 1 rfl) ?_
  refine lv_ldc2 (v := 256) hx hb hown (hts _ (List.mem_cons_of_mem _ w_997)) d_MD_number_14 ?_
  refine lv_lmul hx hb d_MD_number_17 ?_
  refine lv_cl (y := lN ((0 + kn7509) * 256)) (lN_mul (0 + kn7509) (256)) ?_
  refine lv_aload_n hx hb d_MD_number_18 rfl (lv_at hl 2 rfl) ?_
  refine va_get (D := (dC, dI)) (ci := 10) (v := .ref r_bytes) (C := R_MD) (T := F_MD) (N := 36) hx hb hts in_MD hown hK hP 0 rfl rfl 5 (by decide) (hts _ (List.mem_cons_of_mem _ w_857)) (fun _ h9 => h9) rfl d_MD_number_19 ?_
  refine lv_sipush (v := 1200) hx hb d_MD_number_22 (by decide) ?_
  refine lv_iload_n hx hb d_MD_number_25 rfl (lv_at hl 3 rfl) ?_
  refine lv_imul hx hb d_MD_number_26 ?_
  refine lv_ci (y := nI (1200 * sd9)) (pk_mul (1200) (sd9)) ?_
  refine lv_iload_n hx hb d_MD_number_27 rfl (lv_at hl 4 rfl) ?_
  refine lv_iadd hx hb d_MD_number_28 ?_
  refine lv_ci (y := nI (1200 * sd9 + pl9)) (nI_add (1200 * sd9) (pl9)) ?_
  refine lv_iload hx hb d_MD_number_29 (lv_at hl 0 rfl) ?_
  refine lv_iadd hx hb d_MD_number_31 ?_
  refine lv_ci (y := nI (1200 * sd9 + pl9 + 1)) (nI_add (1200 * sd9 + pl9) (1)) ?_
  refine va_iald hx hb hK hP 1 0 rfl rfl (pk_in (1200 * sd9 + pl9 + 1) 2400 (by omega) rfl (by decide)) d_MD_number_32 ?_
  obtain ⟨kn7510, hkn7510, bkn7510, ekn7510⟩ := isN_at (f := v_bytes) (B := 256) (by assumption) (1200 * sd9 + pl9 + 1)
  refine lv_ci (y := nI (kn7510)) (by rw [nI_clamp (show 1200 * sd9 + pl9 + 1 < 2 ^ 31 by omega)]; exact ekn7510) ?_
  refine lv_i2l (v := (nI (kn7510)).toInt64) hx hb d_MD_number_33 rfl ?_
  refine lv_cl (y := lN (kn7510)) (nI_l (by omega)) ?_
  refine lv_ladd hx hb d_MD_number_34 ?_
  refine lv_cl (y := lN ((0 + kn7509) * 256 + kn7510)) (lN_add ((0 + kn7509) * 256) (kn7510)) ?_
  refine lv_lstore (lv' := [(4, .long (lN ((0 + kn7509) * 256 + kn7510))), (6, .int 1), (0, .ref m0), (1, .int (nI (sd9))), (2, .int (nI (pl9))), (3, .int 2)]) hx hb d_MD_number_35 hl (by decide) rfl (fun ls hl => ?_)
  refine lv_iinc (k := 1) (v := 2) (lv' := [(6, .int 2), (4, .long (lN ((0 + kn7509) * 256 + kn7510))), (0, .ref m0), (1, .int (nI (sd9))), (2, .int (nI (pl9))), (3, .int 2)]) hx hb d_MD_number_37 hl rfl (by first | rfl | decide +kernel) (by decide) rfl (fun ls hl => ?_)
  refine lv_goto (tgt := 6) hx hb d_MD_number_40 (by decide) ?_
  refine lv_iload hx hb d_MD_number_6 (lv_at hl 0 rfl) ?_
  refine lv_iload_n hx hb d_MD_number_8 rfl (lv_at hl 5 rfl) ?_
  refine lv_icmp_ge (tgt := 43) hx hb d_MD_number_9 (by decide) (fun _ => ?_) (fun hc => absurd hc (by decide +kernel))
  refine lv_lload hx hb d_MD_number_43 (lv_at hl 1 rfl) ?_
  refine W.widen (k := 0) (n := 0) (Nat.le_of_ble_eq_true rfl) (Nat.le_of_ble_eq_true rfl) ?_
  have hP9 := hP.sub (ws' := [(m0, .inr (10, [.int i_fault, .int (nI (n_size)), .ref r_file, .int (nI (n_side)), .int (bI o_font), .ref r_bytes, .ref r_places, .ref r_lengths, .ref r_glyphCount, .ref r_ems, .ref r_wides, .ref r_forms, .ref r_parts, .ref r_charts, .ref r_pointCount, .ref r_contourCount, .ref r_depths, .ref r_xs, .ref r_ys, .ref r_ons, .ref r_contours, .int (bI o_bad), .int (nI (n_at)), .int (nI (n_end)), .ref r_flags, .ref r_part, .int (nI (n_typed)), .ref r_text, .int (nI (n_ring)), .ref r_ringX, .ref r_ringY, .ref r_ringOn, .int (nI (n_wait)), .ref r_curves, .ref r_windings, .ref r_rows])), (r_bytes, .inl (c_bytes, 2400, .inl (v_bytes)))]) [0, 1] rfl
  have hD9 := hD.sub (ws' := [(m0, .inr (10, [.int i_fault, .int (nI (n_size)), .ref r_file, .int (nI (n_side)), .int (bI o_font), .ref r_bytes, .ref r_places, .ref r_lengths, .ref r_glyphCount, .ref r_ems, .ref r_wides, .ref r_forms, .ref r_parts, .ref r_charts, .ref r_pointCount, .ref r_contourCount, .ref r_depths, .ref r_xs, .ref r_ys, .ref r_ons, .ref r_contours, .int (bI o_bad), .int (nI (n_at)), .int (nI (n_end)), .ref r_flags, .ref r_part, .int (nI (n_typed)), .ref r_text, .int (nI (n_ring)), .ref r_ringX, .ref r_ringY, .ref r_ringOn, .int (nI (n_wait)), .ref r_curves, .ref r_windings, .ref r_rows])), (r_bytes, .inl (c_bytes, 2400, .inl (v_bytes)))]) [0, 1] (by decide) rfl
  have hK9 := hK.sub (tys' := [(c_bytes, .int)]) [0] rfl
  exact W.lret (v := lN ((0 + kn7509) * 256 + kn7510)) hx hb hr (fun t ht hW => ⟨⟨lN ((0 + kn7509) * 256 + kn7510), (), rfl, ⟨(0 + kn7509) * 256 + kn7510, by omega, by unfold num2; omega, rfl⟩, by rw [ht]; exact hP9, va_K.moved hW.alike hK9, hD9⟩, hS.F ht⟩) hS.2.2 d_MD_number_45
set_option maxHeartbeats 4000000 in
set_option maxRecDepth 100000 in
/-- GlyphLinesModel.number -/
theorem g_MD_number4 (l : Launch) (dC : Nat → ClassId) (dI : Nat → Nat → Nat) (m0 : Nat) (i_fault : Int32) (n_size : Nat) (r_file : Nat) (n_side : Nat) (o_font : Bool) (r_bytes : Nat) (r_places : Nat) (r_lengths : Nat) (r_glyphCount : Nat) (r_ems : Nat) (r_wides : Nat) (r_forms : Nat) (r_parts : Nat) (r_charts : Nat) (r_pointCount : Nat) (r_contourCount : Nat) (r_depths : Nat) (r_xs : Nat) (r_ys : Nat) (r_ons : Nat) (r_contours : Nat) (o_bad : Bool) (n_at : Nat) (n_end : Nat) (r_flags : Nat) (r_part : Nat) (n_typed : Nat) (r_text : Nat) (n_ring : Nat) (r_ringX : Nat) (r_ringY : Nat) (r_ringOn : Nat) (n_wait : Nat) (r_curves : Nat) (r_windings : Nat) (r_rows : Nat) (c_bytes : ClassId) (v_bytes : Nat → Int32) (sd9 : Nat) (pl9 : Nat) (sz : Nat) (hq0 : n_size ≤ 1200) (hq1 : n_side ≤ 1) (hq2 : n_typed ≤ 12) (hq3 : isN 256 v_bytes) (hq4 : sd9 ≤ 1) (hq5 : pl9 + 4 ≤ 1200) : Met l y_MD_number s_MD_number ({ frames := 8, cells := 0, slots := 0, locals := 200 }) (va_Pc [.ref m0, .int (nI (sd9)), .int (nI (pl9)), .int 4] (fun U => U.heap.size = sz ∧ va_P (dC, dI) cls_ [(m0, .inr (10, [.int i_fault, .int (nI (n_size)), .ref r_file, .int (nI (n_side)), .int (bI o_font), .ref r_bytes, .ref r_places, .ref r_lengths, .ref r_glyphCount, .ref r_ems, .ref r_wides, .ref r_forms, .ref r_parts, .ref r_charts, .ref r_pointCount, .ref r_contourCount, .ref r_depths, .ref r_xs, .ref r_ys, .ref r_ons, .ref r_contours, .int (bI o_bad), .int (nI (n_at)), .int (nI (n_end)), .ref r_flags, .ref r_part, .int (nI (n_typed)), .ref r_text, .int (nI (n_ring)), .ref r_ringX, .ref r_ringY, .ref r_ringOn, .int (nI (n_wait)), .ref r_curves, .ref r_windings, .ref r_rows])), (r_bytes, .inl (c_bytes, 2400, .inl (v_bytes)))] U.heap ∧ va_K (dC, dI) cls_ [(c_bytes, .int)] U ∧ va_D (fun _ => True) [(m0, .inr (10, [.int i_fault, .int (nI (n_size)), .ref r_file, .int (nI (n_side)), .int (bI o_font), .ref r_bytes, .ref r_places, .ref r_lengths, .ref r_glyphCount, .ref r_ems, .ref r_wides, .ref r_forms, .ref r_parts, .ref r_charts, .ref r_pointCount, .ref r_contourCount, .ref r_depths, .ref r_xs, .ref r_ys, .ref r_ons, .ref r_contours, .int (bI o_bad), .int (nI (n_at)), .int (nI (n_end)), .ref r_flags, .ref r_part, .int (nI (n_typed)), .ref r_text, .int (nI (n_ring)), .ref r_ringX, .ref r_ringY, .ref r_ringOn, .int (nI (n_wait)), .ref r_curves, .ref r_windings, .ref r_rows])), (r_bytes, .inl (c_bytes, 2400, .inl (v_bytes)))])) (va_Ql (fun (r : Int64) (_ : Unit) => ∃ v : Nat, v < 4294967296 ∧ v = num4 v_bytes (1200 * sd9 + pl9) ∧ r = lN v) (fun (_ : Unit) (t : State) => va_P (dC, dI) cls_ [(m0, .inr (10, [.int i_fault, .int (nI (n_size)), .ref r_file, .int (nI (n_side)), .int (bI o_font), .ref r_bytes, .ref r_places, .ref r_lengths, .ref r_glyphCount, .ref r_ems, .ref r_wides, .ref r_forms, .ref r_parts, .ref r_charts, .ref r_pointCount, .ref r_contourCount, .ref r_depths, .ref r_xs, .ref r_ys, .ref r_ons, .ref r_contours, .int (bI o_bad), .int (nI (n_at)), .int (nI (n_end)), .ref r_flags, .ref r_part, .int (nI (n_typed)), .ref r_text, .int (nI (n_ring)), .ref r_ringX, .ref r_ringY, .ref r_ringOn, .int (nI (n_wait)), .ref r_curves, .ref r_windings, .ref r_rows])), (r_bytes, .inl (c_bytes, 2400, .inl (v_bytes)))] t.heap ∧ va_K (dC, dI) cls_ [(c_bytes, .int)] t ∧ va_D (va_A [(m0, .inr (10, [.int i_fault, .int (nI (n_size)), .ref r_file, .int (nI (n_side)), .int (bI o_font), .ref r_bytes, .ref r_places, .ref r_lengths, .ref r_glyphCount, .ref r_ems, .ref r_wides, .ref r_forms, .ref r_parts, .ref r_charts, .ref r_pointCount, .ref r_contourCount, .ref r_depths, .ref r_xs, .ref r_ys, .ref r_ons, .ref r_contours, .int (bI o_bad), .int (nI (n_at)), .int (nI (n_end)), .ref r_flags, .ref r_part, .int (nI (n_typed)), .ref r_text, .int (nI (n_ring)), .ref r_ringX, .ref r_ringY, .ref r_ringOn, .int (nI (n_wait)), .ref r_curves, .ref r_windings, .ref r_rows])), (r_bytes, .inl (c_bytes, 2400, .inl (v_bytes)))] sz) [(m0, .inr (10, [.int i_fault, .int (nI (n_size)), .ref r_file, .int (nI (n_side)), .int (bI o_font), .ref r_bytes, .ref r_places, .ref r_lengths, .ref r_glyphCount, .ref r_ems, .ref r_wides, .ref r_forms, .ref r_parts, .ref r_charts, .ref r_pointCount, .ref r_contourCount, .ref r_depths, .ref r_xs, .ref r_ys, .ref r_ons, .ref r_contours, .int (bI o_bad), .int (nI (n_at)), .int (nI (n_end)), .ref r_flags, .ref r_part, .int (nI (n_typed)), .ref r_text, .int (nI (n_ring)), .ref r_ringX, .ref r_ringY, .ref r_ringOn, .int (nI (n_wait)), .ref r_curves, .ref r_windings, .ref r_rows])), (r_bytes, .inl (c_bytes, 2400, .inl (v_bytes)))]) (va_A [(m0, .inr (10, [.int i_fault, .int (nI (n_size)), .ref r_file, .int (nI (n_side)), .int (bI o_font), .ref r_bytes, .ref r_places, .ref r_lengths, .ref r_glyphCount, .ref r_ems, .ref r_wides, .ref r_forms, .ref r_parts, .ref r_charts, .ref r_pointCount, .ref r_contourCount, .ref r_depths, .ref r_xs, .ref r_ys, .ref r_ons, .ref r_contours, .int (bI o_bad), .int (nI (n_at)), .int (nI (n_end)), .ref r_flags, .ref r_part, .int (nI (n_typed)), .ref r_text, .int (nI (n_ring)), .ref r_ringX, .ref r_ringY, .ref r_ringOn, .int (nI (n_wait)), .ref r_curves, .ref r_windings, .ref r_rows])), (r_bytes, .inl (c_bytes, 2400, .inl (v_bytes)))] sz)) 0 0 (va_A [(m0, .inr (10, [.int i_fault, .int (nI (n_size)), .ref r_file, .int (nI (n_side)), .int (bI o_font), .ref r_bytes, .ref r_places, .ref r_lengths, .ref r_glyphCount, .ref r_ems, .ref r_wides, .ref r_forms, .ref r_parts, .ref r_charts, .ref r_pointCount, .ref r_contourCount, .ref r_depths, .ref r_xs, .ref r_ys, .ref r_ons, .ref r_contours, .int (bI o_bad), .int (nI (n_at)), .int (nI (n_end)), .ref r_flags, .ref r_part, .int (nI (n_typed)), .ref r_text, .int (nI (n_ring)), .ref r_ringX, .ref r_ringY, .ref r_ringOn, .int (nI (n_wait)), .ref r_curves, .ref r_windings, .ref r_rows])), (r_bytes, .inl (c_bytes, 2400, .inl (v_bytes)))] sz) := by
  refine Met.ofW (cc := b_MD_number) (maxL := 7) (ret := (some .long)) (by decide) rfl ?_
  intro p e s m args below meth c s₁ B hml hv
  obtain ⟨rfl, hsz, hP, hK, hD0⟩ := hv
  have hx := B.exec
  have hb := B.bytes
  have hr := B.returns
  have hts := atoms_spec (ws := s_MD_number) B.pre
  have hown : s.vm.findClass R_MD = some m.cls := findClass_of_methodNamed B.named
  have hlocks := B.notSynchronized
  subst hsz
  have hD := hD0.self (sz := s.heap.size)
  generalize hAe : va_A [(m0, .inr (10, [.int i_fault, .int (nI (n_size)), .ref r_file, .int (nI (n_side)), .int (bI o_font), .ref r_bytes, .ref r_places, .ref r_lengths, .ref r_glyphCount, .ref r_ems, .ref r_wides, .ref r_forms, .ref r_parts, .ref r_charts, .ref r_pointCount, .ref r_contourCount, .ref r_depths, .ref r_xs, .ref r_ys, .ref r_ons, .ref r_contours, .int (bI o_bad), .int (nI (n_at)), .int (nI (n_end)), .ref r_flags, .ref r_part, .int (nI (n_typed)), .ref r_text, .int (nI (n_ring)), .ref r_ringX, .ref r_ringY, .ref r_ringOn, .int (nI (n_wait)), .ref r_curves, .ref r_windings, .ref r_rows])), (r_bytes, .inl (c_bytes, 2400, .inl (v_bytes)))] s.heap.size = A at hD ⊢
  have hA : ∀ q : Nat, s.heap.size ≤ q → A q := fun q h => by rw [← hAe]; exact Or.inr h
  have hS : va_S A s.heap s.heap [] := va_S.rf
  have hP : va_P (dC, dI) cls_ [(m0, .inr (10, [.int i_fault, .int (nI (n_size)), .ref r_file, .int (nI (n_side)), .int (bI o_font), .ref r_bytes, .ref r_places, .ref r_lengths, .ref r_glyphCount, .ref r_ems, .ref r_wides, .ref r_forms, .ref r_parts, .ref r_charts, .ref r_pointCount, .ref r_contourCount, .ref r_depths, .ref r_xs, .ref r_ys, .ref r_ons, .ref r_contours, .int (bI o_bad), .int (nI (n_at)), .int (nI (n_end)), .ref r_flags, .ref r_part, .int (nI (n_typed)), .ref r_text, .int (nI (n_ring)), .ref r_ringX, .ref r_ringY, .ref r_ringOn, .int (nI (n_wait)), .ref r_curves, .ref r_windings, .ref r_rows])), (r_bytes, .inl (c_bytes, 2400, .inl (v_bytes)))] s.heap := hP
  have hl := lv_entry ([.ref m0, .int (nI (sd9)), .int (nI (pl9)), .int 4]) (n := 7) (Nat.le_of_ble_eq_true rfl)
  rw [lg_entry_eq]
  generalize (lg_sl ([.ref m0, .int (nI (sd9)), .int (nI (pl9)), .int 4]) ++ List.replicate (7 - (lg_sl ([.ref m0, .int (nI (sd9)), .int (nI (pl9)), .int 4])).length) Slot.unset).toArray = ls at hl ⊢
  have hl : lv_has ls 7 [(0, .ref m0), (1, .int (nI (sd9))), (2, .int (nI (pl9))), (3, .int 4)] := hl
  refine lv_lconst (v := 0) hx hb d_MD_number_0 (by decide) ?_
  refine lv_lstore (lv' := [(4, .long 0), (0, .ref m0), (1, .int (nI (sd9))), (2, .int (nI (pl9))), (3, .int 4)]) hx hb d_MD_number_1 hl (by decide) rfl (fun ls hl => ?_)
  refine lv_iconst (v := 0) hx hb d_MD_number_3 (by decide) ?_
  refine lv_istore (lv' := [(6, .int 0), (4, .long 0), (0, .ref m0), (1, .int (nI (sd9))), (2, .int (nI (pl9))), (3, .int 4)]) hx hb d_MD_number_4 hl (by decide) rfl (fun ls hl => ?_)
  refine lv_iload hx hb d_MD_number_6 (lv_at hl 0 rfl) ?_
  refine lv_iload_n hx hb d_MD_number_8 rfl (lv_at hl 5 rfl) ?_
  refine lv_icmp_ge (tgt := 43) hx hb d_MD_number_9 (by decide) (fun hc => absurd hc (by decide +kernel)) (fun _ => ?_)
  refine lv_lload hx hb d_MD_number_12 (lv_at hl 1 rfl) ?_
  refine lv_ldc2 (v := 256) hx hb hown (hts _ (List.mem_cons_of_mem _ w_997)) d_MD_number_14 ?_
  refine lv_lmul hx hb d_MD_number_17 ?_
  refine lv_cl (y := 0) (by decide +kernel) ?_
  refine lv_aload_n hx hb d_MD_number_18 rfl (lv_at hl 2 rfl) ?_
  refine va_get (D := (dC, dI)) (ci := 10) (v := .ref r_bytes) (C := R_MD) (T := F_MD) (N := 36) hx hb hts in_MD hown hK hP 0 rfl rfl 5 (by decide) (hts _ (List.mem_cons_of_mem _ w_857)) (fun _ h9 => h9) rfl d_MD_number_19 ?_
  refine lv_sipush (v := 1200) hx hb d_MD_number_22 (by decide) ?_
  refine lv_iload_n hx hb d_MD_number_25 rfl (lv_at hl 3 rfl) ?_
  refine lv_imul hx hb d_MD_number_26 ?_
  refine lv_ci (y := nI (1200 * sd9)) (pk_mul (1200) (sd9)) ?_
  refine lv_iload_n hx hb d_MD_number_27 rfl (lv_at hl 4 rfl) ?_
  refine lv_iadd hx hb d_MD_number_28 ?_
  refine lv_ci (y := nI (1200 * sd9 + pl9)) (nI_add (1200 * sd9) (pl9)) ?_
  refine lv_iload hx hb d_MD_number_29 (lv_at hl 0 rfl) ?_
  refine lv_iadd hx hb d_MD_number_31 ?_
  refine lv_ci (y := nI (1200 * sd9 + pl9)) (nI_add (1200 * sd9 + pl9) 0) ?_
  refine va_iald hx hb hK hP 1 0 rfl rfl (pk_in (1200 * sd9 + pl9) 2400 (by omega) rfl (by decide)) d_MD_number_32 ?_
  obtain ⟨kn7511, hkn7511, bkn7511, ekn7511⟩ := isN_at (f := v_bytes) (B := 256) (by assumption) (1200 * sd9 + pl9)
  refine lv_ci (y := nI (kn7511)) (by rw [nI_clamp (show 1200 * sd9 + pl9 < 2 ^ 31 by omega)]; exact ekn7511) ?_
  refine lv_i2l (v := (nI (kn7511)).toInt64) hx hb d_MD_number_33 rfl ?_
  refine lv_cl (y := lN (kn7511)) (nI_l (by omega)) ?_
  refine lv_ladd hx hb d_MD_number_34 ?_
  refine lv_cl (y := lN (0 + kn7511)) (lN_add (0) (kn7511)) ?_
  refine lv_lstore (lv' := [(4, .long (lN (0 + kn7511))), (6, .int 0), (0, .ref m0), (1, .int (nI (sd9))), (2, .int (nI (pl9))), (3, .int 4)]) hx hb d_MD_number_35 hl (by decide) rfl (fun ls hl => ?_)
  refine lv_iinc (k := 1) (v := 1) (lv' := [(6, .int 1), (4, .long (lN (0 + kn7511))), (0, .ref m0), (1, .int (nI (sd9))), (2, .int (nI (pl9))), (3, .int 4)]) hx hb d_MD_number_37 hl rfl (by first | rfl | decide +kernel) (by decide) rfl (fun ls hl => ?_)
  refine lv_goto (tgt := 6) hx hb d_MD_number_40 (by decide) ?_
  refine lv_iload hx hb d_MD_number_6 (lv_at hl 0 rfl) ?_
  refine lv_iload_n hx hb d_MD_number_8 rfl (lv_at hl 5 rfl) ?_
  refine lv_icmp_ge (tgt := 43) hx hb d_MD_number_9 (by decide) (fun hc => absurd hc (by decide +kernel)) (fun _ => ?_)
  refine lv_lload hx hb d_MD_number_12 (lv_at hl 1 rfl) ?_
  refine lv_ldc2 (v := 256) hx hb hown (hts _ (List.mem_cons_of_mem _ w_997)) d_MD_number_14 ?_
  refine lv_lmul hx hb d_MD_number_17 ?_
  refine lv_cl (y := lN ((0 + kn7511) * 256)) (lN_mul (0 + kn7511) (256)) ?_
  refine lv_aload_n hx hb d_MD_number_18 rfl (lv_at hl 2 rfl) ?_
  refine va_get (D := (dC, dI)) (ci := 10) (v := .ref r_bytes) (C := R_MD) (T := F_MD) (N := 36) hx hb hts in_MD hown hK hP 0 rfl rfl 5 (by decide) (hts _ (List.mem_cons_of_mem _ w_857)) (fun _ h9 => h9) rfl d_MD_number_19 ?_
  refine lv_sipush (v := 1200) hx hb d_MD_number_22 (by decide) ?_
  refine lv_iload_n hx hb d_MD_number_25 rfl (lv_at hl 3 rfl) ?_
  refine lv_imul hx hb d_MD_number_26 ?_
  refine lv_ci (y := nI (1200 * sd9)) (pk_mul (1200) (sd9)) ?_
  refine lv_iload_n hx hb d_MD_number_27 rfl (lv_at hl 4 rfl) ?_
  refine lv_iadd hx hb d_MD_number_28 ?_
  refine lv_ci (y := nI (1200 * sd9 + pl9)) (nI_add (1200 * sd9) (pl9)) ?_
  refine lv_iload hx hb d_MD_number_29 (lv_at hl 0 rfl) ?_
  refine lv_iadd hx hb d_MD_number_31 ?_
  refine lv_ci (y := nI (1200 * sd9 + pl9 + 1)) (nI_add (1200 * sd9 + pl9) (1)) ?_
  refine va_iald hx hb hK hP 1 0 rfl rfl (pk_in (1200 * sd9 + pl9 + 1) 2400 (by omega) rfl (by decide)) d_MD_number_32 ?_
  obtain ⟨kn7512, hkn7512, bkn7512, ekn7512⟩ := isN_at (f := v_bytes) (B := 256) (by assumption) (1200 * sd9 + pl9 + 1)
  refine lv_ci (y := nI (kn7512)) (by rw [nI_clamp (show 1200 * sd9 + pl9 + 1 < 2 ^ 31 by omega)]; exact ekn7512) ?_
  refine lv_i2l (v := (nI (kn7512)).toInt64) hx hb d_MD_number_33 rfl ?_
  refine lv_cl (y := lN (kn7512)) (nI_l (by omega)) ?_
  refine lv_ladd hx hb d_MD_number_34 ?_
  refine lv_cl (y := lN ((0 + kn7511) * 256 + kn7512)) (lN_add ((0 + kn7511) * 256) (kn7512)) ?_
  refine lv_lstore (lv' := [(4, .long (lN ((0 + kn7511) * 256 + kn7512))), (6, .int 1), (0, .ref m0), (1, .int (nI (sd9))), (2, .int (nI (pl9))), (3, .int 4)]) hx hb d_MD_number_35 hl (by decide) rfl (fun ls hl => ?_)
  refine lv_iinc (k := 1) (v := 2) (lv' := [(6, .int 2), (4, .long (lN ((0 + kn7511) * 256 + kn7512))), (0, .ref m0), (1, .int (nI (sd9))), (2, .int (nI (pl9))), (3, .int 4)]) hx hb d_MD_number_37 hl rfl (by first | rfl | decide +kernel) (by decide) rfl (fun ls hl => ?_)
  refine lv_goto (tgt := 6) hx hb d_MD_number_40 (by decide) ?_
  refine lv_iload hx hb d_MD_number_6 (lv_at hl 0 rfl) ?_
  refine lv_iload_n hx hb d_MD_number_8 rfl (lv_at hl 5 rfl) ?_
  refine lv_icmp_ge (tgt := 43) hx hb d_MD_number_9 (by decide) (fun hc => absurd hc (by decide +kernel)) (fun _ => ?_)
  refine lv_lload hx hb d_MD_number_12 (lv_at hl 1 rfl) ?_
  refine lv_ldc2 (v := 256) hx hb hown (hts _ (List.mem_cons_of_mem _ w_997)) d_MD_number_14 ?_
  refine lv_lmul hx hb d_MD_number_17 ?_
  refine lv_cl (y := lN (((0 + kn7511) * 256 + kn7512) * 256)) (lN_mul ((0 + kn7511) * 256 + kn7512) (256)) ?_
  refine lv_aload_n hx hb d_MD_number_18 rfl (lv_at hl 2 rfl) ?_
  refine va_get (D := (dC, dI)) (ci := 10) (v := .ref r_bytes) (C := R_MD) (T := F_MD) (N := 36) hx hb hts in_MD hown hK hP 0 rfl rfl 5 (by decide) (hts _ (List.mem_cons_of_mem _ w_857)) (fun _ h9 => h9) rfl d_MD_number_19 ?_
  refine lv_sipush (v := 1200) hx hb d_MD_number_22 (by decide) ?_
  refine lv_iload_n hx hb d_MD_number_25 rfl (lv_at hl 3 rfl) ?_
  refine lv_imul hx hb d_MD_number_26 ?_
  refine lv_ci (y := nI (1200 * sd9)) (pk_mul (1200) (sd9)) ?_
  refine lv_iload_n hx hb d_MD_number_27 rfl (lv_at hl 4 rfl) ?_
  refine lv_iadd hx hb d_MD_number_28 ?_
  refine lv_ci (y := nI (1200 * sd9 + pl9)) (nI_add (1200 * sd9) (pl9)) ?_
  refine lv_iload hx hb d_MD_number_29 (lv_at hl 0 rfl) ?_
  refine lv_iadd hx hb d_MD_number_31 ?_
  refine lv_ci (y := nI (1200 * sd9 + pl9 + 2)) (nI_add (1200 * sd9 + pl9) (2)) ?_
  refine va_iald hx hb hK hP 1 0 rfl rfl (pk_in (1200 * sd9 + pl9 + 2) 2400 (by omega) rfl (by decide)) d_MD_number_32 ?_
  obtain ⟨kn7513, hkn7513, bkn7513, ekn7513⟩ := isN_at (f := v_bytes) (B := 256) (by assumption) (1200 * sd9 + pl9 + 2)
  refine lv_ci (y := nI (kn7513)) (by rw [nI_clamp (show 1200 * sd9 + pl9 + 2 < 2 ^ 31 by omega)]; exact ekn7513) ?_
  refine lv_i2l (v := (nI (kn7513)).toInt64) hx hb d_MD_number_33 rfl ?_
  refine lv_cl (y := lN (kn7513)) (nI_l (by omega)) ?_
  refine lv_ladd hx hb d_MD_number_34 ?_
  refine lv_cl (y := lN (((0 + kn7511) * 256 + kn7512) * 256 + kn7513)) (lN_add (((0 + kn7511) * 256 + kn7512) * 256) (kn7513)) ?_
  refine lv_lstore (lv' := [(4, .long (lN (((0 + kn7511) * 256 + kn7512) * 256 + kn7513))), (6, .int 2), (0, .ref m0), (1, .int (nI (sd9))), (2, .int (nI (pl9))), (3, .int 4)]) hx hb d_MD_number_35 hl (by decide) rfl (fun ls hl => ?_)
  refine lv_iinc (k := 1) (v := 3) (lv' := [(6, .int 3), (4, .long (lN (((0 + kn7511) * 256 + kn7512) * 256 + kn7513))), (0, .ref m0), (1, .int (nI (sd9))), (2, .int (nI (pl9))), (3, .int 4)]) hx hb d_MD_number_37 hl rfl (by first | rfl | decide +kernel) (by decide) rfl (fun ls hl => ?_)
  refine lv_goto (tgt := 6) hx hb d_MD_number_40 (by decide) ?_
  refine lv_iload hx hb d_MD_number_6 (lv_at hl 0 rfl) ?_
  refine lv_iload_n hx hb d_MD_number_8 rfl (lv_at hl 5 rfl) ?_
  refine lv_icmp_ge (tgt := 43) hx hb d_MD_number_9 (by decide) (fun hc => absurd hc (by decide +kernel)) (fun _ => ?_)
  refine lv_lload hx hb d_MD_number_12 (lv_at hl 1 rfl) ?_
  refine lv_ldc2 (v := 256) hx hb hown (hts _ (List.mem_cons_of_mem _ w_997)) d_MD_number_14 ?_
  refine lv_lmul hx hb d_MD_number_17 ?_
  refine lv_cl (y := lN ((((0 + kn7511) * 256 + kn7512) * 256 + kn7513) * 256)) (lN_mul (((0 + kn7511) * 256 + kn7512) * 256 + kn7513) (256)) ?_
  refine lv_aload_n hx hb d_MD_number_18 rfl (lv_at hl 2 rfl) ?_
  refine va_get (D := (dC, dI)) (ci := 10) (v := .ref r_bytes) (C := R_MD) (T := F_MD) (N := 36) hx hb hts in_MD hown hK hP 0 rfl rfl 5 (by decide) (hts _ (List.mem_cons_of_mem _ w_857)) (fun _ h9 => h9) rfl d_MD_number_19 ?_
  refine lv_sipush (v := 1200) hx hb d_MD_number_22 (by decide) ?_
  refine lv_iload_n hx hb d_MD_number_25 rfl (lv_at hl 3 rfl) ?_
  refine lv_imul hx hb d_MD_number_26 ?_
  refine lv_ci (y := nI (1200 * sd9)) (pk_mul (1200) (sd9)) ?_
  refine lv_iload_n hx hb d_MD_number_27 rfl (lv_at hl 4 rfl) ?_
  refine lv_iadd hx hb d_MD_number_28 ?_
  refine lv_ci (y := nI (1200 * sd9 + pl9)) (nI_add (1200 * sd9) (pl9)) ?_
  refine lv_iload hx hb d_MD_number_29 (lv_at hl 0 rfl) ?_
  refine lv_iadd hx hb d_MD_number_31 ?_
  refine lv_ci (y := nI (1200 * sd9 + pl9 + 3)) (nI_add (1200 * sd9 + pl9) (3)) ?_
  refine va_iald hx hb hK hP 1 0 rfl rfl (pk_in (1200 * sd9 + pl9 + 3) 2400 (by omega) rfl (by decide)) d_MD_number_32 ?_
  obtain ⟨kn7514, hkn7514, bkn7514, ekn7514⟩ := isN_at (f := v_bytes) (B := 256) (by assumption) (1200 * sd9 + pl9 + 3)
  refine lv_ci (y := nI (kn7514)) (by rw [nI_clamp (show 1200 * sd9 + pl9 + 3 < 2 ^ 31 by omega)]; exact ekn7514) ?_
  refine lv_i2l (v := (nI (kn7514)).toInt64) hx hb d_MD_number_33 rfl ?_
  refine lv_cl (y := lN (kn7514)) (nI_l (by omega)) ?_
  refine lv_ladd hx hb d_MD_number_34 ?_
  refine lv_cl (y := lN ((((0 + kn7511) * 256 + kn7512) * 256 + kn7513) * 256 + kn7514)) (lN_add ((((0 + kn7511) * 256 + kn7512) * 256 + kn7513) * 256) (kn7514)) ?_
  refine lv_lstore (lv' := [(4, .long (lN ((((0 + kn7511) * 256 + kn7512) * 256 + kn7513) * 256 + kn7514))), (6, .int 3), (0, .ref m0), (1, .int (nI (sd9))), (2, .int (nI (pl9))), (3, .int 4)]) hx hb d_MD_number_35 hl (by decide) rfl (fun ls hl => ?_)
  refine lv_iinc (k := 1) (v := 4) (lv' := [(6, .int 4), (4, .long (lN ((((0 + kn7511) * 256 + kn7512) * 256 + kn7513) * 256 + kn7514))), (0, .ref m0), (1, .int (nI (sd9))), (2, .int (nI (pl9))), (3, .int 4)]) hx hb d_MD_number_37 hl rfl (by first | rfl | decide +kernel) (by decide) rfl (fun ls hl => ?_)
  refine lv_goto (tgt := 6) hx hb d_MD_number_40 (by decide) ?_
  refine lv_iload hx hb d_MD_number_6 (lv_at hl 0 rfl) ?_
  refine lv_iload_n hx hb d_MD_number_8 rfl (lv_at hl 5 rfl) ?_
  refine lv_icmp_ge (tgt := 43) hx hb d_MD_number_9 (by decide) (fun _ => ?_) (fun hc => absurd hc (by decide +kernel))
  refine lv_lload hx hb d_MD_number_43 (lv_at hl 1 rfl) ?_
  refine W.widen (k := 0) (n := 0) (Nat.le_of_ble_eq_true rfl) (Nat.le_of_ble_eq_true rfl) ?_
  have hP9 := hP.sub (ws' := [(m0, .inr (10, [.int i_fault, .int (nI (n_size)), .ref r_file, .int (nI (n_side)), .int (bI o_font), .ref r_bytes, .ref r_places, .ref r_lengths, .ref r_glyphCount, .ref r_ems, .ref r_wides, .ref r_forms, .ref r_parts, .ref r_charts, .ref r_pointCount, .ref r_contourCount, .ref r_depths, .ref r_xs, .ref r_ys, .ref r_ons, .ref r_contours, .int (bI o_bad), .int (nI (n_at)), .int (nI (n_end)), .ref r_flags, .ref r_part, .int (nI (n_typed)), .ref r_text, .int (nI (n_ring)), .ref r_ringX, .ref r_ringY, .ref r_ringOn, .int (nI (n_wait)), .ref r_curves, .ref r_windings, .ref r_rows])), (r_bytes, .inl (c_bytes, 2400, .inl (v_bytes)))]) [0, 1] rfl
  have hD9 := hD.sub (ws' := [(m0, .inr (10, [.int i_fault, .int (nI (n_size)), .ref r_file, .int (nI (n_side)), .int (bI o_font), .ref r_bytes, .ref r_places, .ref r_lengths, .ref r_glyphCount, .ref r_ems, .ref r_wides, .ref r_forms, .ref r_parts, .ref r_charts, .ref r_pointCount, .ref r_contourCount, .ref r_depths, .ref r_xs, .ref r_ys, .ref r_ons, .ref r_contours, .int (bI o_bad), .int (nI (n_at)), .int (nI (n_end)), .ref r_flags, .ref r_part, .int (nI (n_typed)), .ref r_text, .int (nI (n_ring)), .ref r_ringX, .ref r_ringY, .ref r_ringOn, .int (nI (n_wait)), .ref r_curves, .ref r_windings, .ref r_rows])), (r_bytes, .inl (c_bytes, 2400, .inl (v_bytes)))]) [0, 1] (by decide) rfl
  have hK9 := hK.sub (tys' := [(c_bytes, .int)]) [0] rfl
  exact W.lret (v := lN ((((0 + kn7511) * 256 + kn7512) * 256 + kn7513) * 256 + kn7514)) hx hb hr (fun t ht hW => ⟨⟨lN ((((0 + kn7511) * 256 + kn7512) * 256 + kn7513) * 256 + kn7514), (), rfl, ⟨(((0 + kn7511) * 256 + kn7512) * 256 + kn7513) * 256 + kn7514, by omega, by unfold num4; omega, rfl⟩, by rw [ht]; exact hP9, va_K.moved hW.alike hK9, hD9⟩, hS.F ht⟩) hS.2.2 d_MD_number_45
set_option maxHeartbeats 4000000 in
set_option maxRecDepth 100000 in
/-- GlyphLinesModel.u16 -/
theorem g_MD_u16_0 (l : Launch) (dC : Nat → ClassId) (dI : Nat → Nat → Nat) (m0 : Nat) (i_fault : Int32) (n_size : Nat) (r_file : Nat) (n_side : Nat) (o_font : Bool) (r_bytes : Nat) (r_places : Nat) (r_lengths : Nat) (r_glyphCount : Nat) (r_ems : Nat) (r_wides : Nat) (r_forms : Nat) (r_parts : Nat) (r_charts : Nat) (r_pointCount : Nat) (r_contourCount : Nat) (r_depths : Nat) (r_xs : Nat) (r_ys : Nat) (r_ons : Nat) (r_contours : Nat) (o_bad : Bool) (n_at : Nat) (n_end : Nat) (r_flags : Nat) (r_part : Nat) (n_typed : Nat) (r_text : Nat) (n_ring : Nat) (r_ringX : Nat) (r_ringY : Nat) (r_ringOn : Nat) (n_wait : Nat) (r_curves : Nat) (r_windings : Nat) (r_rows : Nat) (c_bytes : ClassId) (v_bytes : Nat → Int32) (c_places : ClassId) (v_places : Nat → Int32) (sd9 : Nat) (pl9 : Nat) (pp9 : Nat) (sz : Nat) (hq0 : n_size ≤ 1200) (hq1 : n_side ≤ 1) (hq2 : n_typed ≤ 12) (hq3 : isN 256 v_bytes) (hq4 : v_places (8 * sd9) = nI pp9) (hq5 : sd9 ≤ 1) (hq6 : pp9 + pl9 + 2 ≤ 1200) : Met l y_MD_u16 s_MD_u16 ({ frames := 10, cells := 0, slots := 0, locals := 300 }) (va_Pc [.ref m0, .int (nI (sd9)), .int 0, .int (nI (pl9))] (fun U => U.heap.size = sz ∧ va_P (dC, dI) cls_ [(m0, .inr (10, [.int i_fault, .int (nI (n_size)), .ref r_file, .int (nI (n_side)), .int (bI o_font), .ref r_bytes, .ref r_places, .ref r_lengths, .ref r_glyphCount, .ref r_ems, .ref r_wides, .ref r_forms, .ref r_parts, .ref r_charts, .ref r_pointCount, .ref r_contourCount, .ref r_depths, .ref r_xs, .ref r_ys, .ref r_ons, .ref r_contours, .int (bI o_bad), .int (nI (n_at)), .int (nI (n_end)), .ref r_flags, .ref r_part, .int (nI (n_typed)), .ref r_text, .int (nI (n_ring)), .ref r_ringX, .ref r_ringY, .ref r_ringOn, .int (nI (n_wait)), .ref r_curves, .ref r_windings, .ref r_rows])), (r_bytes, .inl (c_bytes, 2400, .inl (v_bytes))), (r_places, .inl (c_places, 16, .inl (v_places)))] U.heap ∧ va_K (dC, dI) cls_ [(c_bytes, .int), (c_places, .int)] U ∧ va_D (fun _ => True) [(m0, .inr (10, [.int i_fault, .int (nI (n_size)), .ref r_file, .int (nI (n_side)), .int (bI o_font), .ref r_bytes, .ref r_places, .ref r_lengths, .ref r_glyphCount, .ref r_ems, .ref r_wides, .ref r_forms, .ref r_parts, .ref r_charts, .ref r_pointCount, .ref r_contourCount, .ref r_depths, .ref r_xs, .ref r_ys, .ref r_ons, .ref r_contours, .int (bI o_bad), .int (nI (n_at)), .int (nI (n_end)), .ref r_flags, .ref r_part, .int (nI (n_typed)), .ref r_text, .int (nI (n_ring)), .ref r_ringX, .ref r_ringY, .ref r_ringOn, .int (nI (n_wait)), .ref r_curves, .ref r_windings, .ref r_rows])), (r_bytes, .inl (c_bytes, 2400, .inl (v_bytes))), (r_places, .inl (c_places, 16, .inl (v_places)))])) (va_Qi (fun (r : Int32) (_ : Unit) => ∃ v : Nat, v < 65536 ∧ v = num2 v_bytes (1200 * sd9 + (pp9 + pl9)) ∧ r = nI v) (fun (_ : Unit) (t : State) => va_P (dC, dI) cls_ [(m0, .inr (10, [.int i_fault, .int (nI (n_size)), .ref r_file, .int (nI (n_side)), .int (bI o_font), .ref r_bytes, .ref r_places, .ref r_lengths, .ref r_glyphCount, .ref r_ems, .ref r_wides, .ref r_forms, .ref r_parts, .ref r_charts, .ref r_pointCount, .ref r_contourCount, .ref r_depths, .ref r_xs, .ref r_ys, .ref r_ons, .ref r_contours, .int (bI o_bad), .int (nI (n_at)), .int (nI (n_end)), .ref r_flags, .ref r_part, .int (nI (n_typed)), .ref r_text, .int (nI (n_ring)), .ref r_ringX, .ref r_ringY, .ref r_ringOn, .int (nI (n_wait)), .ref r_curves, .ref r_windings, .ref r_rows])), (r_bytes, .inl (c_bytes, 2400, .inl (v_bytes))), (r_places, .inl (c_places, 16, .inl (v_places)))] t.heap ∧ va_K (dC, dI) cls_ [(c_bytes, .int), (c_places, .int)] t ∧ va_D (va_A [(m0, .inr (10, [.int i_fault, .int (nI (n_size)), .ref r_file, .int (nI (n_side)), .int (bI o_font), .ref r_bytes, .ref r_places, .ref r_lengths, .ref r_glyphCount, .ref r_ems, .ref r_wides, .ref r_forms, .ref r_parts, .ref r_charts, .ref r_pointCount, .ref r_contourCount, .ref r_depths, .ref r_xs, .ref r_ys, .ref r_ons, .ref r_contours, .int (bI o_bad), .int (nI (n_at)), .int (nI (n_end)), .ref r_flags, .ref r_part, .int (nI (n_typed)), .ref r_text, .int (nI (n_ring)), .ref r_ringX, .ref r_ringY, .ref r_ringOn, .int (nI (n_wait)), .ref r_curves, .ref r_windings, .ref r_rows])), (r_bytes, .inl (c_bytes, 2400, .inl (v_bytes))), (r_places, .inl (c_places, 16, .inl (v_places)))] sz) [(m0, .inr (10, [.int i_fault, .int (nI (n_size)), .ref r_file, .int (nI (n_side)), .int (bI o_font), .ref r_bytes, .ref r_places, .ref r_lengths, .ref r_glyphCount, .ref r_ems, .ref r_wides, .ref r_forms, .ref r_parts, .ref r_charts, .ref r_pointCount, .ref r_contourCount, .ref r_depths, .ref r_xs, .ref r_ys, .ref r_ons, .ref r_contours, .int (bI o_bad), .int (nI (n_at)), .int (nI (n_end)), .ref r_flags, .ref r_part, .int (nI (n_typed)), .ref r_text, .int (nI (n_ring)), .ref r_ringX, .ref r_ringY, .ref r_ringOn, .int (nI (n_wait)), .ref r_curves, .ref r_windings, .ref r_rows])), (r_bytes, .inl (c_bytes, 2400, .inl (v_bytes))), (r_places, .inl (c_places, 16, .inl (v_places)))]) (va_A [(m0, .inr (10, [.int i_fault, .int (nI (n_size)), .ref r_file, .int (nI (n_side)), .int (bI o_font), .ref r_bytes, .ref r_places, .ref r_lengths, .ref r_glyphCount, .ref r_ems, .ref r_wides, .ref r_forms, .ref r_parts, .ref r_charts, .ref r_pointCount, .ref r_contourCount, .ref r_depths, .ref r_xs, .ref r_ys, .ref r_ons, .ref r_contours, .int (bI o_bad), .int (nI (n_at)), .int (nI (n_end)), .ref r_flags, .ref r_part, .int (nI (n_typed)), .ref r_text, .int (nI (n_ring)), .ref r_ringX, .ref r_ringY, .ref r_ringOn, .int (nI (n_wait)), .ref r_curves, .ref r_windings, .ref r_rows])), (r_bytes, .inl (c_bytes, 2400, .inl (v_bytes))), (r_places, .inl (c_places, 16, .inl (v_places)))] sz)) 0 0 (va_A [(m0, .inr (10, [.int i_fault, .int (nI (n_size)), .ref r_file, .int (nI (n_side)), .int (bI o_font), .ref r_bytes, .ref r_places, .ref r_lengths, .ref r_glyphCount, .ref r_ems, .ref r_wides, .ref r_forms, .ref r_parts, .ref r_charts, .ref r_pointCount, .ref r_contourCount, .ref r_depths, .ref r_xs, .ref r_ys, .ref r_ons, .ref r_contours, .int (bI o_bad), .int (nI (n_at)), .int (nI (n_end)), .ref r_flags, .ref r_part, .int (nI (n_typed)), .ref r_text, .int (nI (n_ring)), .ref r_ringX, .ref r_ringY, .ref r_ringOn, .int (nI (n_wait)), .ref r_curves, .ref r_windings, .ref r_rows])), (r_bytes, .inl (c_bytes, 2400, .inl (v_bytes))), (r_places, .inl (c_places, 16, .inl (v_places)))] sz) := by
  refine Met.ofW (cc := b_MD_u16) (maxL := 4) (ret := (some .int)) (by decide) rfl ?_
  intro p e s m args below meth c s₁ B hml hv
  obtain ⟨rfl, hsz, hP, hK, hD0⟩ := hv
  have hx := B.exec
  have hb := B.bytes
  have hr := B.returns
  have hts := atoms_spec (ws := s_MD_u16) B.pre
  have hown : s.vm.findClass R_MD = some m.cls := findClass_of_methodNamed B.named
  have hlocks := B.notSynchronized
  subst hsz
  have hD := hD0.self (sz := s.heap.size)
  generalize hAe : va_A [(m0, .inr (10, [.int i_fault, .int (nI (n_size)), .ref r_file, .int (nI (n_side)), .int (bI o_font), .ref r_bytes, .ref r_places, .ref r_lengths, .ref r_glyphCount, .ref r_ems, .ref r_wides, .ref r_forms, .ref r_parts, .ref r_charts, .ref r_pointCount, .ref r_contourCount, .ref r_depths, .ref r_xs, .ref r_ys, .ref r_ons, .ref r_contours, .int (bI o_bad), .int (nI (n_at)), .int (nI (n_end)), .ref r_flags, .ref r_part, .int (nI (n_typed)), .ref r_text, .int (nI (n_ring)), .ref r_ringX, .ref r_ringY, .ref r_ringOn, .int (nI (n_wait)), .ref r_curves, .ref r_windings, .ref r_rows])), (r_bytes, .inl (c_bytes, 2400, .inl (v_bytes))), (r_places, .inl (c_places, 16, .inl (v_places)))] s.heap.size = A at hD ⊢
  have hA : ∀ q : Nat, s.heap.size ≤ q → A q := fun q h => by rw [← hAe]; exact Or.inr h
  have hS : va_S A s.heap s.heap [] := va_S.rf
  have hP : va_P (dC, dI) cls_ [(m0, .inr (10, [.int i_fault, .int (nI (n_size)), .ref r_file, .int (nI (n_side)), .int (bI o_font), .ref r_bytes, .ref r_places, .ref r_lengths, .ref r_glyphCount, .ref r_ems, .ref r_wides, .ref r_forms, .ref r_parts, .ref r_charts, .ref r_pointCount, .ref r_contourCount, .ref r_depths, .ref r_xs, .ref r_ys, .ref r_ons, .ref r_contours, .int (bI o_bad), .int (nI (n_at)), .int (nI (n_end)), .ref r_flags, .ref r_part, .int (nI (n_typed)), .ref r_text, .int (nI (n_ring)), .ref r_ringX, .ref r_ringY, .ref r_ringOn, .int (nI (n_wait)), .ref r_curves, .ref r_windings, .ref r_rows])), (r_bytes, .inl (c_bytes, 2400, .inl (v_bytes))), (r_places, .inl (c_places, 16, .inl (v_places)))] s.heap := hP
  have hl := lv_entry ([.ref m0, .int (nI (sd9)), .int 0, .int (nI (pl9))]) (n := 4) (Nat.le_of_ble_eq_true rfl)
  rw [lg_entry_eq]
  generalize (lg_sl ([.ref m0, .int (nI (sd9)), .int 0, .int (nI (pl9))]) ++ List.replicate (4 - (lg_sl ([.ref m0, .int (nI (sd9)), .int 0, .int (nI (pl9))])).length) Slot.unset).toArray = ls at hl ⊢
  have hl : lv_has ls 4 [(0, .ref m0), (1, .int (nI (sd9))), (2, .int 0), (3, .int (nI (pl9)))] := hl
  refine lv_aload_n hx hb d_MD_u16_0 rfl (lv_at hl 0 rfl) ?_
  refine lv_iload_n hx hb d_MD_u16_1 rfl (lv_at hl 1 rfl) ?_
  refine lv_aload_n hx hb d_MD_u16_2 rfl (lv_at hl 0 rfl) ?_
  refine va_get (D := (dC, dI)) (ci := 10) (v := .ref r_places) (C := R_MD) (T := F_MD) (N := 36) hx hb hts in_MD hown hK hP 0 rfl rfl 6 (by decide) (hts _ (List.mem_cons_of_mem _ w_858)) (fun _ h9 => h9) rfl d_MD_u16_3 ?_
  refine lv_bipush (v := 8) hx hb d_MD_u16_6 (by decide) ?_
  refine lv_iload_n hx hb d_MD_u16_8 rfl (lv_at hl 1 rfl) ?_
  refine lv_imul hx hb d_MD_u16_9 ?_
  refine lv_ci (y := nI (8 * sd9)) (pk_mul (8) (sd9)) ?_
  refine lv_iload_n hx hb d_MD_u16_10 rfl (lv_at hl 2 rfl) ?_
  refine lv_iadd hx hb d_MD_u16_11 ?_
  refine lv_ci (y := nI (8 * sd9)) (nI_add (8 * sd9) 0) ?_
  refine va_iald hx hb hK hP 2 1 rfl rfl (pk_in (8 * sd9) 16 (by omega) rfl (by decide)) d_MD_u16_12 ?_
  refine lv_ci (y := nI (pp9)) (by rw [nI_clamp (show 8 * sd9 < 2 ^ 31 by omega)]; assumption) ?_
  refine lv_iload_n hx hb d_MD_u16_13 rfl (lv_at hl 3 rfl) ?_
  refine lv_iadd hx hb d_MD_u16_14 ?_
  refine lv_ci (y := nI (pp9 + pl9)) (nI_add (pp9) (pl9)) ?_
  refine lv_iconst (v := 2) hx hb d_MD_u16_15 (by decide) ?_
  have hPc := hP.sub (ws' := [(m0, .inr (10, [.int i_fault, .int (nI (n_size)), .ref r_file, .int (nI (n_side)), .int (bI o_font), .ref r_bytes, .ref r_places, .ref r_lengths, .ref r_glyphCount, .ref r_ems, .ref r_wides, .ref r_forms, .ref r_parts, .ref r_charts, .ref r_pointCount, .ref r_contourCount, .ref r_depths, .ref r_xs, .ref r_ys, .ref r_ons, .ref r_contours, .int (bI o_bad), .int (nI (n_at)), .int (nI (n_end)), .ref r_flags, .ref r_part, .int (nI (n_typed)), .ref r_text, .int (nI (n_ring)), .ref r_ringX, .ref r_ringY, .ref r_ringOn, .int (nI (n_wait)), .ref r_curves, .ref r_windings, .ref r_rows])), (r_bytes, .inl (c_bytes, 2400, .inl (v_bytes)))]) [0, 1] rfl
  have hDc := hD.sub (ws' := [(m0, .inr (10, [.int i_fault, .int (nI (n_size)), .ref r_file, .int (nI (n_side)), .int (bI o_font), .ref r_bytes, .ref r_places, .ref r_lengths, .ref r_glyphCount, .ref r_ems, .ref r_wides, .ref r_forms, .ref r_parts, .ref r_charts, .ref r_pointCount, .ref r_contourCount, .ref r_depths, .ref r_xs, .ref r_ys, .ref r_ons, .ref r_contours, .int (bI o_bad), .int (nI (n_at)), .int (nI (n_end)), .ref r_flags, .ref r_part, .int (nI (n_typed)), .ref r_text, .int (nI (n_ring)), .ref r_ringX, .ref r_ringY, .ref r_ringOn, .int (nI (n_wait)), .ref r_curves, .ref r_windings, .ref r_rows])), (r_bytes, .inl (c_bytes, 2400, .inl (v_bytes)))]) [0, 1] (by decide) rfl
  have hKc := hK.sub (tys' := [(c_bytes, .int)]) [0] rfl
  have hFc := va_free (wc := [(m0, .inr (10, [.int i_fault, .int (nI (n_size)), .ref r_file, .int (nI (n_side)), .int (bI o_font), .ref r_bytes, .ref r_places, .ref r_lengths, .ref r_glyphCount, .ref r_ems, .ref r_wides, .ref r_forms, .ref r_parts, .ref r_charts, .ref r_pointCount, .ref r_contourCount, .ref r_depths, .ref r_xs, .ref r_ys, .ref r_ons, .ref r_contours, .int (bI o_bad), .int (nI (n_at)), .int (nI (n_end)), .ref r_flags, .ref r_part, .int (nI (n_typed)), .ref r_text, .int (nI (n_ring)), .ref r_ringX, .ref r_ringY, .ref r_ringOn, .int (nI (n_wait)), .ref r_curves, .ref r_windings, .ref r_rows])), (r_bytes, .inl (c_bytes, 2400, .inl (v_bytes)))]) hD hS hA [0, 1] rfl
  refine va_calll (va_runV (As := [.int (nI (sd9)), .int (nI (pp9 + pl9)), .int 2]) (rest := []) ⟨hx, hb, hml, hown, hts⟩ (g_MD_number2 l dC dI m0 i_fault n_size r_file n_side o_font r_bytes r_places r_lengths r_glyphCount r_ems r_wides r_forms r_parts r_charts r_pointCount r_contourCount r_depths r_xs r_ys r_ons r_contours o_bad n_at n_end r_flags r_part n_typed r_text n_ring r_ringX r_ringY r_ringOn n_wait r_curves r_windings r_rows c_bytes v_bytes sd9 (pp9 + pl9) s.heap.size (by omega) (by omega) (by omega) (by assumption) (by omega) (by omega)) (cwV 3 hts (tw_inV w_993 w_995 wp_36 w_11 w_996) rfl rfl rfl (by decide +kernel) ⟨Nat.le_of_ble_eq_true rfl, Nat.le_of_ble_eq_true rfl⟩) ⟨fun a U g mk q => by obtain ⟨q0, q1, qP, qK, qD⟩ := q; exact ⟨q0, q1, qP, va_K.moved (u := U) (U := U.calling g mk a) (Vm.Alike.refl U.vm) qK, qD⟩, va_recv (hK := hK) (hP := hP) (q0 := 0) (ci := 10) rfl rfl, fun U hU hW => ⟨rfl, by rw [hU], by rw [hU]; exact hPc, va_K.moved hW.alike hKc, hDc.weaken (fun _ _ _ _ => trivial)⟩⟩ rfl rfl hl.1 rfl (lv_room (Nat.le_of_ble_eq_true rfl)) d_MD_u16_16 ⟨Nat.le_of_ble_eq_true rfl, Nat.le_of_ble_eq_true rfl⟩) hS (fun q _ h => hFc q h) hFc (fun r7515 u t H1 locs ht hvm hw hB hz1 hk1 hS => ?_)
  obtain ⟨hP1, hK1, hD1⟩ := hB
  rw [ht] at hP1
  have hK1 := va_K.moved hvm.symm hK1
  obtain ⟨hP, hD⟩ := va_join (wr := [(r_places, .inl (c_places, 16, .inl (v_places)))]) (w1 := [(m0, .inr (10, [.int i_fault, .int (nI (n_size)), .ref r_file, .int (nI (n_side)), .int (bI o_font), .ref r_bytes, .ref r_places, .ref r_lengths, .ref r_glyphCount, .ref r_ems, .ref r_wides, .ref r_forms, .ref r_parts, .ref r_charts, .ref r_pointCount, .ref r_contourCount, .ref r_depths, .ref r_xs, .ref r_ys, .ref r_ons, .ref r_contours, .int (bI o_bad), .int (nI (n_at)), .int (nI (n_end)), .ref r_flags, .ref r_part, .int (nI (n_typed)), .ref r_text, .int (nI (n_ring)), .ref r_ringX, .ref r_ringY, .ref r_ringOn, .int (nI (n_wait)), .ref r_curves, .ref r_windings, .ref r_rows])), (r_bytes, .inl (c_bytes, 2400, .inl (v_bytes)))]) hP hD [0, 1] [2] rfl rfl (by decide) (by decide) hk1 hFc hP1 hD1
  have hK := (hK.sub (tys' := [(c_places, .int)]) [1] rfl).app hK1
  generalize H1 = H at hP hS ⊢
  have hP : va_P (dC, dI) cls_ [(r_places, .inl (c_places, 16, .inl (v_places))), (m0, .inr (10, [.int i_fault, .int (nI (n_size)), .ref r_file, .int (nI (n_side)), .int (bI o_font), .ref r_bytes, .ref r_places, .ref r_lengths, .ref r_glyphCount, .ref r_ems, .ref r_wides, .ref r_forms, .ref r_parts, .ref r_charts, .ref r_pointCount, .ref r_contourCount, .ref r_depths, .ref r_xs, .ref r_ys, .ref r_ons, .ref r_contours, .int (bI o_bad), .int (nI (n_at)), .int (nI (n_end)), .ref r_flags, .ref r_part, .int (nI (n_typed)), .ref r_text, .int (nI (n_ring)), .ref r_ringX, .ref r_ringY, .ref r_ringOn, .int (nI (n_wait)), .ref r_curves, .ref r_windings, .ref r_rows])), (r_bytes, .inl (c_bytes, 2400, .inl (v_bytes)))] H := hP
  have hD : va_D A [(r_places, .inl (c_places, 16, .inl (v_places))), (m0, .inr (10, [.int i_fault, .int (nI (n_size)), .ref r_file, .int (nI (n_side)), .int (bI o_font), .ref r_bytes, .ref r_places, .ref r_lengths, .ref r_glyphCount, .ref r_ems, .ref r_wides, .ref r_forms, .ref r_parts, .ref r_charts, .ref r_pointCount, .ref r_contourCount, .ref r_depths, .ref r_xs, .ref r_ys, .ref r_ons, .ref r_contours, .int (bI o_bad), .int (nI (n_at)), .int (nI (n_end)), .ref r_flags, .ref r_part, .int (nI (n_typed)), .ref r_text, .int (nI (n_ring)), .ref r_ringX, .ref r_ringY, .ref r_ringOn, .int (nI (n_wait)), .ref r_curves, .ref r_windings, .ref r_rows])), (r_bytes, .inl (c_bytes, 2400, .inl (v_bytes)))] := hD
  have hK : va_K (dC, dI) cls_ [(c_places, .int), (c_bytes, .int)] s := hK
  have hw_r7515 := hw
  obtain ⟨kn7516, hkn7516, bkn7516, rfl⟩ := hw_r7515
  refine lv_l2i (v := (lN (kn7516)).toInt32) hx hb d_MD_u16_19 rfl ?_
  refine lv_ci (y := nI (kn7516)) (lN_i (kn7516)) ?_
  refine W.widen (k := 0) (n := 0) (Nat.le_of_ble_eq_true rfl) (Nat.le_of_ble_eq_true rfl) ?_
  have hP9 := hP.sub (ws' := [(m0, .inr (10, [.int i_fault, .int (nI (n_size)), .ref r_file, .int (nI (n_side)), .int (bI o_font), .ref r_bytes, .ref r_places, .ref r_lengths, .ref r_glyphCount, .ref r_ems, .ref r_wides, .ref r_forms, .ref r_parts, .ref r_charts, .ref r_pointCount, .ref r_contourCount, .ref r_depths, .ref r_xs, .ref r_ys, .ref r_ons, .ref r_contours, .int (bI o_bad), .int (nI (n_at)), .int (nI (n_end)), .ref r_flags, .ref r_part, .int (nI (n_typed)), .ref r_text, .int (nI (n_ring)), .ref r_ringX, .ref r_ringY, .ref r_ringOn, .int (nI (n_wait)), .ref r_curves, .ref r_windings, .ref r_rows])), (r_bytes, .inl (c_bytes, 2400, .inl (v_bytes))), (r_places, .inl (c_places, 16, .inl (v_places)))]) [1, 2, 0] rfl
  have hD9 := hD.sub (ws' := [(m0, .inr (10, [.int i_fault, .int (nI (n_size)), .ref r_file, .int (nI (n_side)), .int (bI o_font), .ref r_bytes, .ref r_places, .ref r_lengths, .ref r_glyphCount, .ref r_ems, .ref r_wides, .ref r_forms, .ref r_parts, .ref r_charts, .ref r_pointCount, .ref r_contourCount, .ref r_depths, .ref r_xs, .ref r_ys, .ref r_ons, .ref r_contours, .int (bI o_bad), .int (nI (n_at)), .int (nI (n_end)), .ref r_flags, .ref r_part, .int (nI (n_typed)), .ref r_text, .int (nI (n_ring)), .ref r_ringX, .ref r_ringY, .ref r_ringOn, .int (nI (n_wait)), .ref r_curves, .ref r_windings, .ref r_rows])), (r_bytes, .inl (c_bytes, 2400, .inl (v_bytes))), (r_places, .inl (c_places, 16, .inl (v_places)))]) [1, 2, 0] (by decide) rfl
  have hK9 := hK.sub (tys' := [(c_bytes, .int), (c_places, .int)]) [1, 0] rfl
  exact W.iret (v := nI (kn7516)) hx hb hr (fun t ht hW => ⟨⟨nI (kn7516), (), rfl, ⟨kn7516, by omega, by assumption, rfl⟩, by rw [ht]; exact hP9, va_K.moved hW.alike hK9, hD9⟩, hS.F ht⟩) hS.2.2 d_MD_u16_20
set_option maxHeartbeats 4000000 in
set_option maxRecDepth 100000 in
/-- GlyphLinesModel.u16 -/
theorem g_MD_u16 (l : Launch) (dC : Nat → ClassId) (dI : Nat → Nat → Nat) (m0 : Nat) (i_fault : Int32) (n_size : Nat) (r_file : Nat) (n_side : Nat) (o_font : Bool) (r_bytes : Nat) (r_places : Nat) (r_lengths : Nat) (r_glyphCount : Nat) (r_ems : Nat) (r_wides : Nat) (r_forms : Nat) (r_parts : Nat) (r_charts : Nat) (r_pointCount : Nat) (r_contourCount : Nat) (r_depths : Nat) (r_xs : Nat) (r_ys : Nat) (r_ons : Nat) (r_contours : Nat) (o_bad : Bool) (n_at : Nat) (n_end : Nat) (r_flags : Nat) (r_part : Nat) (n_typed : Nat) (r_text : Nat) (n_ring : Nat) (r_ringX : Nat) (r_ringY : Nat) (r_ringOn : Nat) (n_wait : Nat) (r_curves : Nat) (r_windings : Nat) (r_rows : Nat) (c_bytes : ClassId) (v_bytes : Nat → Int32) (c_places : ClassId) (v_places : Nat → Int32) (sd9 : Nat) (tt9 : Nat) (pl9 : Nat) (pp9 : Nat) (sz : Nat) (hq0 : n_size ≤ 1200) (hq1 : n_side ≤ 1) (hq2 : n_typed ≤ 12) (hq3 : isN 256 v_bytes) (hq4 : v_places (8 * sd9 + tt9) = nI pp9) (hq5 : sd9 ≤ 1) (hq6 : tt9 < 8) (hq7 : pp9 + pl9 + 2 ≤ 1200) : Met l y_MD_u16 s_MD_u16 ({ frames := 10, cells := 0, slots := 0, locals := 300 }) (va_Pc [.ref m0, .int (nI (sd9)), .int (nI (tt9)), .int (nI (pl9))] (fun U => U.heap.size = sz ∧ va_P (dC, dI) cls_ [(m0, .inr (10, [.int i_fault, .int (nI (n_size)), .ref r_file, .int (nI (n_side)), .int (bI o_font), .ref r_bytes, .ref r_places, .ref r_lengths, .ref r_glyphCount, .ref r_ems, .ref r_wides, .ref r_forms, .ref r_parts, .ref r_charts, .ref r_pointCount, .ref r_contourCount, .ref r_depths, .ref r_xs, .ref r_ys, .ref r_ons, .ref r_contours, .int (bI o_bad), .int (nI (n_at)), .int (nI (n_end)), .ref r_flags, .ref r_part, .int (nI (n_typed)), .ref r_text, .int (nI (n_ring)), .ref r_ringX, .ref r_ringY, .ref r_ringOn, .int (nI (n_wait)), .ref r_curves, .ref r_windings, .ref r_rows])), (r_bytes, .inl (c_bytes, 2400, .inl (v_bytes))), (r_places, .inl (c_places, 16, .inl (v_places)))] U.heap ∧ va_K (dC, dI) cls_ [(c_bytes, .int), (c_places, .int)] U ∧ va_D (fun _ => True) [(m0, .inr (10, [.int i_fault, .int (nI (n_size)), .ref r_file, .int (nI (n_side)), .int (bI o_font), .ref r_bytes, .ref r_places, .ref r_lengths, .ref r_glyphCount, .ref r_ems, .ref r_wides, .ref r_forms, .ref r_parts, .ref r_charts, .ref r_pointCount, .ref r_contourCount, .ref r_depths, .ref r_xs, .ref r_ys, .ref r_ons, .ref r_contours, .int (bI o_bad), .int (nI (n_at)), .int (nI (n_end)), .ref r_flags, .ref r_part, .int (nI (n_typed)), .ref r_text, .int (nI (n_ring)), .ref r_ringX, .ref r_ringY, .ref r_ringOn, .int (nI (n_wait)), .ref r_curves, .ref r_windings, .ref r_rows])), (r_bytes, .inl (c_bytes, 2400, .inl (v_bytes))), (r_places, .inl (c_places, 16, .inl (v_places)))])) (va_Qi (fun (r : Int32) (_ : Unit) => ∃ v : Nat, v < 65536 ∧ v = num2 v_bytes (1200 * sd9 + (pp9 + pl9)) ∧ r = nI v) (fun (_ : Unit) (t : State) => va_P (dC, dI) cls_ [(m0, .inr (10, [.int i_fault, .int (nI (n_size)), .ref r_file, .int (nI (n_side)), .int (bI o_font), .ref r_bytes, .ref r_places, .ref r_lengths, .ref r_glyphCount, .ref r_ems, .ref r_wides, .ref r_forms, .ref r_parts, .ref r_charts, .ref r_pointCount, .ref r_contourCount, .ref r_depths, .ref r_xs, .ref r_ys, .ref r_ons, .ref r_contours, .int (bI o_bad), .int (nI (n_at)), .int (nI (n_end)), .ref r_flags, .ref r_part, .int (nI (n_typed)), .ref r_text, .int (nI (n_ring)), .ref r_ringX, .ref r_ringY, .ref r_ringOn, .int (nI (n_wait)), .ref r_curves, .ref r_windings, .ref r_rows])), (r_bytes, .inl (c_bytes, 2400, .inl (v_bytes))), (r_places, .inl (c_places, 16, .inl (v_places)))] t.heap ∧ va_K (dC, dI) cls_ [(c_bytes, .int), (c_places, .int)] t ∧ va_D (va_A [(m0, .inr (10, [.int i_fault, .int (nI (n_size)), .ref r_file, .int (nI (n_side)), .int (bI o_font), .ref r_bytes, .ref r_places, .ref r_lengths, .ref r_glyphCount, .ref r_ems, .ref r_wides, .ref r_forms, .ref r_parts, .ref r_charts, .ref r_pointCount, .ref r_contourCount, .ref r_depths, .ref r_xs, .ref r_ys, .ref r_ons, .ref r_contours, .int (bI o_bad), .int (nI (n_at)), .int (nI (n_end)), .ref r_flags, .ref r_part, .int (nI (n_typed)), .ref r_text, .int (nI (n_ring)), .ref r_ringX, .ref r_ringY, .ref r_ringOn, .int (nI (n_wait)), .ref r_curves, .ref r_windings, .ref r_rows])), (r_bytes, .inl (c_bytes, 2400, .inl (v_bytes))), (r_places, .inl (c_places, 16, .inl (v_places)))] sz) [(m0, .inr (10, [.int i_fault, .int (nI (n_size)), .ref r_file, .int (nI (n_side)), .int (bI o_font), .ref r_bytes, .ref r_places, .ref r_lengths, .ref r_glyphCount, .ref r_ems, .ref r_wides, .ref r_forms, .ref r_parts, .ref r_charts, .ref r_pointCount, .ref r_contourCount, .ref r_depths, .ref r_xs, .ref r_ys, .ref r_ons, .ref r_contours, .int (bI o_bad), .int (nI (n_at)), .int (nI (n_end)), .ref r_flags, .ref r_part, .int (nI (n_typed)), .ref r_text, .int (nI (n_ring)), .ref r_ringX, .ref r_ringY, .ref r_ringOn, .int (nI (n_wait)), .ref r_curves, .ref r_windings, .ref r_rows])), (r_bytes, .inl (c_bytes, 2400, .inl (v_bytes))), (r_places, .inl (c_places, 16, .inl (v_places)))]) (va_A [(m0, .inr (10, [.int i_fault, .int (nI (n_size)), .ref r_file, .int (nI (n_side)), .int (bI o_font), .ref r_bytes, .ref r_places, .ref r_lengths, .ref r_glyphCount, .ref r_ems, .ref r_wides, .ref r_forms, .ref r_parts, .ref r_charts, .ref r_pointCount, .ref r_contourCount, .ref r_depths, .ref r_xs, .ref r_ys, .ref r_ons, .ref r_contours, .int (bI o_bad), .int (nI (n_at)), .int (nI (n_end)), .ref r_flags, .ref r_part, .int (nI (n_typed)), .ref r_text, .int (nI (n_ring)), .ref r_ringX, .ref r_ringY, .ref r_ringOn, .int (nI (n_wait)), .ref r_curves, .ref r_windings, .ref r_rows])), (r_bytes, .inl (c_bytes, 2400, .inl (v_bytes))), (r_places, .inl (c_places, 16, .inl (v_places)))] sz)) 0 0 (va_A [(m0, .inr (10, [.int i_fault, .int (nI (n_size)), .ref r_file, .int (nI (n_side)), .int (bI o_font), .ref r_bytes, .ref r_places, .ref r_lengths, .ref r_glyphCount, .ref r_ems, .ref r_wides, .ref r_forms, .ref r_parts, .ref r_charts, .ref r_pointCount, .ref r_contourCount, .ref r_depths, .ref r_xs, .ref r_ys, .ref r_ons, .ref r_contours, .int (bI o_bad), .int (nI (n_at)), .int (nI (n_end)), .ref r_flags, .ref r_part, .int (nI (n_typed)), .ref r_text, .int (nI (n_ring)), .ref r_ringX, .ref r_ringY, .ref r_ringOn, .int (nI (n_wait)), .ref r_curves, .ref r_windings, .ref r_rows])), (r_bytes, .inl (c_bytes, 2400, .inl (v_bytes))), (r_places, .inl (c_places, 16, .inl (v_places)))] sz) := by
  refine Met.ofW (cc := b_MD_u16) (maxL := 4) (ret := (some .int)) (by decide) rfl ?_
  intro p e s m args below meth c s₁ B hml hv
  obtain ⟨rfl, hsz, hP, hK, hD0⟩ := hv
  have hx := B.exec
  have hb := B.bytes
  have hr := B.returns
  have hts := atoms_spec (ws := s_MD_u16) B.pre
  have hown : s.vm.findClass R_MD = some m.cls := findClass_of_methodNamed B.named
  have hlocks := B.notSynchronized
  subst hsz
  have hD := hD0.self (sz := s.heap.size)
  generalize hAe : va_A [(m0, .inr (10, [.int i_fault, .int (nI (n_size)), .ref r_file, .int (nI (n_side)), .int (bI o_font), .ref r_bytes, .ref r_places, .ref r_lengths, .ref r_glyphCount, .ref r_ems, .ref r_wides, .ref r_forms, .ref r_parts, .ref r_charts, .ref r_pointCount, .ref r_contourCount, .ref r_depths, .ref r_xs, .ref r_ys, .ref r_ons, .ref r_contours, .int (bI o_bad), .int (nI (n_at)), .int (nI (n_end)), .ref r_flags, .ref r_part, .int (nI (n_typed)), .ref r_text, .int (nI (n_ring)), .ref r_ringX, .ref r_ringY, .ref r_ringOn, .int (nI (n_wait)), .ref r_curves, .ref r_windings, .ref r_rows])), (r_bytes, .inl (c_bytes, 2400, .inl (v_bytes))), (r_places, .inl (c_places, 16, .inl (v_places)))] s.heap.size = A at hD ⊢
  have hA : ∀ q : Nat, s.heap.size ≤ q → A q := fun q h => by rw [← hAe]; exact Or.inr h
  have hS : va_S A s.heap s.heap [] := va_S.rf
  have hP : va_P (dC, dI) cls_ [(m0, .inr (10, [.int i_fault, .int (nI (n_size)), .ref r_file, .int (nI (n_side)), .int (bI o_font), .ref r_bytes, .ref r_places, .ref r_lengths, .ref r_glyphCount, .ref r_ems, .ref r_wides, .ref r_forms, .ref r_parts, .ref r_charts, .ref r_pointCount, .ref r_contourCount, .ref r_depths, .ref r_xs, .ref r_ys, .ref r_ons, .ref r_contours, .int (bI o_bad), .int (nI (n_at)), .int (nI (n_end)), .ref r_flags, .ref r_part, .int (nI (n_typed)), .ref r_text, .int (nI (n_ring)), .ref r_ringX, .ref r_ringY, .ref r_ringOn, .int (nI (n_wait)), .ref r_curves, .ref r_windings, .ref r_rows])), (r_bytes, .inl (c_bytes, 2400, .inl (v_bytes))), (r_places, .inl (c_places, 16, .inl (v_places)))] s.heap := hP
  have hl := lv_entry ([.ref m0, .int (nI (sd9)), .int (nI (tt9)), .int (nI (pl9))]) (n := 4) (Nat.le_of_ble_eq_true rfl)
  rw [lg_entry_eq]
  generalize (lg_sl ([.ref m0, .int (nI (sd9)), .int (nI (tt9)), .int (nI (pl9))]) ++ List.replicate (4 - (lg_sl ([.ref m0, .int (nI (sd9)), .int (nI (tt9)), .int (nI (pl9))])).length) Slot.unset).toArray = ls at hl ⊢
  have hl : lv_has ls 4 [(0, .ref m0), (1, .int (nI (sd9))), (2, .int (nI (tt9))), (3, .int (nI (pl9)))] := hl
  refine lv_aload_n hx hb d_MD_u16_0 rfl (lv_at hl 0 rfl) ?_
  refine lv_iload_n hx hb d_MD_u16_1 rfl (lv_at hl 1 rfl) ?_
  refine lv_aload_n hx hb d_MD_u16_2 rfl (lv_at hl 0 rfl) ?_
  refine va_get (D := (dC, dI)) (ci := 10) (v := .ref r_places) (C := R_MD) (T := F_MD) (N := 36) hx hb hts in_MD hown hK hP 0 rfl rfl 6 (by decide) (hts _ (List.mem_cons_of_mem _ w_858)) (fun _ h9 => h9) rfl d_MD_u16_3 ?_
  refine lv_bipush (v := 8) hx hb d_MD_u16_6 (by decide) ?_
  refine lv_iload_n hx hb d_MD_u16_8 rfl (lv_at hl 1 rfl) ?_
  refine lv_imul hx hb d_MD_u16_9 ?_
  refine lv_ci (y := nI (8 * sd9)) (pk_mul (8) (sd9)) ?_
  refine lv_iload_n hx hb d_MD_u16_10 rfl (lv_at hl 2 rfl) ?_
  refine lv_iadd hx hb d_MD_u16_11 ?_
  refine lv_ci (y := nI (8 * sd9 + tt9)) (nI_add (8 * sd9) (tt9)) ?_
  refine va_iald hx hb hK hP 2 1 rfl rfl (pk_in (8 * sd9 + tt9) 16 (by omega) rfl (by decide)) d_MD_u16_12 ?_
  refine lv_ci (y := nI (pp9)) (by rw [nI_clamp (show 8 * sd9 + tt9 < 2 ^ 31 by omega)]; assumption) ?_
  refine lv_iload_n hx hb d_MD_u16_13 rfl (lv_at hl 3 rfl) ?_
  refine lv_iadd hx hb d_MD_u16_14 ?_
  refine lv_ci (y := nI (pp9 + pl9)) (nI_add (pp9) (pl9)) ?_
  refine lv_iconst (v := 2) hx hb d_MD_u16_15 (by decide) ?_
  have hPc := hP.sub (ws' := [(m0, .inr (10, [.int i_fault, .int (nI (n_size)), .ref r_file, .int (nI (n_side)), .int (bI o_font), .ref r_bytes, .ref r_places, .ref r_lengths, .ref r_glyphCount, .ref r_ems, .ref r_wides, .ref r_forms, .ref r_parts, .ref r_charts, .ref r_pointCount, .ref r_contourCount, .ref r_depths, .ref r_xs, .ref r_ys, .ref r_ons, .ref r_contours, .int (bI o_bad), .int (nI (n_at)), .int (nI (n_end)), .ref r_flags, .ref r_part, .int (nI (n_typed)), .ref r_text, .int (nI (n_ring)), .ref r_ringX, .ref r_ringY, .ref r_ringOn, .int (nI (n_wait)), .ref r_curves, .ref r_windings, .ref r_rows])), (r_bytes, .inl (c_bytes, 2400, .inl (v_bytes)))]) [0, 1] rfl
  have hDc := hD.sub (ws' := [(m0, .inr (10, [.int i_fault, .int (nI (n_size)), .ref r_file, .int (nI (n_side)), .int (bI o_font), .ref r_bytes, .ref r_places, .ref r_lengths, .ref r_glyphCount, .ref r_ems, .ref r_wides, .ref r_forms, .ref r_parts, .ref r_charts, .ref r_pointCount, .ref r_contourCount, .ref r_depths, .ref r_xs, .ref r_ys, .ref r_ons, .ref r_contours, .int (bI o_bad), .int (nI (n_at)), .int (nI (n_end)), .ref r_flags, .ref r_part, .int (nI (n_typed)), .ref r_text, .int (nI (n_ring)), .ref r_ringX, .ref r_ringY, .ref r_ringOn, .int (nI (n_wait)), .ref r_curves, .ref r_windings, .ref r_rows])), (r_bytes, .inl (c_bytes, 2400, .inl (v_bytes)))]) [0, 1] (by decide) rfl
  have hKc := hK.sub (tys' := [(c_bytes, .int)]) [0] rfl
  have hFc := va_free (wc := [(m0, .inr (10, [.int i_fault, .int (nI (n_size)), .ref r_file, .int (nI (n_side)), .int (bI o_font), .ref r_bytes, .ref r_places, .ref r_lengths, .ref r_glyphCount, .ref r_ems, .ref r_wides, .ref r_forms, .ref r_parts, .ref r_charts, .ref r_pointCount, .ref r_contourCount, .ref r_depths, .ref r_xs, .ref r_ys, .ref r_ons, .ref r_contours, .int (bI o_bad), .int (nI (n_at)), .int (nI (n_end)), .ref r_flags, .ref r_part, .int (nI (n_typed)), .ref r_text, .int (nI (n_ring)), .ref r_ringX, .ref r_ringY, .ref r_ringOn, .int (nI (n_wait)), .ref r_curves, .ref r_windings, .ref r_rows])), (r_bytes, .inl (c_bytes, 2400, .inl (v_bytes)))]) hD hS hA [0, 1] rfl
  refine va_calll (va_runV (As := [.int (nI (sd9)), .int (nI (pp9 + pl9)), .int 2]) (rest := []) ⟨hx, hb, hml, hown, hts⟩ (g_MD_number2 l dC dI m0 i_fault n_size r_file n_side o_font r_bytes r_places r_lengths r_glyphCount r_ems r_wides r_forms r_parts r_charts r_pointCount r_contourCount r_depths r_xs r_ys r_ons r_contours o_bad n_at n_end r_flags r_part n_typed r_text n_ring r_ringX r_ringY r_ringOn n_wait r_curves r_windings r_rows c_bytes v_bytes sd9 (pp9 + pl9) s.heap.size (by omega) (by omega) (by omega) (by assumption) (by omega) (by omega)) (cwV 3 hts (tw_inV w_993 w_995 wp_36 w_11 w_996) rfl rfl rfl (by decide +kernel) ⟨Nat.le_of_ble_eq_true rfl, Nat.le_of_ble_eq_true rfl⟩) ⟨fun a U g mk q => by obtain ⟨q0, q1, qP, qK, qD⟩ := q; exact ⟨q0, q1, qP, va_K.moved (u := U) (U := U.calling g mk a) (Vm.Alike.refl U.vm) qK, qD⟩, va_recv (hK := hK) (hP := hP) (q0 := 0) (ci := 10) rfl rfl, fun U hU hW => ⟨rfl, by rw [hU], by rw [hU]; exact hPc, va_K.moved hW.alike hKc, hDc.weaken (fun _ _ _ _ => trivial)⟩⟩ rfl rfl hl.1 rfl (lv_room (Nat.le_of_ble_eq_true rfl)) d_MD_u16_16 ⟨Nat.le_of_ble_eq_true rfl, Nat.le_of_ble_eq_true rfl⟩) hS (fun q _ h => hFc q h) hFc (fun r7517 u t H1 locs ht hvm hw hB hz1 hk1 hS => ?_)
  obtain ⟨hP1, hK1, hD1⟩ := hB
  rw [ht] at hP1
  have hK1 := va_K.moved hvm.symm hK1
  obtain ⟨hP, hD⟩ := va_join (wr := [(r_places, .inl (c_places, 16, .inl (v_places)))]) (w1 := [(m0, .inr (10, [.int i_fault, .int (nI (n_size)), .ref r_file, .int (nI (n_side)), .int (bI o_font), .ref r_bytes, .ref r_places, .ref r_lengths, .ref r_glyphCount, .ref r_ems, .ref r_wides, .ref r_forms, .ref r_parts, .ref r_charts, .ref r_pointCount, .ref r_contourCount, .ref r_depths, .ref r_xs, .ref r_ys, .ref r_ons, .ref r_contours, .int (bI o_bad), .int (nI (n_at)), .int (nI (n_end)), .ref r_flags, .ref r_part, .int (nI (n_typed)), .ref r_text, .int (nI (n_ring)), .ref r_ringX, .ref r_ringY, .ref r_ringOn, .int (nI (n_wait)), .ref r_curves, .ref r_windings, .ref r_rows])), (r_bytes, .inl (c_bytes, 2400, .inl (v_bytes)))]) hP hD [0, 1] [2] rfl rfl (by decide) (by decide) hk1 hFc hP1 hD1
  have hK := (hK.sub (tys' := [(c_places, .int)]) [1] rfl).app hK1
  generalize H1 = H at hP hS ⊢
  have hP : va_P (dC, dI) cls_ [(r_places, .inl (c_places, 16, .inl (v_places))), (m0, .inr (10, [.int i_fault, .int (nI (n_size)), .ref r_file, .int (nI (n_side)), .int (bI o_font), .ref r_bytes, .ref r_places, .ref r_lengths, .ref r_glyphCount, .ref r_ems, .ref r_wides, .ref r_forms, .ref r_parts, .ref r_charts, .ref r_pointCount, .ref r_contourCount, .ref r_depths, .ref r_xs, .ref r_ys, .ref r_ons, .ref r_contours, .int (bI o_bad), .int (nI (n_at)), .int (nI (n_end)), .ref r_flags, .ref r_part, .int (nI (n_typed)), .ref r_text, .int (nI (n_ring)), .ref r_ringX, .ref r_ringY, .ref r_ringOn, .int (nI (n_wait)), .ref r_curves, .ref r_windings, .ref r_rows])), (r_bytes, .inl (c_bytes, 2400, .inl (v_bytes)))] H := hP
  have hD : va_D A [(r_places, .inl (c_places, 16, .inl (v_places))), (m0, .inr (10, [.int i_fault, .int (nI (n_size)), .ref r_file, .int (nI (n_side)), .int (bI o_font), .ref r_bytes, .ref r_places, .ref r_lengths, .ref r_glyphCount, .ref r_ems, .ref r_wides, .ref r_forms, .ref r_parts, .ref r_charts, .ref r_pointCount, .ref r_contourCount, .ref r_depths, .ref r_xs, .ref r_ys, .ref r_ons, .ref r_contours, .int (bI o_bad), .int (nI (n_at)), .int (nI (n_end)), .ref r_flags, .ref r_part, .int (nI (n_typed)), .ref r_text, .int (nI (n_ring)), .ref r_ringX, .ref r_ringY, .ref r_ringOn, .int (nI (n_wait)), .ref r_curves, .ref r_windings, .ref r_rows])), (r_bytes, .inl (c_bytes, 2400, .inl (v_bytes)))] := hD
  have hK : va_K (dC, dI) cls_ [(c_places, .int), (c_bytes, .int)] s := hK
  have hw_r7517 := hw
  obtain ⟨kn7518, hkn7518, bkn7518, rfl⟩ := hw_r7517
  refine lv_l2i (v := (lN (kn7518)).toInt32) hx hb d_MD_u16_19 rfl ?_
  refine lv_ci (y := nI (kn7518)) (lN_i (kn7518)) ?_
  refine W.widen (k := 0) (n := 0) (Nat.le_of_ble_eq_true rfl) (Nat.le_of_ble_eq_true rfl) ?_
  have hP9 := hP.sub (ws' := [(m0, .inr (10, [.int i_fault, .int (nI (n_size)), .ref r_file, .int (nI (n_side)), .int (bI o_font), .ref r_bytes, .ref r_places, .ref r_lengths, .ref r_glyphCount, .ref r_ems, .ref r_wides, .ref r_forms, .ref r_parts, .ref r_charts, .ref r_pointCount, .ref r_contourCount, .ref r_depths, .ref r_xs, .ref r_ys, .ref r_ons, .ref r_contours, .int (bI o_bad), .int (nI (n_at)), .int (nI (n_end)), .ref r_flags, .ref r_part, .int (nI (n_typed)), .ref r_text, .int (nI (n_ring)), .ref r_ringX, .ref r_ringY, .ref r_ringOn, .int (nI (n_wait)), .ref r_curves, .ref r_windings, .ref r_rows])), (r_bytes, .inl (c_bytes, 2400, .inl (v_bytes))), (r_places, .inl (c_places, 16, .inl (v_places)))]) [1, 2, 0] rfl
  have hD9 := hD.sub (ws' := [(m0, .inr (10, [.int i_fault, .int (nI (n_size)), .ref r_file, .int (nI (n_side)), .int (bI o_font), .ref r_bytes, .ref r_places, .ref r_lengths, .ref r_glyphCount, .ref r_ems, .ref r_wides, .ref r_forms, .ref r_parts, .ref r_charts, .ref r_pointCount, .ref r_contourCount, .ref r_depths, .ref r_xs, .ref r_ys, .ref r_ons, .ref r_contours, .int (bI o_bad), .int (nI (n_at)), .int (nI (n_end)), .ref r_flags, .ref r_part, .int (nI (n_typed)), .ref r_text, .int (nI (n_ring)), .ref r_ringX, .ref r_ringY, .ref r_ringOn, .int (nI (n_wait)), .ref r_curves, .ref r_windings, .ref r_rows])), (r_bytes, .inl (c_bytes, 2400, .inl (v_bytes))), (r_places, .inl (c_places, 16, .inl (v_places)))]) [1, 2, 0] (by decide) rfl
  have hK9 := hK.sub (tys' := [(c_bytes, .int), (c_places, .int)]) [1, 0] rfl
  exact W.iret (v := nI (kn7518)) hx hb hr (fun t ht hW => ⟨⟨nI (kn7518), (), rfl, ⟨kn7518, by omega, by assumption, rfl⟩, by rw [ht]; exact hP9, va_K.moved hW.alike hK9, hD9⟩, hS.F ht⟩) hS.2.2 d_MD_u16_20
set_option maxHeartbeats 4000000 in
set_option maxRecDepth 100000 in
/-- GlyphLinesModel.s16 -/
theorem g_MD_s16 (l : Launch) (dC : Nat → ClassId) (dI : Nat → Nat → Nat) (m0 : Nat) (i_fault : Int32) (n_size : Nat) (r_file : Nat) (n_side : Nat) (o_font : Bool) (r_bytes : Nat) (r_places : Nat) (r_lengths : Nat) (r_glyphCount : Nat) (r_ems : Nat) (r_wides : Nat) (r_forms : Nat) (r_parts : Nat) (r_charts : Nat) (r_pointCount : Nat) (r_contourCount : Nat) (r_depths : Nat) (r_xs : Nat) (r_ys : Nat) (r_ons : Nat) (r_contours : Nat) (o_bad : Bool) (n_at : Nat) (n_end : Nat) (r_flags : Nat) (r_part : Nat) (n_typed : Nat) (r_text : Nat) (n_ring : Nat) (r_ringX : Nat) (r_ringY : Nat) (r_ringOn : Nat) (n_wait : Nat) (r_curves : Nat) (r_windings : Nat) (r_rows : Nat) (c_bytes : ClassId) (v_bytes : Nat → Int32) (c_places : ClassId) (v_places : Nat → Int32) (sd9 : Nat) (tt9 : Nat) (pl9 : Nat) (pp9 : Nat) (sz : Nat) (hq0 : n_size ≤ 1200) (hq1 : n_side ≤ 1) (hq2 : n_typed ≤ 12) (hq3 : isN 256 v_bytes) (hq4 : v_places (8 * sd9 + tt9) = nI pp9) (hq5 : sd9 ≤ 1) (hq6 : tt9 < 8) (hq7 : pp9 + pl9 + 2 ≤ 1200) : Met l y_MD_s16 s_MD_s16 ({ frames := 12, cells := 0, slots := 0, locals := 400 }) (va_Pc [.ref m0, .int (nI (sd9)), .int (nI (tt9)), .int (nI (pl9))] (fun U => U.heap.size = sz ∧ va_P (dC, dI) cls_ [(m0, .inr (10, [.int i_fault, .int (nI (n_size)), .ref r_file, .int (nI (n_side)), .int (bI o_font), .ref r_bytes, .ref r_places, .ref r_lengths, .ref r_glyphCount, .ref r_ems, .ref r_wides, .ref r_forms, .ref r_parts, .ref r_charts, .ref r_pointCount, .ref r_contourCount, .ref r_depths, .ref r_xs, .ref r_ys, .ref r_ons, .ref r_contours, .int (bI o_bad), .int (nI (n_at)), .int (nI (n_end)), .ref r_flags, .ref r_part, .int (nI (n_typed)), .ref r_text, .int (nI (n_ring)), .ref r_ringX, .ref r_ringY, .ref r_ringOn, .int (nI (n_wait)), .ref r_curves, .ref r_windings, .ref r_rows])), (r_bytes, .inl (c_bytes, 2400, .inl (v_bytes))), (r_places, .inl (c_places, 16, .inl (v_places)))] U.heap ∧ va_K (dC, dI) cls_ [(c_bytes, .int), (c_places, .int)] U ∧ va_D (fun _ => True) [(m0, .inr (10, [.int i_fault, .int (nI (n_size)), .ref r_file, .int (nI (n_side)), .int (bI o_font), .ref r_bytes, .ref r_places, .ref r_lengths, .ref r_glyphCount, .ref r_ems, .ref r_wides, .ref r_forms, .ref r_parts, .ref r_charts, .ref r_pointCount, .ref r_contourCount, .ref r_depths, .ref r_xs, .ref r_ys, .ref r_ons, .ref r_contours, .int (bI o_bad), .int (nI (n_at)), .int (nI (n_end)), .ref r_flags, .ref r_part, .int (nI (n_typed)), .ref r_text, .int (nI (n_ring)), .ref r_ringX, .ref r_ringY, .ref r_ringOn, .int (nI (n_wait)), .ref r_curves, .ref r_windings, .ref r_rows])), (r_bytes, .inl (c_bytes, 2400, .inl (v_bytes))), (r_places, .inl (c_places, 16, .inl (v_places)))])) (va_Qi (fun (r : Int32) (_ : Unit) => True) (fun (_ : Unit) (t : State) => va_P (dC, dI) cls_ [(m0, .inr (10, [.int i_fault, .int (nI (n_size)), .ref r_file, .int (nI (n_side)), .int (bI o_font), .ref r_bytes, .ref r_places, .ref r_lengths, .ref r_glyphCount, .ref r_ems, .ref r_wides, .ref r_forms, .ref r_parts, .ref r_charts, .ref r_pointCount, .ref r_contourCount, .ref r_depths, .ref r_xs, .ref r_ys, .ref r_ons, .ref r_contours, .int (bI o_bad), .int (nI (n_at)), .int (nI (n_end)), .ref r_flags, .ref r_part, .int (nI (n_typed)), .ref r_text, .int (nI (n_ring)), .ref r_ringX, .ref r_ringY, .ref r_ringOn, .int (nI (n_wait)), .ref r_curves, .ref r_windings, .ref r_rows])), (r_bytes, .inl (c_bytes, 2400, .inl (v_bytes))), (r_places, .inl (c_places, 16, .inl (v_places)))] t.heap ∧ va_K (dC, dI) cls_ [(c_bytes, .int), (c_places, .int)] t ∧ va_D (va_A [(m0, .inr (10, [.int i_fault, .int (nI (n_size)), .ref r_file, .int (nI (n_side)), .int (bI o_font), .ref r_bytes, .ref r_places, .ref r_lengths, .ref r_glyphCount, .ref r_ems, .ref r_wides, .ref r_forms, .ref r_parts, .ref r_charts, .ref r_pointCount, .ref r_contourCount, .ref r_depths, .ref r_xs, .ref r_ys, .ref r_ons, .ref r_contours, .int (bI o_bad), .int (nI (n_at)), .int (nI (n_end)), .ref r_flags, .ref r_part, .int (nI (n_typed)), .ref r_text, .int (nI (n_ring)), .ref r_ringX, .ref r_ringY, .ref r_ringOn, .int (nI (n_wait)), .ref r_curves, .ref r_windings, .ref r_rows])), (r_bytes, .inl (c_bytes, 2400, .inl (v_bytes))), (r_places, .inl (c_places, 16, .inl (v_places)))] sz) [(m0, .inr (10, [.int i_fault, .int (nI (n_size)), .ref r_file, .int (nI (n_side)), .int (bI o_font), .ref r_bytes, .ref r_places, .ref r_lengths, .ref r_glyphCount, .ref r_ems, .ref r_wides, .ref r_forms, .ref r_parts, .ref r_charts, .ref r_pointCount, .ref r_contourCount, .ref r_depths, .ref r_xs, .ref r_ys, .ref r_ons, .ref r_contours, .int (bI o_bad), .int (nI (n_at)), .int (nI (n_end)), .ref r_flags, .ref r_part, .int (nI (n_typed)), .ref r_text, .int (nI (n_ring)), .ref r_ringX, .ref r_ringY, .ref r_ringOn, .int (nI (n_wait)), .ref r_curves, .ref r_windings, .ref r_rows])), (r_bytes, .inl (c_bytes, 2400, .inl (v_bytes))), (r_places, .inl (c_places, 16, .inl (v_places)))]) (va_A [(m0, .inr (10, [.int i_fault, .int (nI (n_size)), .ref r_file, .int (nI (n_side)), .int (bI o_font), .ref r_bytes, .ref r_places, .ref r_lengths, .ref r_glyphCount, .ref r_ems, .ref r_wides, .ref r_forms, .ref r_parts, .ref r_charts, .ref r_pointCount, .ref r_contourCount, .ref r_depths, .ref r_xs, .ref r_ys, .ref r_ons, .ref r_contours, .int (bI o_bad), .int (nI (n_at)), .int (nI (n_end)), .ref r_flags, .ref r_part, .int (nI (n_typed)), .ref r_text, .int (nI (n_ring)), .ref r_ringX, .ref r_ringY, .ref r_ringOn, .int (nI (n_wait)), .ref r_curves, .ref r_windings, .ref r_rows])), (r_bytes, .inl (c_bytes, 2400, .inl (v_bytes))), (r_places, .inl (c_places, 16, .inl (v_places)))] sz)) 0 0 (va_A [(m0, .inr (10, [.int i_fault, .int (nI (n_size)), .ref r_file, .int (nI (n_side)), .int (bI o_font), .ref r_bytes, .ref r_places, .ref r_lengths, .ref r_glyphCount, .ref r_ems, .ref r_wides, .ref r_forms, .ref r_parts, .ref r_charts, .ref r_pointCount, .ref r_contourCount, .ref r_depths, .ref r_xs, .ref r_ys, .ref r_ons, .ref r_contours, .int (bI o_bad), .int (nI (n_at)), .int (nI (n_end)), .ref r_flags, .ref r_part, .int (nI (n_typed)), .ref r_text, .int (nI (n_ring)), .ref r_ringX, .ref r_ringY, .ref r_ringOn, .int (nI (n_wait)), .ref r_curves, .ref r_windings, .ref r_rows])), (r_bytes, .inl (c_bytes, 2400, .inl (v_bytes))), (r_places, .inl (c_places, 16, .inl (v_places)))] sz) := by
  refine Met.ofW (cc := b_MD_s16) (maxL := 4) (ret := (some .int)) (by decide) rfl ?_
  intro p e s m args below meth c s₁ B hml hv
  obtain ⟨rfl, hsz, hP, hK, hD0⟩ := hv
  have hx := B.exec
  have hb := B.bytes
  have hr := B.returns
  have hts := atoms_spec (ws := s_MD_s16) B.pre
  have hown : s.vm.findClass R_MD = some m.cls := findClass_of_methodNamed B.named
  have hlocks := B.notSynchronized
  subst hsz
  have hD := hD0.self (sz := s.heap.size)
  generalize hAe : va_A [(m0, .inr (10, [.int i_fault, .int (nI (n_size)), .ref r_file, .int (nI (n_side)), .int (bI o_font), .ref r_bytes, .ref r_places, .ref r_lengths, .ref r_glyphCount, .ref r_ems, .ref r_wides, .ref r_forms, .ref r_parts, .ref r_charts, .ref r_pointCount, .ref r_contourCount, .ref r_depths, .ref r_xs, .ref r_ys, .ref r_ons, .ref r_contours, .int (bI o_bad), .int (nI (n_at)), .int (nI (n_end)), .ref r_flags, .ref r_part, .int (nI (n_typed)), .ref r_text, .int (nI (n_ring)), .ref r_ringX, .ref r_ringY, .ref r_ringOn, .int (nI (n_wait)), .ref r_curves, .ref r_windings, .ref r_rows])), (r_bytes, .inl (c_bytes, 2400, .inl (v_bytes))), (r_places, .inl (c_places, 16, .inl (v_places)))] s.heap.size = A at hD ⊢
  have hA : ∀ q : Nat, s.heap.size ≤ q → A q := fun q h => by rw [← hAe]; exact Or.inr h
  have hS : va_S A s.heap s.heap [] := va_S.rf
  have hP : va_P (dC, dI) cls_ [(m0, .inr (10, [.int i_fault, .int (nI (n_size)), .ref r_file, .int (nI (n_side)), .int (bI o_font), .ref r_bytes, .ref r_places, .ref r_lengths, .ref r_glyphCount, .ref r_ems, .ref r_wides, .ref r_forms, .ref r_parts, .ref r_charts, .ref r_pointCount, .ref r_contourCount, .ref r_depths, .ref r_xs, .ref r_ys, .ref r_ons, .ref r_contours, .int (bI o_bad), .int (nI (n_at)), .int (nI (n_end)), .ref r_flags, .ref r_part, .int (nI (n_typed)), .ref r_text, .int (nI (n_ring)), .ref r_ringX, .ref r_ringY, .ref r_ringOn, .int (nI (n_wait)), .ref r_curves, .ref r_windings, .ref r_rows])), (r_bytes, .inl (c_bytes, 2400, .inl (v_bytes))), (r_places, .inl (c_places, 16, .inl (v_places)))] s.heap := hP
  have hl := lv_entry ([.ref m0, .int (nI (sd9)), .int (nI (tt9)), .int (nI (pl9))]) (n := 4) (Nat.le_of_ble_eq_true rfl)
  rw [lg_entry_eq]
  generalize (lg_sl ([.ref m0, .int (nI (sd9)), .int (nI (tt9)), .int (nI (pl9))]) ++ List.replicate (4 - (lg_sl ([.ref m0, .int (nI (sd9)), .int (nI (tt9)), .int (nI (pl9))])).length) Slot.unset).toArray = ls at hl ⊢
  have hl : lv_has ls 4 [(0, .ref m0), (1, .int (nI (sd9))), (2, .int (nI (tt9))), (3, .int (nI (pl9)))] := hl
  refine lv_aload_n hx hb d_MD_s16_0 rfl (lv_at hl 0 rfl) ?_
  refine lv_iload_n hx hb d_MD_s16_1 rfl (lv_at hl 1 rfl) ?_
  refine lv_iload_n hx hb d_MD_s16_2 rfl (lv_at hl 2 rfl) ?_
  refine lv_iload_n hx hb d_MD_s16_3 rfl (lv_at hl 3 rfl) ?_
  have hPc := hP.sub (ws' := [(m0, .inr (10, [.int i_fault, .int (nI (n_size)), .ref r_file, .int (nI (n_side)), .int (bI o_font), .ref r_bytes, .ref r_places, .ref r_lengths, .ref r_glyphCount, .ref r_ems, .ref r_wides, .ref r_forms, .ref r_parts, .ref r_charts, .ref r_pointCount, .ref r_contourCount, .ref r_depths, .ref r_xs, .ref r_ys, .ref r_ons, .ref r_contours, .int (bI o_bad), .int (nI (n_at)), .int (nI (n_end)), .ref r_flags, .ref r_part, .int (nI (n_typed)), .ref r_text, .int (nI (n_ring)), .ref r_ringX, .ref r_ringY, .ref r_ringOn, .int (nI (n_wait)), .ref r_curves, .ref r_windings, .ref r_rows])), (r_bytes, .inl (c_bytes, 2400, .inl (v_bytes))), (r_places, .inl (c_places, 16, .inl (v_places)))]) [0, 1, 2] rfl
  have hDc := hD.sub (ws' := [(m0, .inr (10, [.int i_fault, .int (nI (n_size)), .ref r_file, .int (nI (n_side)), .int (bI o_font), .ref r_bytes, .ref r_places, .ref r_lengths, .ref r_glyphCount, .ref r_ems, .ref r_wides, .ref r_forms, .ref r_parts, .ref r_charts, .ref r_pointCount, .ref r_contourCount, .ref r_depths, .ref r_xs, .ref r_ys, .ref r_ons, .ref r_contours, .int (bI o_bad), .int (nI (n_at)), .int (nI (n_end)), .ref r_flags, .ref r_part, .int (nI (n_typed)), .ref r_text, .int (nI (n_ring)), .ref r_ringX, .ref r_ringY, .ref r_ringOn, .int (nI (n_wait)), .ref r_curves, .ref r_windings, .ref r_rows])), (r_bytes, .inl (c_bytes, 2400, .inl (v_bytes))), (r_places, .inl (c_places, 16, .inl (v_places)))]) [0, 1, 2] (by decide) rfl
  have hKc := hK.sub (tys' := [(c_bytes, .int), (c_places, .int)]) [0, 1] rfl
  have hFc := va_free (wc := [(m0, .inr (10, [.int i_fault, .int (nI (n_size)), .ref r_file, .int (nI (n_side)), .int (bI o_font), .ref r_bytes, .ref r_places, .ref r_lengths, .ref r_glyphCount, .ref r_ems, .ref r_wides, .ref r_forms, .ref r_parts, .ref r_charts, .ref r_pointCount, .ref r_contourCount, .ref r_depths, .ref r_xs, .ref r_ys, .ref r_ons, .ref r_contours, .int (bI o_bad), .int (nI (n_at)), .int (nI (n_end)), .ref r_flags, .ref r_part, .int (nI (n_typed)), .ref r_text, .int (nI (n_ring)), .ref r_ringX, .ref r_ringY, .ref r_ringOn, .int (nI (n_wait)), .ref r_curves, .ref r_windings, .ref r_rows])), (r_bytes, .inl (c_bytes, 2400, .inl (v_bytes))), (r_places, .inl (c_places, 16, .inl (v_places)))]) hD hS hA [0, 1, 2] rfl
  refine va_calli (va_runV (As := [.int (nI (sd9)), .int (nI (tt9)), .int (nI (pl9))]) (rest := []) ⟨hx, hb, hml, hown, hts⟩ (g_MD_u16 l dC dI m0 i_fault n_size r_file n_side o_font r_bytes r_places r_lengths r_glyphCount r_ems r_wides r_forms r_parts r_charts r_pointCount r_contourCount r_depths r_xs r_ys r_ons r_contours o_bad n_at n_end r_flags r_part n_typed r_text n_ring r_ringX r_ringY r_ringOn n_wait r_curves r_windings r_rows c_bytes v_bytes c_places v_places sd9 tt9 pl9 pp9 s.heap.size (by omega) (by omega) (by omega) (by assumption) (by assumption) (by omega) (by omega) (by omega)) (cwV 3 hts (tw_inV w_1022 w_1024 wp_41 w_11 w_1025) rfl rfl rfl (by decide +kernel) ⟨Nat.le_of_ble_eq_true rfl, Nat.le_of_ble_eq_true rfl⟩) ⟨fun a U g mk q => by obtain ⟨q0, q1, qP, qK, qD⟩ := q; exact ⟨q0, q1, qP, va_K.moved (u := U) (U := U.calling g mk a) (Vm.Alike.refl U.vm) qK, qD⟩, va_recv (hK := hK) (hP := hP) (q0 := 0) (ci := 10) rfl rfl, fun U hU hW => ⟨rfl, by rw [hU], by rw [hU]; exact hPc, va_K.moved hW.alike hKc, hDc.weaken (fun _ _ _ _ => trivial)⟩⟩ rfl rfl hl.1 rfl (lv_room (Nat.le_of_ble_eq_true rfl)) d_MD_s16_4 ⟨Nat.le_of_ble_eq_true rfl, Nat.le_of_ble_eq_true rfl⟩) hS (fun q _ h => hFc q h) hFc (fun r7519 u t H1 locs ht hvm hw hB hz1 hk1 hS => ?_)
  obtain ⟨hP1, hK1, hD1⟩ := hB
  rw [ht] at hP1
  have hK1 := va_K.moved hvm.symm hK1
  obtain ⟨hP, hD⟩ := va_join (wr := []) (w1 := [(m0, .inr (10, [.int i_fault, .int (nI (n_size)), .ref r_file, .int (nI (n_side)), .int (bI o_font), .ref r_bytes, .ref r_places, .ref r_lengths, .ref r_glyphCount, .ref r_ems, .ref r_wides, .ref r_forms, .ref r_parts, .ref r_charts, .ref r_pointCount, .ref r_contourCount, .ref r_depths, .ref r_xs, .ref r_ys, .ref r_ons, .ref r_contours, .int (bI o_bad), .int (nI (n_at)), .int (nI (n_end)), .ref r_flags, .ref r_part, .int (nI (n_typed)), .ref r_text, .int (nI (n_ring)), .ref r_ringX, .ref r_ringY, .ref r_ringOn, .int (nI (n_wait)), .ref r_curves, .ref r_windings, .ref r_rows])), (r_bytes, .inl (c_bytes, 2400, .inl (v_bytes))), (r_places, .inl (c_places, 16, .inl (v_places)))]) hP hD [0, 1, 2] [] rfl rfl (by decide) (by decide) hk1 hFc hP1 hD1
  have hK := (hK.sub (tys' := []) [] rfl).app hK1
  generalize H1 = H at hP hS ⊢
  have hP : va_P (dC, dI) cls_ [(m0, .inr (10, [.int i_fault, .int (nI (n_size)), .ref r_file, .int (nI (n_side)), .int (bI o_font), .ref r_bytes, .ref r_places, .ref r_lengths, .ref r_glyphCount, .ref r_ems, .ref r_wides, .ref r_forms, .ref r_parts, .ref r_charts, .ref r_pointCount, .ref r_contourCount, .ref r_depths, .ref r_xs, .ref r_ys, .ref r_ons, .ref r_contours, .int (bI o_bad), .int (nI (n_at)), .int (nI (n_end)), .ref r_flags, .ref r_part, .int (nI (n_typed)), .ref r_text, .int (nI (n_ring)), .ref r_ringX, .ref r_ringY, .ref r_ringOn, .int (nI (n_wait)), .ref r_curves, .ref r_windings, .ref r_rows])), (r_bytes, .inl (c_bytes, 2400, .inl (v_bytes))), (r_places, .inl (c_places, 16, .inl (v_places)))] H := hP
  have hD : va_D A [(m0, .inr (10, [.int i_fault, .int (nI (n_size)), .ref r_file, .int (nI (n_side)), .int (bI o_font), .ref r_bytes, .ref r_places, .ref r_lengths, .ref r_glyphCount, .ref r_ems, .ref r_wides, .ref r_forms, .ref r_parts, .ref r_charts, .ref r_pointCount, .ref r_contourCount, .ref r_depths, .ref r_xs, .ref r_ys, .ref r_ons, .ref r_contours, .int (bI o_bad), .int (nI (n_at)), .int (nI (n_end)), .ref r_flags, .ref r_part, .int (nI (n_typed)), .ref r_text, .int (nI (n_ring)), .ref r_ringX, .ref r_ringY, .ref r_ringOn, .int (nI (n_wait)), .ref r_curves, .ref r_windings, .ref r_rows])), (r_bytes, .inl (c_bytes, 2400, .inl (v_bytes))), (r_places, .inl (c_places, 16, .inl (v_places)))] := hD
  have hK : va_K (dC, dI) cls_ [(c_bytes, .int), (c_places, .int)] s := hK
  have hw_r7519 := hw
  obtain ⟨kn7520, hkn7520, bkn7520, rfl⟩ := hw_r7519
  refine lv_i2s (v := (nI (kn7520)).toInt16.toInt32) hx hb d_MD_s16_7 rfl ?_
  refine lv_topi (fun v7521 ev7521 => ?_)
  refine W.widen (k := 0) (n := 0) (Nat.le_of_ble_eq_true rfl) (Nat.le_of_ble_eq_true rfl) ?_
  have hP9 := hP.sub (ws' := [(m0, .inr (10, [.int i_fault, .int (nI (n_size)), .ref r_file, .int (nI (n_side)), .int (bI o_font), .ref r_bytes, .ref r_places, .ref r_lengths, .ref r_glyphCount, .ref r_ems, .ref r_wides, .ref r_forms, .ref r_parts, .ref r_charts, .ref r_pointCount, .ref r_contourCount, .ref r_depths, .ref r_xs, .ref r_ys, .ref r_ons, .ref r_contours, .int (bI o_bad), .int (nI (n_at)), .int (nI (n_end)), .ref r_flags, .ref r_part, .int (nI (n_typed)), .ref r_text, .int (nI (n_ring)), .ref r_ringX, .ref r_ringY, .ref r_ringOn, .int (nI (n_wait)), .ref r_curves, .ref r_windings, .ref r_rows])), (r_bytes, .inl (c_bytes, 2400, .inl (v_bytes))), (r_places, .inl (c_places, 16, .inl (v_places)))]) [0, 1, 2] rfl
  have hD9 := hD.sub (ws' := [(m0, .inr (10, [.int i_fault, .int (nI (n_size)), .ref r_file, .int (nI (n_side)), .int (bI o_font), .ref r_bytes, .ref r_places, .ref r_lengths, .ref r_glyphCount, .ref r_ems, .ref r_wides, .ref r_forms, .ref r_parts, .ref r_charts, .ref r_pointCount, .ref r_contourCount, .ref r_depths, .ref r_xs, .ref r_ys, .ref r_ons, .ref r_contours, .int (bI o_bad), .int (nI (n_at)), .int (nI (n_end)), .ref r_flags, .ref r_part, .int (nI (n_typed)), .ref r_text, .int (nI (n_ring)), .ref r_ringX, .ref r_ringY, .ref r_ringOn, .int (nI (n_wait)), .ref r_curves, .ref r_windings, .ref r_rows])), (r_bytes, .inl (c_bytes, 2400, .inl (v_bytes))), (r_places, .inl (c_places, 16, .inl (v_places)))]) [0, 1, 2] (by decide) rfl
  have hK9 := hK.sub (tys' := [(c_bytes, .int), (c_places, .int)]) [0, 1] rfl
  exact W.iret (v := v7521) hx hb hr (fun t ht hW => ⟨⟨v7521, (), rfl, trivial, by rw [ht]; exact hP9, va_K.moved hW.alike hK9, hD9⟩, hS.F ht⟩) hS.2.2 d_MD_s16_8
set_option maxHeartbeats 4000000 in
set_option maxRecDepth 100000 in
/-- GlyphLinesModel.tableOf -/
theorem g_MD_tableOf (l : Launch) (dC : Nat → ClassId) (dI : Nat → Nat → Nat) (nm9 : Nat) (sz : Nat) : Met l y_MD_tableOf s_MD_tableOf ({ frames := 8, cells := 0, slots := 0, locals := 200 }) (va_Pc [.long (lN (nm9))] (fun U => U.heap.size = sz ∧ va_P (dC, dI) cls_ [] U.heap ∧ va_K (dC, dI) cls_ [] U ∧ va_D (fun _ => True) [])) (va_Qi (fun (r : Int32) (_ : Unit) => r = -1 ∨ ∃ t : Nat, t < 8 ∧ r = nI t) (fun (_ : Unit) (t : State) => True) (va_A [] sz)) 0 0 (va_A [] sz) := by
  refine Met.ofW (cc := b_MD_tableOf) (maxL := 2) (ret := (some .int)) (by decide) rfl ?_
  intro p e s m args below meth c s₁ B hml hv
  obtain ⟨rfl, hsz, hP, hK, hD0⟩ := hv
  have hx := B.exec
  have hb := B.bytes
  have hr := B.returns
  have hts := atoms_spec (ws := s_MD_tableOf) B.pre
  have hown : s.vm.findClass R_MD = some m.cls := findClass_of_methodNamed B.named
  have hlocks := B.notSynchronized
  subst hsz
  have hD := hD0.self (sz := s.heap.size)
  generalize hAe : va_A [] s.heap.size = A at hD ⊢
  have hA : ∀ q : Nat, s.heap.size ≤ q → A q := fun q h => by rw [← hAe]; exact Or.inr h
  have hS : va_S A s.heap s.heap [] := va_S.rf
  have hP : va_P (dC, dI) cls_ [] s.heap := hP
  have hl := lv_entry ([.long (lN (nm9))]) (n := 2) (Nat.le_of_ble_eq_true rfl)
  rw [lg_entry_eq]
  generalize (lg_sl ([.long (lN (nm9))]) ++ List.replicate (2 - (lg_sl ([.long (lN (nm9))])).length) Slot.unset).toArray = ls at hl ⊢
  have hl : lv_has ls 2 [(0, .long (lN (nm9)))] := hl
  refine lv_lload_n hx hb d_MD_tableOf_0 rfl (lv_at hl 0 rfl) ?_
  refine lv_l2i (v := (lN (nm9)).toInt32) hx hb d_MD_tableOf_1 rfl ?_
  refine lv_ci (y := nI (nm9)) (lN_i (nm9)) ?_
  by_cases hlk7522 : (1668112752 : Int) = (nI (nm9)).toInt
  · skip
    refine lv_lookup (off := 74) (tgt := 76) hx hb d_MD_tableOf_2 (by decide +kernel) (by show Op.lookupswitch.offset [(1668112752, 74), (1735162214, 76), (1751474532, 78), (1751672161, 80), (1752003704, 82), (1801810542, 84), (1819239265, 86), (1835104368, 89)] (92) (nI (nm9)).toInt = _; rw [Op.lookupswitch.offset_cons, if_pos hlk7522]) (by decide) ?_
    refine lv_iconst (v := 0) hx hb d_MD_tableOf_76 (by decide) ?_
    refine W.widen (k := 0) (n := 0) (Nat.le_of_ble_eq_true rfl) (Nat.le_of_ble_eq_true rfl) ?_
    exact W.iret (v := 0) hx hb hr (fun t ht hW => ⟨⟨0, (), rfl, Or.inr ⟨0, by decide, rfl⟩, trivial⟩, hS.F ht⟩) hS.2.2 d_MD_tableOf_77
  · skip
    by_cases hlk7523 : (1735162214 : Int) = (nI (nm9)).toInt
    · skip
      refine lv_lookup (off := 76) (tgt := 78) hx hb d_MD_tableOf_2 (by decide +kernel) (by show Op.lookupswitch.offset [(1668112752, 74), (1735162214, 76), (1751474532, 78), (1751672161, 80), (1752003704, 82), (1801810542, 84), (1819239265, 86), (1835104368, 89)] (92) (nI (nm9)).toInt = _; rw [Op.lookupswitch.offset_cons, if_neg hlk7522, Op.lookupswitch.offset_cons, if_pos hlk7523]) (by decide) ?_
      refine lv_iconst (v := 1) hx hb d_MD_tableOf_78 (by decide) ?_
      refine W.widen (k := 0) (n := 0) (Nat.le_of_ble_eq_true rfl) (Nat.le_of_ble_eq_true rfl) ?_
      exact W.iret (v := 1) hx hb hr (fun t ht hW => ⟨⟨1, (), rfl, Or.inr ⟨1, by decide, rfl⟩, trivial⟩, hS.F ht⟩) hS.2.2 d_MD_tableOf_79
    · skip
      by_cases hlk7524 : (1751474532 : Int) = (nI (nm9)).toInt
      · skip
        refine lv_lookup (off := 78) (tgt := 80) hx hb d_MD_tableOf_2 (by decide +kernel) (by show Op.lookupswitch.offset [(1668112752, 74), (1735162214, 76), (1751474532, 78), (1751672161, 80), (1752003704, 82), (1801810542, 84), (1819239265, 86), (1835104368, 89)] (92) (nI (nm9)).toInt = _; rw [Op.lookupswitch.offset_cons, if_neg hlk7522, Op.lookupswitch.offset_cons, if_neg hlk7523, Op.lookupswitch.offset_cons, if_pos hlk7524]) (by decide) ?_
        refine lv_iconst (v := 2) hx hb d_MD_tableOf_80 (by decide) ?_
        refine W.widen (k := 0) (n := 0) (Nat.le_of_ble_eq_true rfl) (Nat.le_of_ble_eq_true rfl) ?_
        exact W.iret (v := 2) hx hb hr (fun t ht hW => ⟨⟨2, (), rfl, Or.inr ⟨2, by decide, rfl⟩, trivial⟩, hS.F ht⟩) hS.2.2 d_MD_tableOf_81
      · skip
        by_cases hlk7525 : (1751672161 : Int) = (nI (nm9)).toInt
        · skip
          refine lv_lookup (off := 80) (tgt := 82) hx hb d_MD_tableOf_2 (by decide +kernel) (by show Op.lookupswitch.offset [(1668112752, 74), (1735162214, 76), (1751474532, 78), (1751672161, 80), (1752003704, 82), (1801810542, 84), (1819239265, 86), (1835104368, 89)] (92) (nI (nm9)).toInt = _; rw [Op.lookupswitch.offset_cons, if_neg hlk7522, Op.lookupswitch.offset_cons, if_neg hlk7523, Op.lookupswitch.offset_cons, if_neg hlk7524, Op.lookupswitch.offset_cons, if_pos hlk7525]) (by decide) ?_
          refine lv_iconst (v := 3) hx hb d_MD_tableOf_82 (by decide) ?_
          refine W.widen (k := 0) (n := 0) (Nat.le_of_ble_eq_true rfl) (Nat.le_of_ble_eq_true rfl) ?_
          exact W.iret (v := 3) hx hb hr (fun t ht hW => ⟨⟨3, (), rfl, Or.inr ⟨3, by decide, rfl⟩, trivial⟩, hS.F ht⟩) hS.2.2 d_MD_tableOf_83
        · skip
          by_cases hlk7526 : (1752003704 : Int) = (nI (nm9)).toInt
          · skip
            refine lv_lookup (off := 82) (tgt := 84) hx hb d_MD_tableOf_2 (by decide +kernel) (by show Op.lookupswitch.offset [(1668112752, 74), (1735162214, 76), (1751474532, 78), (1751672161, 80), (1752003704, 82), (1801810542, 84), (1819239265, 86), (1835104368, 89)] (92) (nI (nm9)).toInt = _; rw [Op.lookupswitch.offset_cons, if_neg hlk7522, Op.lookupswitch.offset_cons, if_neg hlk7523, Op.lookupswitch.offset_cons, if_neg hlk7524, Op.lookupswitch.offset_cons, if_neg hlk7525, Op.lookupswitch.offset_cons, if_pos hlk7526]) (by decide) ?_
            refine lv_iconst (v := 4) hx hb d_MD_tableOf_84 (by decide) ?_
            refine W.widen (k := 0) (n := 0) (Nat.le_of_ble_eq_true rfl) (Nat.le_of_ble_eq_true rfl) ?_
            exact W.iret (v := 4) hx hb hr (fun t ht hW => ⟨⟨4, (), rfl, Or.inr ⟨4, by decide, rfl⟩, trivial⟩, hS.F ht⟩) hS.2.2 d_MD_tableOf_85
          · skip
            by_cases hlk7527 : (1801810542 : Int) = (nI (nm9)).toInt
            · skip
              refine lv_lookup (off := 84) (tgt := 86) hx hb d_MD_tableOf_2 (by decide +kernel) (by show Op.lookupswitch.offset [(1668112752, 74), (1735162214, 76), (1751474532, 78), (1751672161, 80), (1752003704, 82), (1801810542, 84), (1819239265, 86), (1835104368, 89)] (92) (nI (nm9)).toInt = _; rw [Op.lookupswitch.offset_cons, if_neg hlk7522, Op.lookupswitch.offset_cons, if_neg hlk7523, Op.lookupswitch.offset_cons, if_neg hlk7524, Op.lookupswitch.offset_cons, if_neg hlk7525, Op.lookupswitch.offset_cons, if_neg hlk7526, Op.lookupswitch.offset_cons, if_pos hlk7527]) (by decide) ?_
              refine lv_iconst (v := 5) hx hb d_MD_tableOf_86 (by decide) ?_
              refine W.widen (k := 0) (n := 0) (Nat.le_of_ble_eq_true rfl) (Nat.le_of_ble_eq_true rfl) ?_
              exact W.iret (v := 5) hx hb hr (fun t ht hW => ⟨⟨5, (), rfl, Or.inr ⟨5, by decide, rfl⟩, trivial⟩, hS.F ht⟩) hS.2.2 d_MD_tableOf_87
            · skip
              by_cases hlk7528 : (1819239265 : Int) = (nI (nm9)).toInt
              · skip
                refine lv_lookup (off := 86) (tgt := 88) hx hb d_MD_tableOf_2 (by decide +kernel) (by show Op.lookupswitch.offset [(1668112752, 74), (1735162214, 76), (1751474532, 78), (1751672161, 80), (1752003704, 82), (1801810542, 84), (1819239265, 86), (1835104368, 89)] (92) (nI (nm9)).toInt = _; rw [Op.lookupswitch.offset_cons, if_neg hlk7522, Op.lookupswitch.offset_cons, if_neg hlk7523, Op.lookupswitch.offset_cons, if_neg hlk7524, Op.lookupswitch.offset_cons, if_neg hlk7525, Op.lookupswitch.offset_cons, if_neg hlk7526, Op.lookupswitch.offset_cons, if_neg hlk7527, Op.lookupswitch.offset_cons, if_pos hlk7528]) (by decide) ?_
                refine lv_bipush (v := 6) hx hb d_MD_tableOf_88 (by decide) ?_
                refine W.widen (k := 0) (n := 0) (Nat.le_of_ble_eq_true rfl) (Nat.le_of_ble_eq_true rfl) ?_
                exact W.iret (v := 6) hx hb hr (fun t ht hW => ⟨⟨6, (), rfl, Or.inr ⟨6, by decide, rfl⟩, trivial⟩, hS.F ht⟩) hS.2.2 d_MD_tableOf_90
              · skip
                by_cases hlk7529 : (1835104368 : Int) = (nI (nm9)).toInt
                · skip
                  refine lv_lookup (off := 89) (tgt := 91) hx hb d_MD_tableOf_2 (by decide +kernel) (by show Op.lookupswitch.offset [(1668112752, 74), (1735162214, 76), (1751474532, 78), (1751672161, 80), (1752003704, 82), (1801810542, 84), (1819239265, 86), (1835104368, 89)] (92) (nI (nm9)).toInt = _; rw [Op.lookupswitch.offset_cons, if_neg hlk7522, Op.lookupswitch.offset_cons, if_neg hlk7523, Op.lookupswitch.offset_cons, if_neg hlk7524, Op.lookupswitch.offset_cons, if_neg hlk7525, Op.lookupswitch.offset_cons, if_neg hlk7526, Op.lookupswitch.offset_cons, if_neg hlk7527, Op.lookupswitch.offset_cons, if_neg hlk7528, Op.lookupswitch.offset_cons, if_pos hlk7529]) (by decide) ?_
                  refine lv_bipush (v := 7) hx hb d_MD_tableOf_91 (by decide) ?_
                  refine W.widen (k := 0) (n := 0) (Nat.le_of_ble_eq_true rfl) (Nat.le_of_ble_eq_true rfl) ?_
                  exact W.iret (v := 7) hx hb hr (fun t ht hW => ⟨⟨7, (), rfl, Or.inr ⟨7, by decide, rfl⟩, trivial⟩, hS.F ht⟩) hS.2.2 d_MD_tableOf_93
                · skip
                  refine lv_lookup (off := 92) (tgt := 94) hx hb d_MD_tableOf_2 (by decide +kernel) (by show Op.lookupswitch.offset [(1668112752, 74), (1735162214, 76), (1751474532, 78), (1751672161, 80), (1752003704, 82), (1801810542, 84), (1819239265, 86), (1835104368, 89)] (92) (nI (nm9)).toInt = _; rw [Op.lookupswitch.offset_cons, if_neg hlk7522, Op.lookupswitch.offset_cons, if_neg hlk7523, Op.lookupswitch.offset_cons, if_neg hlk7524, Op.lookupswitch.offset_cons, if_neg hlk7525, Op.lookupswitch.offset_cons, if_neg hlk7526, Op.lookupswitch.offset_cons, if_neg hlk7527, Op.lookupswitch.offset_cons, if_neg hlk7528, Op.lookupswitch.offset_cons, if_neg hlk7529]; rfl) (by decide) ?_
                  refine lv_iconst (v := (-1)) hx hb d_MD_tableOf_94 (by decide) ?_
                  refine W.widen (k := 0) (n := 0) (Nat.le_of_ble_eq_true rfl) (Nat.le_of_ble_eq_true rfl) ?_
                  exact W.iret (v := (-1)) hx hb hr (fun t ht hW => ⟨⟨(-1), (), rfl, Or.inl rfl, trivial⟩, hS.F ht⟩) hS.2.2 d_MD_tableOf_95
set_option maxHeartbeats 4000000 in
set_option maxRecDepth 100000 in
/-- GlyphLinesModel.isLong -/
theorem g_MD_isLong (l : Launch) (dC : Nat → ClassId) (dI : Nat → Nat → Nat) (m0 : Nat) (i_fault : Int32) (n_size : Nat) (r_file : Nat) (n_side : Nat) (o_font : Bool) (r_bytes : Nat) (r_places : Nat) (r_lengths : Nat) (r_glyphCount : Nat) (r_ems : Nat) (r_wides : Nat) (r_forms : Nat) (r_parts : Nat) (r_charts : Nat) (r_pointCount : Nat) (r_contourCount : Nat) (r_depths : Nat) (r_xs : Nat) (r_ys : Nat) (r_ons : Nat) (r_contours : Nat) (o_bad : Bool) (n_at : Nat) (n_end : Nat) (r_flags : Nat) (r_part : Nat) (n_typed : Nat) (r_text : Nat) (n_ring : Nat) (r_ringX : Nat) (r_ringY : Nat) (r_ringOn : Nat) (n_wait : Nat) (r_curves : Nat) (r_windings : Nat) (r_rows : Nat) (c_lengths : ClassId) (v_lengths : Nat → Int32) (sd9 : Nat) (tt9 : Nat) (le9 : Nat) (nn9 : Nat) (sz : Nat) (hq0 : n_size ≤ 1200) (hq1 : n_side ≤ 1) (hq2 : n_typed ≤ 12) (hq3 : v_lengths (8 * sd9 + tt9) = nI nn9) (hq4 : sd9 ≤ 1) (hq5 : tt9 < 8) (hq6 : nn9 ≤ 1200) (hq7 : le9 < 1099511627776) : Met l y_MD_isLong s_MD_isLong ({ frames := 8, cells := 0, slots := 0, locals := 200 }) (va_Pc [.ref m0, .int (nI (sd9)), .int (nI (tt9)), .long (lN (le9))] (fun U => U.heap.size = sz ∧ va_P (dC, dI) cls_ [(m0, .inr (10, [.int i_fault, .int (nI (n_size)), .ref r_file, .int (nI (n_side)), .int (bI o_font), .ref r_bytes, .ref r_places, .ref r_lengths, .ref r_glyphCount, .ref r_ems, .ref r_wides, .ref r_forms, .ref r_parts, .ref r_charts, .ref r_pointCount, .ref r_contourCount, .ref r_depths, .ref r_xs, .ref r_ys, .ref r_ons, .ref r_contours, .int (bI o_bad), .int (nI (n_at)), .int (nI (n_end)), .ref r_flags, .ref r_part, .int (nI (n_typed)), .ref r_text, .int (nI (n_ring)), .ref r_ringX, .ref r_ringY, .ref r_ringOn, .int (nI (n_wait)), .ref r_curves, .ref r_windings, .ref r_rows])), (r_lengths, .inl (c_lengths, 16, .inl (v_lengths)))] U.heap ∧ va_K (dC, dI) cls_ [(c_lengths, .int)] U ∧ va_D (fun _ => True) [(m0, .inr (10, [.int i_fault, .int (nI (n_size)), .ref r_file, .int (nI (n_side)), .int (bI o_font), .ref r_bytes, .ref r_places, .ref r_lengths, .ref r_glyphCount, .ref r_ems, .ref r_wides, .ref r_forms, .ref r_parts, .ref r_charts, .ref r_pointCount, .ref r_contourCount, .ref r_depths, .ref r_xs, .ref r_ys, .ref r_ons, .ref r_contours, .int (bI o_bad), .int (nI (n_at)), .int (nI (n_end)), .ref r_flags, .ref r_part, .int (nI (n_typed)), .ref r_text, .int (nI (n_ring)), .ref r_ringX, .ref r_ringY, .ref r_ringOn, .int (nI (n_wait)), .ref r_curves, .ref r_windings, .ref r_rows])), (r_lengths, .inl (c_lengths, 16, .inl (v_lengths)))])) (va_Qi (fun (r : Int32) (b9 : Bool) => r = bI b9) (fun (b9 : Bool) (t : State) => (b9 = true → le9 ≤ nn9) ∧ va_P (dC, dI) cls_ [(m0, .inr (10, [.int i_fault, .int (nI (n_size)), .ref r_file, .int (nI (n_side)), .int (bI o_font), .ref r_bytes, .ref r_places, .ref r_lengths, .ref r_glyphCount, .ref r_ems, .ref r_wides, .ref r_forms, .ref r_parts, .ref r_charts, .ref r_pointCount, .ref r_contourCount, .ref r_depths, .ref r_xs, .ref r_ys, .ref r_ons, .ref r_contours, .int (bI o_bad), .int (nI (n_at)), .int (nI (n_end)), .ref r_flags, .ref r_part, .int (nI (n_typed)), .ref r_text, .int (nI (n_ring)), .ref r_ringX, .ref r_ringY, .ref r_ringOn, .int (nI (n_wait)), .ref r_curves, .ref r_windings, .ref r_rows])), (r_lengths, .inl (c_lengths, 16, .inl (v_lengths)))] t.heap ∧ va_K (dC, dI) cls_ [(c_lengths, .int)] t ∧ va_D (va_A [(m0, .inr (10, [.int i_fault, .int (nI (n_size)), .ref r_file, .int (nI (n_side)), .int (bI o_font), .ref r_bytes, .ref r_places, .ref r_lengths, .ref r_glyphCount, .ref r_ems, .ref r_wides, .ref r_forms, .ref r_parts, .ref r_charts, .ref r_pointCount, .ref r_contourCount, .ref r_depths, .ref r_xs, .ref r_ys, .ref r_ons, .ref r_contours, .int (bI o_bad), .int (nI (n_at)), .int (nI (n_end)), .ref r_flags, .ref r_part, .int (nI (n_typed)), .ref r_text, .int (nI (n_ring)), .ref r_ringX, .ref r_ringY, .ref r_ringOn, .int (nI (n_wait)), .ref r_curves, .ref r_windings, .ref r_rows])), (r_lengths, .inl (c_lengths, 16, .inl (v_lengths)))] sz) [(m0, .inr (10, [.int i_fault, .int (nI (n_size)), .ref r_file, .int (nI (n_side)), .int (bI o_font), .ref r_bytes, .ref r_places, .ref r_lengths, .ref r_glyphCount, .ref r_ems, .ref r_wides, .ref r_forms, .ref r_parts, .ref r_charts, .ref r_pointCount, .ref r_contourCount, .ref r_depths, .ref r_xs, .ref r_ys, .ref r_ons, .ref r_contours, .int (bI o_bad), .int (nI (n_at)), .int (nI (n_end)), .ref r_flags, .ref r_part, .int (nI (n_typed)), .ref r_text, .int (nI (n_ring)), .ref r_ringX, .ref r_ringY, .ref r_ringOn, .int (nI (n_wait)), .ref r_curves, .ref r_windings, .ref r_rows])), (r_lengths, .inl (c_lengths, 16, .inl (v_lengths)))]) (va_A [(m0, .inr (10, [.int i_fault, .int (nI (n_size)), .ref r_file, .int (nI (n_side)), .int (bI o_font), .ref r_bytes, .ref r_places, .ref r_lengths, .ref r_glyphCount, .ref r_ems, .ref r_wides, .ref r_forms, .ref r_parts, .ref r_charts, .ref r_pointCount, .ref r_contourCount, .ref r_depths, .ref r_xs, .ref r_ys, .ref r_ons, .ref r_contours, .int (bI o_bad), .int (nI (n_at)), .int (nI (n_end)), .ref r_flags, .ref r_part, .int (nI (n_typed)), .ref r_text, .int (nI (n_ring)), .ref r_ringX, .ref r_ringY, .ref r_ringOn, .int (nI (n_wait)), .ref r_curves, .ref r_windings, .ref r_rows])), (r_lengths, .inl (c_lengths, 16, .inl (v_lengths)))] sz)) 0 0 (va_A [(m0, .inr (10, [.int i_fault, .int (nI (n_size)), .ref r_file, .int (nI (n_side)), .int (bI o_font), .ref r_bytes, .ref r_places, .ref r_lengths, .ref r_glyphCount, .ref r_ems, .ref r_wides, .ref r_forms, .ref r_parts, .ref r_charts, .ref r_pointCount, .ref r_contourCount, .ref r_depths, .ref r_xs, .ref r_ys, .ref r_ons, .ref r_contours, .int (bI o_bad), .int (nI (n_at)), .int (nI (n_end)), .ref r_flags, .ref r_part, .int (nI (n_typed)), .ref r_text, .int (nI (n_ring)), .ref r_ringX, .ref r_ringY, .ref r_ringOn, .int (nI (n_wait)), .ref r_curves, .ref r_windings, .ref r_rows])), (r_lengths, .inl (c_lengths, 16, .inl (v_lengths)))] sz) := by
  refine Met.ofW (cc := b_MD_isLong) (maxL := 5) (ret := (some .boolean)) (by decide) rfl ?_
  intro p e s m args below meth c s₁ B hml hv
  obtain ⟨rfl, hsz, hP, hK, hD0⟩ := hv
  have hx := B.exec
  have hb := B.bytes
  have hr := B.returns
  have hts := atoms_spec (ws := s_MD_isLong) B.pre
  have hown : s.vm.findClass R_MD = some m.cls := findClass_of_methodNamed B.named
  have hlocks := B.notSynchronized
  subst hsz
  have hD := hD0.self (sz := s.heap.size)
  generalize hAe : va_A [(m0, .inr (10, [.int i_fault, .int (nI (n_size)), .ref r_file, .int (nI (n_side)), .int (bI o_font), .ref r_bytes, .ref r_places, .ref r_lengths, .ref r_glyphCount, .ref r_ems, .ref r_wides, .ref r_forms, .ref r_parts, .ref r_charts, .ref r_pointCount, .ref r_contourCount, .ref r_depths, .ref r_xs, .ref r_ys, .ref r_ons, .ref r_contours, .int (bI o_bad), .int (nI (n_at)), .int (nI (n_end)), .ref r_flags, .ref r_part, .int (nI (n_typed)), .ref r_text, .int (nI (n_ring)), .ref r_ringX, .ref r_ringY, .ref r_ringOn, .int (nI (n_wait)), .ref r_curves, .ref r_windings, .ref r_rows])), (r_lengths, .inl (c_lengths, 16, .inl (v_lengths)))] s.heap.size = A at hD ⊢
  have hA : ∀ q : Nat, s.heap.size ≤ q → A q := fun q h => by rw [← hAe]; exact Or.inr h
  have hS : va_S A s.heap s.heap [] := va_S.rf
  have hP : va_P (dC, dI) cls_ [(m0, .inr (10, [.int i_fault, .int (nI (n_size)), .ref r_file, .int (nI (n_side)), .int (bI o_font), .ref r_bytes, .ref r_places, .ref r_lengths, .ref r_glyphCount, .ref r_ems, .ref r_wides, .ref r_forms, .ref r_parts, .ref r_charts, .ref r_pointCount, .ref r_contourCount, .ref r_depths, .ref r_xs, .ref r_ys, .ref r_ons, .ref r_contours, .int (bI o_bad), .int (nI (n_at)), .int (nI (n_end)), .ref r_flags, .ref r_part, .int (nI (n_typed)), .ref r_text, .int (nI (n_ring)), .ref r_ringX, .ref r_ringY, .ref r_ringOn, .int (nI (n_wait)), .ref r_curves, .ref r_windings, .ref r_rows])), (r_lengths, .inl (c_lengths, 16, .inl (v_lengths)))] s.heap := hP
  have hl := lv_entry ([.ref m0, .int (nI (sd9)), .int (nI (tt9)), .long (lN (le9))]) (n := 5) (Nat.le_of_ble_eq_true rfl)
  rw [lg_entry_eq]
  generalize (lg_sl ([.ref m0, .int (nI (sd9)), .int (nI (tt9)), .long (lN (le9))]) ++ List.replicate (5 - (lg_sl ([.ref m0, .int (nI (sd9)), .int (nI (tt9)), .long (lN (le9))])).length) Slot.unset).toArray = ls at hl ⊢
  have hl : lv_has ls 5 [(0, .ref m0), (1, .int (nI (sd9))), (2, .int (nI (tt9))), (3, .long (lN (le9)))] := hl
  refine lv_aload_n hx hb d_MD_isLong_0 rfl (lv_at hl 0 rfl) ?_
  refine va_get (D := (dC, dI)) (ci := 10) (v := .ref r_lengths) (C := R_MD) (T := F_MD) (N := 36) hx hb hts in_MD hown hK hP 0 rfl rfl 7 (by decide) (hts _ (List.mem_cons_of_mem _ w_859)) (fun _ h9 => h9) rfl d_MD_isLong_1 ?_
  refine lv_bipush (v := 8) hx hb d_MD_isLong_4 (by decide) ?_
  refine lv_iload_n hx hb d_MD_isLong_6 rfl (lv_at hl 1 rfl) ?_
  refine lv_imul hx hb d_MD_isLong_7 ?_
  refine lv_ci (y := nI (8 * sd9)) (pk_mul (8) (sd9)) ?_
  refine lv_iload_n hx hb d_MD_isLong_8 rfl (lv_at hl 2 rfl) ?_
  refine lv_iadd hx hb d_MD_isLong_9 ?_
  refine lv_ci (y := nI (8 * sd9 + tt9)) (nI_add (8 * sd9) (tt9)) ?_
  refine va_iald hx hb hK hP 1 0 rfl rfl (pk_in (8 * sd9 + tt9) 16 (by omega) rfl (by decide)) d_MD_isLong_10 ?_
  refine lv_ci (y := nI (nn9)) (by rw [nI_clamp (show 8 * sd9 + tt9 < 2 ^ 31 by omega)]; assumption) ?_
  refine lv_i2l (v := (nI (nn9)).toInt64) hx hb d_MD_isLong_11 rfl ?_
  refine lv_cl (y := lN (nn9)) (nI_l (by omega)) ?_
  refine lv_lload_n hx hb d_MD_isLong_12 rfl (lv_at hl 3 rfl) ?_
  refine W.lcmp hx hb d_MD_isLong_13 ?_
  refine lv_topi (fun v7530 ev7530 => ?_)
  refine lv_if_lt (tgt := 21) hx hb d_MD_isLong_14 (by decide) (fun hc7531 => ?_) (fun hc7531 => ?_)
  · skip
    have hc7531n : nn9 < le9 := (lc_lt (a := nn9) (b := le9) ev7530 (by omega) (by omega)).mp hc7531
    refine lv_iconst (v := 0) hx hb d_MD_isLong_21 (by decide) ?_
    refine W.widen (k := 0) (n := 0) (Nat.le_of_ble_eq_true rfl) (Nat.le_of_ble_eq_true rfl) ?_
    have hP9 := hP.sub (ws' := [(m0, .inr (10, [.int i_fault, .int (nI (n_size)), .ref r_file, .int (nI (n_side)), .int (bI o_font), .ref r_bytes, .ref r_places, .ref r_lengths, .ref r_glyphCount, .ref r_ems, .ref r_wides, .ref r_forms, .ref r_parts, .ref r_charts, .ref r_pointCount, .ref r_contourCount, .ref r_depths, .ref r_xs, .ref r_ys, .ref r_ons, .ref r_contours, .int (bI o_bad), .int (nI (n_at)), .int (nI (n_end)), .ref r_flags, .ref r_part, .int (nI (n_typed)), .ref r_text, .int (nI (n_ring)), .ref r_ringX, .ref r_ringY, .ref r_ringOn, .int (nI (n_wait)), .ref r_curves, .ref r_windings, .ref r_rows])), (r_lengths, .inl (c_lengths, 16, .inl (v_lengths)))]) [0, 1] rfl
    have hD9 := hD.sub (ws' := [(m0, .inr (10, [.int i_fault, .int (nI (n_size)), .ref r_file, .int (nI (n_side)), .int (bI o_font), .ref r_bytes, .ref r_places, .ref r_lengths, .ref r_glyphCount, .ref r_ems, .ref r_wides, .ref r_forms, .ref r_parts, .ref r_charts, .ref r_pointCount, .ref r_contourCount, .ref r_depths, .ref r_xs, .ref r_ys, .ref r_ons, .ref r_contours, .int (bI o_bad), .int (nI (n_at)), .int (nI (n_end)), .ref r_flags, .ref r_part, .int (nI (n_typed)), .ref r_text, .int (nI (n_ring)), .ref r_ringX, .ref r_ringY, .ref r_ringOn, .int (nI (n_wait)), .ref r_curves, .ref r_windings, .ref r_rows])), (r_lengths, .inl (c_lengths, 16, .inl (v_lengths)))]) [0, 1] (by decide) rfl
    have hK9 := hK.sub (tys' := [(c_lengths, .int)]) [0] rfl
    exact W.zret (v := 0) (ty := .boolean) hx hb hr (by decide +kernel) (fun t ht hW => ⟨⟨0, false, rfl, rfl, (fun h9 => by cases h9), by rw [ht]; exact hP9, va_K.moved hW.alike hK9, hD9⟩, hS.F ht⟩) hS.2.2 d_MD_isLong_22
  · skip
    have hc7531n : ¬ (nn9 < le9) := fun z => hc7531 ((lc_lt (a := nn9) (b := le9) ev7530 (by omega) (by omega)).mpr z)
    refine lv_iconst (v := 1) hx hb d_MD_isLong_17 (by decide) ?_
    refine lv_goto (tgt := 22) hx hb d_MD_isLong_18 (by decide) ?_
    refine W.widen (k := 0) (n := 0) (Nat.le_of_ble_eq_true rfl) (Nat.le_of_ble_eq_true rfl) ?_
    have hP9 := hP.sub (ws' := [(m0, .inr (10, [.int i_fault, .int (nI (n_size)), .ref r_file, .int (nI (n_side)), .int (bI o_font), .ref r_bytes, .ref r_places, .ref r_lengths, .ref r_glyphCount, .ref r_ems, .ref r_wides, .ref r_forms, .ref r_parts, .ref r_charts, .ref r_pointCount, .ref r_contourCount, .ref r_depths, .ref r_xs, .ref r_ys, .ref r_ons, .ref r_contours, .int (bI o_bad), .int (nI (n_at)), .int (nI (n_end)), .ref r_flags, .ref r_part, .int (nI (n_typed)), .ref r_text, .int (nI (n_ring)), .ref r_ringX, .ref r_ringY, .ref r_ringOn, .int (nI (n_wait)), .ref r_curves, .ref r_windings, .ref r_rows])), (r_lengths, .inl (c_lengths, 16, .inl (v_lengths)))]) [0, 1] rfl
    have hD9 := hD.sub (ws' := [(m0, .inr (10, [.int i_fault, .int (nI (n_size)), .ref r_file, .int (nI (n_side)), .int (bI o_font), .ref r_bytes, .ref r_places, .ref r_lengths, .ref r_glyphCount, .ref r_ems, .ref r_wides, .ref r_forms, .ref r_parts, .ref r_charts, .ref r_pointCount, .ref r_contourCount, .ref r_depths, .ref r_xs, .ref r_ys, .ref r_ons, .ref r_contours, .int (bI o_bad), .int (nI (n_at)), .int (nI (n_end)), .ref r_flags, .ref r_part, .int (nI (n_typed)), .ref r_text, .int (nI (n_ring)), .ref r_ringX, .ref r_ringY, .ref r_ringOn, .int (nI (n_wait)), .ref r_curves, .ref r_windings, .ref r_rows])), (r_lengths, .inl (c_lengths, 16, .inl (v_lengths)))]) [0, 1] (by decide) rfl
    have hK9 := hK.sub (tys' := [(c_lengths, .int)]) [0] rfl
    exact W.zret (v := 1) (ty := .boolean) hx hb hr (by decide +kernel) (fun t ht hW => ⟨⟨1, true, rfl, rfl, (fun _ => by omega), by rw [ht]; exact hP9, va_K.moved hW.alike hK9, hD9⟩, hS.F ht⟩) hS.2.2 d_MD_isLong_22
set_option maxHeartbeats 4000000 in
set_option maxRecDepth 100000 in
/-- GlyphLinesModel.locaAt -/
theorem g_MD_locaAt (l : Launch) (dC : Nat → ClassId) (dI : Nat → Nat → Nat) (m0 : Nat) (i_fault : Int32) (n_size : Nat) (r_file : Nat) (n_side : Nat) (o_font : Bool) (r_bytes : Nat) (r_places : Nat) (r_lengths : Nat) (r_glyphCount : Nat) (r_ems : Nat) (r_wides : Nat) (r_forms : Nat) (r_parts : Nat) (r_charts : Nat) (r_pointCount : Nat) (r_contourCount : Nat) (r_depths : Nat) (r_xs : Nat) (r_ys : Nat) (r_ons : Nat) (r_contours : Nat) (o_bad : Bool) (n_at : Nat) (n_end : Nat) (r_flags : Nat) (r_part : Nat) (n_typed : Nat) (r_text : Nat) (n_ring : Nat) (r_ringX : Nat) (r_ringY : Nat) (r_ringOn : Nat) (n_wait : Nat) (r_curves : Nat) (r_windings : Nat) (r_rows : Nat) (c_bytes : ClassId) (v_bytes : Nat → Int32) (c_places : ClassId) (v_places : Nat → Int32) (c_forms : ClassId) (v_forms : Nat → Int32) (sd9 : Nat) (g9 : Nat) (fo9 : Nat) (q6 : Nat) (sz : Nat) (hq0 : n_size ≤ 1200) (hq1 : n_side ≤ 1) (hq2 : n_typed ≤ 12) (hq3 : isN 256 v_bytes) (hq4 : v_places (8 * sd9 + 6) = nI q6) (hq5 : v_forms (sd9) = nI fo9) (hq6 : sd9 ≤ 1) (hq7 : (fo9 = 0 ∧ q6 + 2 * g9 + 2 ≤ 1200) ∨ (fo9 = 1 ∧ q6 + 4 * g9 + 4 ≤ 1200)) : Met l y_MD_locaAt s_MD_locaAt ({ frames := 12, cells := 0, slots := 0, locals := 400 }) (va_Pc [.ref m0, .int (nI (sd9)), .int (nI (g9))] (fun U => U.heap.size = sz ∧ va_P (dC, dI) cls_ [(m0, .inr (10, [.int i_fault, .int (nI (n_size)), .ref r_file, .int (nI (n_side)), .int (bI o_font), .ref r_bytes, .ref r_places, .ref r_lengths, .ref r_glyphCount, .ref r_ems, .ref r_wides, .ref r_forms, .ref r_parts, .ref r_charts, .ref r_pointCount, .ref r_contourCount, .ref r_depths, .ref r_xs, .ref r_ys, .ref r_ons, .ref r_contours, .int (bI o_bad), .int (nI (n_at)), .int (nI (n_end)), .ref r_flags, .ref r_part, .int (nI (n_typed)), .ref r_text, .int (nI (n_ring)), .ref r_ringX, .ref r_ringY, .ref r_ringOn, .int (nI (n_wait)), .ref r_curves, .ref r_windings, .ref r_rows])), (r_bytes, .inl (c_bytes, 2400, .inl (v_bytes))), (r_places, .inl (c_places, 16, .inl (v_places))), (r_forms, .inl (c_forms, 2, .inl (v_forms)))] U.heap ∧ va_K (dC, dI) cls_ [(c_bytes, .int), (c_places, .int), (c_forms, .int)] U ∧ va_D (fun _ => True) [(m0, .inr (10, [.int i_fault, .int (nI (n_size)), .ref r_file, .int (nI (n_side)), .int (bI o_font), .ref r_bytes, .ref r_places, .ref r_lengths, .ref r_glyphCount, .ref r_ems, .ref r_wides, .ref r_forms, .ref r_parts, .ref r_charts, .ref r_pointCount, .ref r_contourCount, .ref r_depths, .ref r_xs, .ref r_ys, .ref r_ons, .ref r_contours, .int (bI o_bad), .int (nI (n_at)), .int (nI (n_end)), .ref r_flags, .ref r_part, .int (nI (n_typed)), .ref r_text, .int (nI (n_ring)), .ref r_ringX, .ref r_ringY, .ref r_ringOn, .int (nI (n_wait)), .ref r_curves, .ref r_windings, .ref r_rows])), (r_bytes, .inl (c_bytes, 2400, .inl (v_bytes))), (r_places, .inl (c_places, 16, .inl (v_places))), (r_forms, .inl (c_forms, 2, .inl (v_forms)))])) (va_Ql (fun (r : Int64) (_ : Unit) => ∃ v : Nat, v < 4294967296 ∧ v = loc v_bytes sd9 fo9 q6 g9 ∧ r = lN v) (fun (_ : Unit) (t : State) => va_P (dC, dI) cls_ [(m0, .inr (10, [.int i_fault, .int (nI (n_size)), .ref r_file, .int (nI (n_side)), .int (bI o_font), .ref r_bytes, .ref r_places, .ref r_lengths, .ref r_glyphCount, .ref r_ems, .ref r_wides, .ref r_forms, .ref r_parts, .ref r_charts, .ref r_pointCount, .ref r_contourCount, .ref r_depths, .ref r_xs, .ref r_ys, .ref r_ons, .ref r_contours, .int (bI o_bad), .int (nI (n_at)), .int (nI (n_end)), .ref r_flags, .ref r_part, .int (nI (n_typed)), .ref r_text, .int (nI (n_ring)), .ref r_ringX, .ref r_ringY, .ref r_ringOn, .int (nI (n_wait)), .ref r_curves, .ref r_windings, .ref r_rows])), (r_bytes, .inl (c_bytes, 2400, .inl (v_bytes))), (r_places, .inl (c_places, 16, .inl (v_places))), (r_forms, .inl (c_forms, 2, .inl (v_forms)))] t.heap ∧ va_K (dC, dI) cls_ [(c_bytes, .int), (c_places, .int), (c_forms, .int)] t ∧ va_D (va_A [(m0, .inr (10, [.int i_fault, .int (nI (n_size)), .ref r_file, .int (nI (n_side)), .int (bI o_font), .ref r_bytes, .ref r_places, .ref r_lengths, .ref r_glyphCount, .ref r_ems, .ref r_wides, .ref r_forms, .ref r_parts, .ref r_charts, .ref r_pointCount, .ref r_contourCount, .ref r_depths, .ref r_xs, .ref r_ys, .ref r_ons, .ref r_contours, .int (bI o_bad), .int (nI (n_at)), .int (nI (n_end)), .ref r_flags, .ref r_part, .int (nI (n_typed)), .ref r_text, .int (nI (n_ring)), .ref r_ringX, .ref r_ringY, .ref r_ringOn, .int (nI (n_wait)), .ref r_curves, .ref r_windings, .ref r_rows])), (r_bytes, .inl (c_bytes, 2400, .inl (v_bytes))), (r_places, .inl (c_places, 16, .inl (v_places))), (r_forms, .inl (c_forms, 2, .inl (v_forms)))] sz) [(m0, .inr (10, [.int i_fault, .int (nI (n_size)), .ref r_file, .int (nI (n_side)), .int (bI o_font), .ref r_bytes, .ref r_places, .ref r_lengths, .ref r_glyphCount, .ref r_ems, .ref r_wides, .ref r_forms, .ref r_parts, .ref r_charts, .ref r_pointCount, .ref r_contourCount, .ref r_depths, .ref r_xs, .ref r_ys, .ref r_ons, .ref r_contours, .int (bI o_bad), .int (nI (n_at)), .int (nI (n_end)), .ref r_flags, .ref r_part, .int (nI (n_typed)), .ref r_text, .int (nI (n_ring)), .ref r_ringX, .ref r_ringY, .ref r_ringOn, .int (nI (n_wait)), .ref r_curves, .ref r_windings, .ref r_rows])), (r_bytes, .inl (c_bytes, 2400, .inl (v_bytes))), (r_places, .inl (c_places, 16, .inl (v_places))), (r_forms, .inl (c_forms, 2, .inl (v_forms)))]) (va_A [(m0, .inr (10, [.int i_fault, .int (nI (n_size)), .ref r_file, .int (nI (n_side)), .int (bI o_font), .ref r_bytes, .ref r_places, .ref r_lengths, .ref r_glyphCount, .ref r_ems, .ref r_wides, .ref r_forms, .ref r_parts, .ref r_charts, .ref r_pointCount, .ref r_contourCount, .ref r_depths, .ref r_xs, .ref r_ys, .ref r_ons, .ref r_contours, .int (bI o_bad), .int (nI (n_at)), .int (nI (n_end)), .ref r_flags, .ref r_part, .int (nI (n_typed)), .ref r_text, .int (nI (n_ring)), .ref r_ringX, .ref r_ringY, .ref r_ringOn, .int (nI (n_wait)), .ref r_curves, .ref r_windings, .ref r_rows])), (r_bytes, .inl (c_bytes, 2400, .inl (v_bytes))), (r_places, .inl (c_places, 16, .inl (v_places))), (r_forms, .inl (c_forms, 2, .inl (v_forms)))] sz)) 0 0 (va_A [(m0, .inr (10, [.int i_fault, .int (nI (n_size)), .ref r_file, .int (nI (n_side)), .int (bI o_font), .ref r_bytes, .ref r_places, .ref r_lengths, .ref r_glyphCount, .ref r_ems, .ref r_wides, .ref r_forms, .ref r_parts, .ref r_charts, .ref r_pointCount, .ref r_contourCount, .ref r_depths, .ref r_xs, .ref r_ys, .ref r_ons, .ref r_contours, .int (bI o_bad), .int (nI (n_at)), .int (nI (n_end)), .ref r_flags, .ref r_part, .int (nI (n_typed)), .ref r_text, .int (nI (n_ring)), .ref r_ringX, .ref r_ringY, .ref r_ringOn, .int (nI (n_wait)), .ref r_curves, .ref r_windings, .ref r_rows])), (r_bytes, .inl (c_bytes, 2400, .inl (v_bytes))), (r_places, .inl (c_places, 16, .inl (v_places))), (r_forms, .inl (c_forms, 2, .inl (v_forms)))] sz) := by
  refine Met.ofW (cc := b_MD_locaAt) (maxL := 3) (ret := (some .long)) (by decide) rfl ?_
  intro p e s m args below meth c s₁ B hml hv
  obtain ⟨rfl, hsz, hP, hK, hD0⟩ := hv
  have hx := B.exec
  have hb := B.bytes
  have hr := B.returns
  have hts := atoms_spec (ws := s_MD_locaAt) B.pre
  have hown : s.vm.findClass R_MD = some m.cls := findClass_of_methodNamed B.named
  have hlocks := B.notSynchronized
  subst hsz
  have hD := hD0.self (sz := s.heap.size)
  generalize hAe : va_A [(m0, .inr (10, [.int i_fault, .int (nI (n_size)), .ref r_file, .int (nI (n_side)), .int (bI o_font), .ref r_bytes, .ref r_places, .ref r_lengths, .ref r_glyphCount, .ref r_ems, .ref r_wides, .ref r_forms, .ref r_parts, .ref r_charts, .ref r_pointCount, .ref r_contourCount, .ref r_depths, .ref r_xs, .ref r_ys, .ref r_ons, .ref r_contours, .int (bI o_bad), .int (nI (n_at)), .int (nI (n_end)), .ref r_flags, .ref r_part, .int (nI (n_typed)), .ref r_text, .int (nI (n_ring)), .ref r_ringX, .ref r_ringY, .ref r_ringOn, .int (nI (n_wait)), .ref r_curves, .ref r_windings, .ref r_rows])), (r_bytes, .inl (c_bytes, 2400, .inl (v_bytes))), (r_places, .inl (c_places, 16, .inl (v_places))), (r_forms, .inl (c_forms, 2, .inl (v_forms)))] s.heap.size = A at hD ⊢
  have hA : ∀ q : Nat, s.heap.size ≤ q → A q := fun q h => by rw [← hAe]; exact Or.inr h
  have hS : va_S A s.heap s.heap [] := va_S.rf
  have hP : va_P (dC, dI) cls_ [(m0, .inr (10, [.int i_fault, .int (nI (n_size)), .ref r_file, .int (nI (n_side)), .int (bI o_font), .ref r_bytes, .ref r_places, .ref r_lengths, .ref r_glyphCount, .ref r_ems, .ref r_wides, .ref r_forms, .ref r_parts, .ref r_charts, .ref r_pointCount, .ref r_contourCount, .ref r_depths, .ref r_xs, .ref r_ys, .ref r_ons, .ref r_contours, .int (bI o_bad), .int (nI (n_at)), .int (nI (n_end)), .ref r_flags, .ref r_part, .int (nI (n_typed)), .ref r_text, .int (nI (n_ring)), .ref r_ringX, .ref r_ringY, .ref r_ringOn, .int (nI (n_wait)), .ref r_curves, .ref r_windings, .ref r_rows])), (r_bytes, .inl (c_bytes, 2400, .inl (v_bytes))), (r_places, .inl (c_places, 16, .inl (v_places))), (r_forms, .inl (c_forms, 2, .inl (v_forms)))] s.heap := hP
  have hl := lv_entry ([.ref m0, .int (nI (sd9)), .int (nI (g9))]) (n := 3) (Nat.le_of_ble_eq_true rfl)
  rw [lg_entry_eq]
  generalize (lg_sl ([.ref m0, .int (nI (sd9)), .int (nI (g9))]) ++ List.replicate (3 - (lg_sl ([.ref m0, .int (nI (sd9)), .int (nI (g9))])).length) Slot.unset).toArray = ls at hl ⊢
  have hl : lv_has ls 3 [(0, .ref m0), (1, .int (nI (sd9))), (2, .int (nI (g9)))] := hl
  refine lv_aload_n hx hb d_MD_locaAt_0 rfl (lv_at hl 0 rfl) ?_
  refine va_get (D := (dC, dI)) (ci := 10) (v := .ref r_forms) (C := R_MD) (T := F_MD) (N := 36) hx hb hts in_MD hown hK hP 0 rfl rfl 11 (by decide) (hts _ (List.mem_cons_of_mem _ w_863)) (fun _ h9 => h9) rfl d_MD_locaAt_1 ?_
  refine lv_iload_n hx hb d_MD_locaAt_4 rfl (lv_at hl 1 rfl) ?_
  refine va_iald hx hb hK hP 3 2 rfl rfl (pk_in (sd9) 2 (by omega) rfl (by decide)) d_MD_locaAt_5 ?_
  refine lv_ci (y := nI (fo9)) (by rw [nI_clamp (show sd9 < 2 ^ 31 by omega)]; assumption) ?_
  refine lv_if_ne (tgt := 27) hx hb d_MD_locaAt_6 (by decide) (fun hc7532 => ?_) (fun hc7532 => ?_)
  · skip
    have hc7532n : ¬ fo9 = 0 := fun z => hc7532 ((nI_eq (a := fo9) (b := 0) (by omega) (by omega)).mpr z)
    refine lv_aload_n hx hb d_MD_locaAt_27 rfl (lv_at hl 0 rfl) ?_
    refine lv_iload_n hx hb d_MD_locaAt_28 rfl (lv_at hl 1 rfl) ?_
    refine lv_aload_n hx hb d_MD_locaAt_29 rfl (lv_at hl 0 rfl) ?_
    refine va_get (D := (dC, dI)) (ci := 10) (v := .ref r_places) (C := R_MD) (T := F_MD) (N := 36) hx hb hts in_MD hown hK hP 0 rfl rfl 6 (by decide) (hts _ (List.mem_cons_of_mem _ w_858)) (fun _ h9 => h9) rfl d_MD_locaAt_30 ?_
    refine lv_bipush (v := 8) hx hb d_MD_locaAt_33 (by decide) ?_
    refine lv_iload_n hx hb d_MD_locaAt_35 rfl (lv_at hl 1 rfl) ?_
    refine lv_imul hx hb d_MD_locaAt_36 ?_
    refine lv_ci (y := nI (8 * sd9)) (pk_mul (8) (sd9)) ?_
    refine lv_bipush (v := 6) hx hb d_MD_locaAt_37 (by decide) ?_
    refine lv_iadd hx hb d_MD_locaAt_39 ?_
    refine lv_ci (y := nI (8 * sd9 + 6)) (nI_add (8 * sd9) (6)) ?_
    refine va_iald hx hb hK hP 2 1 rfl rfl (pk_in (8 * sd9 + 6) 16 (by omega) rfl (by decide)) d_MD_locaAt_40 ?_
    refine lv_ci (y := nI (q6)) (by rw [nI_clamp (show 8 * sd9 + 6 < 2 ^ 31 by omega)]; assumption) ?_
    refine lv_iconst (v := 4) hx hb d_MD_locaAt_41 (by decide) ?_
    refine lv_iload_n hx hb d_MD_locaAt_42 rfl (lv_at hl 2 rfl) ?_
    refine lv_imul hx hb d_MD_locaAt_43 ?_
    refine lv_ci (y := nI (4 * g9)) (pk_mul (4) (g9)) ?_
    refine lv_iadd hx hb d_MD_locaAt_44 ?_
    refine lv_ci (y := nI (q6 + (4 * g9))) (nI_add (q6) (4 * g9)) ?_
    refine lv_iconst (v := 4) hx hb d_MD_locaAt_45 (by decide) ?_
    have hPc := hP.sub (ws' := [(m0, .inr (10, [.int i_fault, .int (nI (n_size)), .ref r_file, .int (nI (n_side)), .int (bI o_font), .ref r_bytes, .ref r_places, .ref r_lengths, .ref r_glyphCount, .ref r_ems, .ref r_wides, .ref r_forms, .ref r_parts, .ref r_charts, .ref r_pointCount, .ref r_contourCount, .ref r_depths, .ref r_xs, .ref r_ys, .ref r_ons, .ref r_contours, .int (bI o_bad), .int (nI (n_at)), .int (nI (n_end)), .ref r_flags, .ref r_part, .int (nI (n_typed)), .ref r_text, .int (nI (n_ring)), .ref r_ringX, .ref r_ringY, .ref r_ringOn, .int (nI (n_wait)), .ref r_curves, .ref r_windings, .ref r_rows])), (r_bytes, .inl (c_bytes, 2400, .inl (v_bytes)))]) [0, 1] rfl
    have hDc := hD.sub (ws' := [(m0, .inr (10, [.int i_fault, .int (nI (n_size)), .ref r_file, .int (nI (n_side)), .int (bI o_font), .ref r_bytes, .ref r_places, .ref r_lengths, .ref r_glyphCount, .ref r_ems, .ref r_wides, .ref r_forms, .ref r_parts, .ref r_charts, .ref r_pointCount, .ref r_contourCount, .ref r_depths, .ref r_xs, .ref r_ys, .ref r_ons, .ref r_contours, .int (bI o_bad), .int (nI (n_at)), .int (nI (n_end)), .ref r_flags, .ref r_part, .int (nI (n_typed)), .ref r_text, .int (nI (n_ring)), .ref r_ringX, .ref r_ringY, .ref r_ringOn, .int (nI (n_wait)), .ref r_curves, .ref r_windings, .ref r_rows])), (r_bytes, .inl (c_bytes, 2400, .inl (v_bytes)))]) [0, 1] (by decide) rfl
    have hKc := hK.sub (tys' := [(c_bytes, .int)]) [0] rfl
    have hFc := va_free (wc := [(m0, .inr (10, [.int i_fault, .int (nI (n_size)), .ref r_file, .int (nI (n_side)), .int (bI o_font), .ref r_bytes, .ref r_places, .ref r_lengths, .ref r_glyphCount, .ref r_ems, .ref r_wides, .ref r_forms, .ref r_parts, .ref r_charts, .ref r_pointCount, .ref r_contourCount, .ref r_depths, .ref r_xs, .ref r_ys, .ref r_ons, .ref r_contours, .int (bI o_bad), .int (nI (n_at)), .int (nI (n_end)), .ref r_flags, .ref r_part, .int (nI (n_typed)), .ref r_text, .int (nI (n_ring)), .ref r_ringX, .ref r_ringY, .ref r_ringOn, .int (nI (n_wait)), .ref r_curves, .ref r_windings, .ref r_rows])), (r_bytes, .inl (c_bytes, 2400, .inl (v_bytes)))]) hD hS hA [0, 1] rfl
    refine va_calll (va_runV (As := [.int (nI (sd9)), .int (nI (q6 + (4 * g9))), .int 4]) (rest := []) ⟨hx, hb, hml, hown, hts⟩ (g_MD_number4 l dC dI m0 i_fault n_size r_file n_side o_font r_bytes r_places r_lengths r_glyphCount r_ems r_wides r_forms r_parts r_charts r_pointCount r_contourCount r_depths r_xs r_ys r_ons r_contours o_bad n_at n_end r_flags r_part n_typed r_text n_ring r_ringX r_ringY r_ringOn n_wait r_curves r_windings r_rows c_bytes v_bytes sd9 (q6 + (4 * g9)) s.heap.size (by omega) (by omega) (by omega) (by assumption) (by omega) (by omega)) (cwV 3 hts (tw_inV w_993 w_995 wp_36 w_11 w_996) rfl rfl rfl (by decide +kernel) ⟨Nat.le_of_ble_eq_true rfl, Nat.le_of_ble_eq_true rfl⟩) ⟨fun a U g mk q => by obtain ⟨q0, q1, qP, qK, qD⟩ := q; exact ⟨q0, q1, qP, va_K.moved (u := U) (U := U.calling g mk a) (Vm.Alike.refl U.vm) qK, qD⟩, va_recv (hK := hK) (hP := hP) (q0 := 0) (ci := 10) rfl rfl, fun U hU hW => ⟨rfl, by rw [hU], by rw [hU]; exact hPc, va_K.moved hW.alike hKc, hDc.weaken (fun _ _ _ _ => trivial)⟩⟩ rfl rfl hl.1 rfl (lv_room (Nat.le_of_ble_eq_true rfl)) d_MD_locaAt_46 ⟨Nat.le_of_ble_eq_true rfl, Nat.le_of_ble_eq_true rfl⟩) hS (fun q _ h => hFc q h) hFc (fun r7533 u t H1 locs ht hvm hw hB hz1 hk1 hS => ?_)
    obtain ⟨hP1, hK1, hD1⟩ := hB
    rw [ht] at hP1
    have hK1 := va_K.moved hvm.symm hK1
    obtain ⟨hP, hD⟩ := va_join (wr := [(r_places, .inl (c_places, 16, .inl (v_places))), (r_forms, .inl (c_forms, 2, .inl (v_forms)))]) (w1 := [(m0, .inr (10, [.int i_fault, .int (nI (n_size)), .ref r_file, .int (nI (n_side)), .int (bI o_font), .ref r_bytes, .ref r_places, .ref r_lengths, .ref r_glyphCount, .ref r_ems, .ref r_wides, .ref r_forms, .ref r_parts, .ref r_charts, .ref r_pointCount, .ref r_contourCount, .ref r_depths, .ref r_xs, .ref r_ys, .ref r_ons, .ref r_contours, .int (bI o_bad), .int (nI (n_at)), .int (nI (n_end)), .ref r_flags, .ref r_part, .int (nI (n_typed)), .ref r_text, .int (nI (n_ring)), .ref r_ringX, .ref r_ringY, .ref r_ringOn, .int (nI (n_wait)), .ref r_curves, .ref r_windings, .ref r_rows])), (r_bytes, .inl (c_bytes, 2400, .inl (v_bytes)))]) hP hD [0, 1] [2, 3] rfl rfl (by decide) (by decide) hk1 hFc hP1 hD1
    have hK := (hK.sub (tys' := [(c_places, .int), (c_forms, .int)]) [1, 2] rfl).app hK1
    generalize H1 = H at hP hS ⊢
    have hP : va_P (dC, dI) cls_ [(r_places, .inl (c_places, 16, .inl (v_places))), (r_forms, .inl (c_forms, 2, .inl (v_forms))), (m0, .inr (10, [.int i_fault, .int (nI (n_size)), .ref r_file, .int (nI (n_side)), .int (bI o_font), .ref r_bytes, .ref r_places, .ref r_lengths, .ref r_glyphCount, .ref r_ems, .ref r_wides, .ref r_forms, .ref r_parts, .ref r_charts, .ref r_pointCount, .ref r_contourCount, .ref r_depths, .ref r_xs, .ref r_ys, .ref r_ons, .ref r_contours, .int (bI o_bad), .int (nI (n_at)), .int (nI (n_end)), .ref r_flags, .ref r_part, .int (nI (n_typed)), .ref r_text, .int (nI (n_ring)), .ref r_ringX, .ref r_ringY, .ref r_ringOn, .int (nI (n_wait)), .ref r_curves, .ref r_windings, .ref r_rows])), (r_bytes, .inl (c_bytes, 2400, .inl (v_bytes)))] H := hP
    have hD : va_D A [(r_places, .inl (c_places, 16, .inl (v_places))), (r_forms, .inl (c_forms, 2, .inl (v_forms))), (m0, .inr (10, [.int i_fault, .int (nI (n_size)), .ref r_file, .int (nI (n_side)), .int (bI o_font), .ref r_bytes, .ref r_places, .ref r_lengths, .ref r_glyphCount, .ref r_ems, .ref r_wides, .ref r_forms, .ref r_parts, .ref r_charts, .ref r_pointCount, .ref r_contourCount, .ref r_depths, .ref r_xs, .ref r_ys, .ref r_ons, .ref r_contours, .int (bI o_bad), .int (nI (n_at)), .int (nI (n_end)), .ref r_flags, .ref r_part, .int (nI (n_typed)), .ref r_text, .int (nI (n_ring)), .ref r_ringX, .ref r_ringY, .ref r_ringOn, .int (nI (n_wait)), .ref r_curves, .ref r_windings, .ref r_rows])), (r_bytes, .inl (c_bytes, 2400, .inl (v_bytes)))] := hD
    have hK : va_K (dC, dI) cls_ [(c_places, .int), (c_forms, .int), (c_bytes, .int)] s := hK
    have hw_r7533 := hw
    obtain ⟨kn7534, hkn7534, bkn7534, rfl⟩ := hw_r7533
    refine W.widen (k := 0) (n := 0) (Nat.le_of_ble_eq_true rfl) (Nat.le_of_ble_eq_true rfl) ?_
    have hP9 := hP.sub (ws' := [(m0, .inr (10, [.int i_fault, .int (nI (n_size)), .ref r_file, .int (nI (n_side)), .int (bI o_font), .ref r_bytes, .ref r_places, .ref r_lengths, .ref r_glyphCount, .ref r_ems, .ref r_wides, .ref r_forms, .ref r_parts, .ref r_charts, .ref r_pointCount, .ref r_contourCount, .ref r_depths, .ref r_xs, .ref r_ys, .ref r_ons, .ref r_contours, .int (bI o_bad), .int (nI (n_at)), .int (nI (n_end)), .ref r_flags, .ref r_part, .int (nI (n_typed)), .ref r_text, .int (nI (n_ring)), .ref r_ringX, .ref r_ringY, .ref r_ringOn, .int (nI (n_wait)), .ref r_curves, .ref r_windings, .ref r_rows])), (r_bytes, .inl (c_bytes, 2400, .inl (v_bytes))), (r_places, .inl (c_places, 16, .inl (v_places))), (r_forms, .inl (c_forms, 2, .inl (v_forms)))]) [2, 3, 0, 1] rfl
    have hD9 := hD.sub (ws' := [(m0, .inr (10, [.int i_fault, .int (nI (n_size)), .ref r_file, .int (nI (n_side)), .int (bI o_font), .ref r_bytes, .ref r_places, .ref r_lengths, .ref r_glyphCount, .ref r_ems, .ref r_wides, .ref r_forms, .ref r_parts, .ref r_charts, .ref r_pointCount, .ref r_contourCount, .ref r_depths, .ref r_xs, .ref r_ys, .ref r_ons, .ref r_contours, .int (bI o_bad), .int (nI (n_at)), .int (nI (n_end)), .ref r_flags, .ref r_part, .int (nI (n_typed)), .ref r_text, .int (nI (n_ring)), .ref r_ringX, .ref r_ringY, .ref r_ringOn, .int (nI (n_wait)), .ref r_curves, .ref r_windings, .ref r_rows])), (r_bytes, .inl (c_bytes, 2400, .inl (v_bytes))), (r_places, .inl (c_places, 16, .inl (v_places))), (r_forms, .inl (c_forms, 2, .inl (v_forms)))]) [2, 3, 0, 1] (by decide) rfl
    have hK9 := hK.sub (tys' := [(c_bytes, .int), (c_places, .int), (c_forms, .int)]) [2, 0, 1] rfl
    exact W.lret (v := lN (kn7534)) hx hb hr (fun t ht hW => ⟨⟨lN (kn7534), (), rfl, ⟨kn7534, by omega, by first | (rw [loc_0 (by omega)]; omega) | (rw [loc_1 (by omega)]; omega), rfl⟩, by rw [ht]; exact hP9, va_K.moved hW.alike hK9, hD9⟩, hS.F ht⟩) hS.2.2 d_MD_locaAt_49
  · skip
    have hc7532n : fo9 = 0 := (nI_eq (a := fo9) (b := 0) (by omega) (by omega)).mp hc7532
    refine lv_ldc2 (v := 2) hx hb hown (hts _ (List.mem_cons_of_mem _ w_1031)) d_MD_locaAt_9 ?_
    refine lv_aload_n hx hb d_MD_locaAt_12 rfl (lv_at hl 0 rfl) ?_
    refine lv_iload_n hx hb d_MD_locaAt_13 rfl (lv_at hl 1 rfl) ?_
    refine lv_bipush (v := 6) hx hb d_MD_locaAt_14 (by decide) ?_
    refine lv_iconst (v := 2) hx hb d_MD_locaAt_16 (by decide) ?_
    refine lv_iload_n hx hb d_MD_locaAt_17 rfl (lv_at hl 2 rfl) ?_
    refine lv_imul hx hb d_MD_locaAt_18 ?_
    refine lv_ci (y := nI (2 * g9)) (pk_mul (2) (g9)) ?_
    have hPc := hP.sub (ws' := [(m0, .inr (10, [.int i_fault, .int (nI (n_size)), .ref r_file, .int (nI (n_side)), .int (bI o_font), .ref r_bytes, .ref r_places, .ref r_lengths, .ref r_glyphCount, .ref r_ems, .ref r_wides, .ref r_forms, .ref r_parts, .ref r_charts, .ref r_pointCount, .ref r_contourCount, .ref r_depths, .ref r_xs, .ref r_ys, .ref r_ons, .ref r_contours, .int (bI o_bad), .int (nI (n_at)), .int (nI (n_end)), .ref r_flags, .ref r_part, .int (nI (n_typed)), .ref r_text, .int (nI (n_ring)), .ref r_ringX, .ref r_ringY, .ref r_ringOn, .int (nI (n_wait)), .ref r_curves, .ref r_windings, .ref r_rows])), (r_bytes, .inl (c_bytes, 2400, .inl (v_bytes))), (r_places, .inl (c_places, 16, .inl (v_places)))]) [0, 1, 2] rfl
    have hDc := hD.sub (ws' := [(m0, .inr (10, [.int i_fault, .int (nI (n_size)), .ref r_file, .int (nI (n_side)), .int (bI o_font), .ref r_bytes, .ref r_places, .ref r_lengths, .ref r_glyphCount, .ref r_ems, .ref r_wides, .ref r_forms, .ref r_parts, .ref r_charts, .ref r_pointCount, .ref r_contourCount, .ref r_depths, .ref r_xs, .ref r_ys, .ref r_ons, .ref r_contours, .int (bI o_bad), .int (nI (n_at)), .int (nI (n_end)), .ref r_flags, .ref r_part, .int (nI (n_typed)), .ref r_text, .int (nI (n_ring)), .ref r_ringX, .ref r_ringY, .ref r_ringOn, .int (nI (n_wait)), .ref r_curves, .ref r_windings, .ref r_rows])), (r_bytes, .inl (c_bytes, 2400, .inl (v_bytes))), (r_places, .inl (c_places, 16, .inl (v_places)))]) [0, 1, 2] (by decide) rfl
    have hKc := hK.sub (tys' := [(c_bytes, .int), (c_places, .int)]) [0, 1] rfl
    have hFc := va_free (wc := [(m0, .inr (10, [.int i_fault, .int (nI (n_size)), .ref r_file, .int (nI (n_side)), .int (bI o_font), .ref r_bytes, .ref r_places, .ref r_lengths, .ref r_glyphCount, .ref r_ems, .ref r_wides, .ref r_forms, .ref r_parts, .ref r_charts, .ref r_pointCount, .ref r_contourCount, .ref r_depths, .ref r_xs, .ref r_ys, .ref r_ons, .ref r_contours, .int (bI o_bad), .int (nI (n_at)), .int (nI (n_end)), .ref r_flags, .ref r_part, .int (nI (n_typed)), .ref r_text, .int (nI (n_ring)), .ref r_ringX, .ref r_ringY, .ref r_ringOn, .int (nI (n_wait)), .ref r_curves, .ref r_windings, .ref r_rows])), (r_bytes, .inl (c_bytes, 2400, .inl (v_bytes))), (r_places, .inl (c_places, 16, .inl (v_places)))]) hD hS hA [0, 1, 2] rfl
    refine va_calli (va_runV (As := [.int (nI (sd9)), .int 6, .int (nI (2 * g9))]) (rest := [.long 2]) ⟨hx, hb, hml, hown, hts⟩ (g_MD_u16 l dC dI m0 i_fault n_size r_file n_side o_font r_bytes r_places r_lengths r_glyphCount r_ems r_wides r_forms r_parts r_charts r_pointCount r_contourCount r_depths r_xs r_ys r_ons r_contours o_bad n_at n_end r_flags r_part n_typed r_text n_ring r_ringX r_ringY r_ringOn n_wait r_curves r_windings r_rows c_bytes v_bytes c_places v_places sd9 6 (2 * g9) q6 s.heap.size (by omega) (by omega) (by omega) (by assumption) (by assumption) (by omega) (by omega) (by omega)) (cwV 3 hts (tw_inV w_1022 w_1024 wp_41 w_11 w_1025) rfl rfl rfl (by decide +kernel) ⟨Nat.le_of_ble_eq_true rfl, Nat.le_of_ble_eq_true rfl⟩) ⟨fun a U g mk q => by obtain ⟨q0, q1, qP, qK, qD⟩ := q; exact ⟨q0, q1, qP, va_K.moved (u := U) (U := U.calling g mk a) (Vm.Alike.refl U.vm) qK, qD⟩, va_recv (hK := hK) (hP := hP) (q0 := 0) (ci := 10) rfl rfl, fun U hU hW => ⟨rfl, by rw [hU], by rw [hU]; exact hPc, va_K.moved hW.alike hKc, hDc.weaken (fun _ _ _ _ => trivial)⟩⟩ rfl rfl hl.1 rfl (lv_room (Nat.le_of_ble_eq_true rfl)) d_MD_locaAt_19 ⟨Nat.le_of_ble_eq_true rfl, Nat.le_of_ble_eq_true rfl⟩) hS (fun q _ h => hFc q h) hFc (fun r7535 u t H1 locs ht hvm hw hB hz1 hk1 hS => ?_)
    obtain ⟨hP1, hK1, hD1⟩ := hB
    rw [ht] at hP1
    have hK1 := va_K.moved hvm.symm hK1
    obtain ⟨hP, hD⟩ := va_join (wr := [(r_forms, .inl (c_forms, 2, .inl (v_forms)))]) (w1 := [(m0, .inr (10, [.int i_fault, .int (nI (n_size)), .ref r_file, .int (nI (n_side)), .int (bI o_font), .ref r_bytes, .ref r_places, .ref r_lengths, .ref r_glyphCount, .ref r_ems, .ref r_wides, .ref r_forms, .ref r_parts, .ref r_charts, .ref r_pointCount, .ref r_contourCount, .ref r_depths, .ref r_xs, .ref r_ys, .ref r_ons, .ref r_contours, .int (bI o_bad), .int (nI (n_at)), .int (nI (n_end)), .ref r_flags, .ref r_part, .int (nI (n_typed)), .ref r_text, .int (nI (n_ring)), .ref r_ringX, .ref r_ringY, .ref r_ringOn, .int (nI (n_wait)), .ref r_curves, .ref r_windings, .ref r_rows])), (r_bytes, .inl (c_bytes, 2400, .inl (v_bytes))), (r_places, .inl (c_places, 16, .inl (v_places)))]) hP hD [0, 1, 2] [3] rfl rfl (by decide) (by decide) hk1 hFc hP1 hD1
    have hK := (hK.sub (tys' := [(c_forms, .int)]) [2] rfl).app hK1
    generalize H1 = H at hP hS ⊢
    have hP : va_P (dC, dI) cls_ [(r_forms, .inl (c_forms, 2, .inl (v_forms))), (m0, .inr (10, [.int i_fault, .int (nI (n_size)), .ref r_file, .int (nI (n_side)), .int (bI o_font), .ref r_bytes, .ref r_places, .ref r_lengths, .ref r_glyphCount, .ref r_ems, .ref r_wides, .ref r_forms, .ref r_parts, .ref r_charts, .ref r_pointCount, .ref r_contourCount, .ref r_depths, .ref r_xs, .ref r_ys, .ref r_ons, .ref r_contours, .int (bI o_bad), .int (nI (n_at)), .int (nI (n_end)), .ref r_flags, .ref r_part, .int (nI (n_typed)), .ref r_text, .int (nI (n_ring)), .ref r_ringX, .ref r_ringY, .ref r_ringOn, .int (nI (n_wait)), .ref r_curves, .ref r_windings, .ref r_rows])), (r_bytes, .inl (c_bytes, 2400, .inl (v_bytes))), (r_places, .inl (c_places, 16, .inl (v_places)))] H := hP
    have hD : va_D A [(r_forms, .inl (c_forms, 2, .inl (v_forms))), (m0, .inr (10, [.int i_fault, .int (nI (n_size)), .ref r_file, .int (nI (n_side)), .int (bI o_font), .ref r_bytes, .ref r_places, .ref r_lengths, .ref r_glyphCount, .ref r_ems, .ref r_wides, .ref r_forms, .ref r_parts, .ref r_charts, .ref r_pointCount, .ref r_contourCount, .ref r_depths, .ref r_xs, .ref r_ys, .ref r_ons, .ref r_contours, .int (bI o_bad), .int (nI (n_at)), .int (nI (n_end)), .ref r_flags, .ref r_part, .int (nI (n_typed)), .ref r_text, .int (nI (n_ring)), .ref r_ringX, .ref r_ringY, .ref r_ringOn, .int (nI (n_wait)), .ref r_curves, .ref r_windings, .ref r_rows])), (r_bytes, .inl (c_bytes, 2400, .inl (v_bytes))), (r_places, .inl (c_places, 16, .inl (v_places)))] := hD
    have hK : va_K (dC, dI) cls_ [(c_forms, .int), (c_bytes, .int), (c_places, .int)] s := hK
    have hw_r7535 := hw
    obtain ⟨kn7536, hkn7536, bkn7536, rfl⟩ := hw_r7535
    refine lv_i2l (v := (nI (kn7536)).toInt64) hx hb d_MD_locaAt_22 rfl ?_
    refine lv_cl (y := lN (kn7536)) (nI_l (by omega)) ?_
    refine lv_lmul hx hb d_MD_locaAt_23 ?_
    refine lv_cl (y := lN (2 * kn7536)) (lN_mul (2) (kn7536)) ?_
    refine lv_goto (tgt := 49) hx hb d_MD_locaAt_24 (by decide) ?_
    refine W.widen (k := 0) (n := 0) (Nat.le_of_ble_eq_true rfl) (Nat.le_of_ble_eq_true rfl) ?_
    have hP9 := hP.sub (ws' := [(m0, .inr (10, [.int i_fault, .int (nI (n_size)), .ref r_file, .int (nI (n_side)), .int (bI o_font), .ref r_bytes, .ref r_places, .ref r_lengths, .ref r_glyphCount, .ref r_ems, .ref r_wides, .ref r_forms, .ref r_parts, .ref r_charts, .ref r_pointCount, .ref r_contourCount, .ref r_depths, .ref r_xs, .ref r_ys, .ref r_ons, .ref r_contours, .int (bI o_bad), .int (nI (n_at)), .int (nI (n_end)), .ref r_flags, .ref r_part, .int (nI (n_typed)), .ref r_text, .int (nI (n_ring)), .ref r_ringX, .ref r_ringY, .ref r_ringOn, .int (nI (n_wait)), .ref r_curves, .ref r_windings, .ref r_rows])), (r_bytes, .inl (c_bytes, 2400, .inl (v_bytes))), (r_places, .inl (c_places, 16, .inl (v_places))), (r_forms, .inl (c_forms, 2, .inl (v_forms)))]) [1, 2, 3, 0] rfl
    have hD9 := hD.sub (ws' := [(m0, .inr (10, [.int i_fault, .int (nI (n_size)), .ref r_file, .int (nI (n_side)), .int (bI o_font), .ref r_bytes, .ref r_places, .ref r_lengths, .ref r_glyphCount, .ref r_ems, .ref r_wides, .ref r_forms, .ref r_parts, .ref r_charts, .ref r_pointCount, .ref r_contourCount, .ref r_depths, .ref r_xs, .ref r_ys, .ref r_ons, .ref r_contours, .int (bI o_bad), .int (nI (n_at)), .int (nI (n_end)), .ref r_flags, .ref r_part, .int (nI (n_typed)), .ref r_text, .int (nI (n_ring)), .ref r_ringX, .ref r_ringY, .ref r_ringOn, .int (nI (n_wait)), .ref r_curves, .ref r_windings, .ref r_rows])), (r_bytes, .inl (c_bytes, 2400, .inl (v_bytes))), (r_places, .inl (c_places, 16, .inl (v_places))), (r_forms, .inl (c_forms, 2, .inl (v_forms)))]) [1, 2, 3, 0] (by decide) rfl
    have hK9 := hK.sub (tys' := [(c_bytes, .int), (c_places, .int), (c_forms, .int)]) [1, 2, 0] rfl
    exact W.lret (v := lN (2 * kn7536)) hx hb hr (fun t ht hW => ⟨⟨lN (2 * kn7536), (), rfl, ⟨2 * kn7536, by omega, by first | (rw [loc_0 (by omega)]; omega) | (rw [loc_1 (by omega)]; omega), rfl⟩, by rw [ht]; exact hP9, va_K.moved hW.alike hK9, hD9⟩, hS.F ht⟩) hS.2.2 d_MD_locaAt_49
