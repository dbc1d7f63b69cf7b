abbrev b_GL_requireFont : ByteArray := prog_1_method_15_code
def y_GL_requireFont : MethodName := ⟨R_GL, "requireFont", "()V"⟩
def s_GL_requireFont : List Cond := .code y_GL_requireFont b_GL_requireFont 1 none :: tw_T
abbrev b_GL_glyph : ByteArray := prog_1_method_7_code
def y_GL_glyph : MethodName := ⟨R_GL, "glyph", "(I)I"⟩
def s_GL_glyph : List Cond := .code y_GL_glyph b_GL_glyph 2 (some .int) :: tw_T
abbrev b_GL_measure : ByteArray := prog_1_method_8_code
def y_GL_measure : MethodName := ⟨R_GL, "measure", "(II)I"⟩
def s_GL_measure : List Cond := .code y_GL_measure b_GL_measure 3 (some .int) :: tw_T
abbrev b_GL_point : ByteArray := prog_1_method_9_code
def y_GL_point : MethodName := ⟨R_GL, "point", "(III)I"⟩
def s_GL_point : List Cond := .code y_GL_point b_GL_point 4 (some .int) :: tw_T
abbrev b_GL_kerning : ByteArray := prog_1_method_10_code
def y_GL_kerning : MethodName := ⟨R_GL, "kerning", "(II)I"⟩
def s_GL_kerning : List Cond := .code y_GL_kerning b_GL_kerning 3 (some .int) :: tw_T
abbrev b_GL_paint : ByteArray := prog_1_method_13_code
def y_GL_paint : MethodName := ⟨R_GL, "paint", "(I)I"⟩
def s_GL_paint : List Cond := .code y_GL_paint b_GL_paint 3 (some .int) :: tw_T
abbrev b_GL_put : ByteArray := prog_1_method_3_code
def y_GL_put : MethodName := ⟨R_GL, "put", "(II)I"⟩
def s_GL_put : List Cond := .code y_GL_put b_GL_put 4 (some .int) :: tw_T
abbrev b_GL_cut : ByteArray := prog_1_method_5_code
def y_GL_cut : MethodName := ⟨R_GL, "cut", "(I)I"⟩
def s_GL_cut : List Cond := .code y_GL_cut b_GL_cut 4 (some .int) :: tw_T
abbrev b_GL_row : ByteArray := prog_1_method_14_code
def y_GL_row : MethodName := ⟨R_GL, "row", "(I)J"⟩
def s_GL_row : List Cond := .code y_GL_row b_GL_row 2 (some .long) :: tw_T
theorem w_1 : (Jvm.Cond.initialized "GlyphLines") ∈ tw_T := tw_of 1 (by decide +kernel) (by decide +kernel)
theorem w_15 : (Jvm.Cond.initialized "java/lang/IndexOutOfBoundsException") ∈ tw_T := tw_of 15 (by decide +kernel) (by decide +kernel)
theorem w_16 : (Jvm.Cond.initialized "java/lang/IllegalArgumentException") ∈ tw_T := tw_of 16 (by decide +kernel) (by decide +kernel)
theorem w_20 : (Jvm.Cond.initialized "java/lang/IllegalStateException") ∈ tw_T := tw_of 20 (by decide +kernel) (by decide +kernel)
theorem w_557 : (Jvm.Cond.classLink "GlyphLines" (60 : Nat) "java/lang/IndexOutOfBoundsException") ∈ tw_T := tw_of 557 (by decide +kernel) (by decide +kernel)
theorem w_625 : (Jvm.Cond.classLink "GlyphLines" (67 : Nat) "java/lang/IllegalArgumentException") ∈ tw_T := tw_of 625 (by decide +kernel) (by decide +kernel)
theorem w_658 : (Jvm.Cond.methodLink "GlyphLines" (84 : Nat) ({ cls := "GlyphLines", name := "requireFont", desc := "()V" } : Jvm.MethodName)) ∈ tw_T := tw_of 658 (by decide +kernel) (by decide +kernel)
theorem w_660 : (Jvm.Cond.instanceMethod ({ cls := "GlyphLines", name := "requireFont", desc := "()V" } : Jvm.MethodName)) ∈ tw_T := tw_of 660 (by decide +kernel) (by decide +kernel)
theorem w_661 : (Jvm.Cond.code ({ cls := "GlyphLines", name := "requireFont", desc := "()V" } : Jvm.MethodName) prog_1_method_15_code (1 : Nat) (Option.none : Option Jvm.ClassFile.FieldType)) ∈ tw_T := tw_of 661 (by decide +kernel) (by decide +kernel)
theorem w_662 : (Jvm.Cond.classLink "GlyphLines" (157 : Nat) "java/lang/IllegalStateException") ∈ tw_T := tw_of 662 (by decide +kernel) (by decide +kernel)
theorem wp_22 : Cond.selects "GlyphLines" ({ cls := "GlyphLines", name := "requireFont", desc := "()V" } : Jvm.MethodName) ({ cls := "GlyphLines", name := "requireFont", desc := "()V" } : Jvm.MethodName) ∈ tw_T := tw_priv 22 (({ cls := "GlyphLines", name := "requireFont", desc := "()V" } : Jvm.MethodName), 10) (by decide +kernel) (by decide +kernel)
theorem d_GL_cut_0 : decode b_GL_cut 0 = .ok (.iload_n 1, 1) := by decide +kernel
theorem d_GL_cut_1 : decode b_GL_cut 1 = .ok (.ifCond .ge (13), 3) := by decide +kernel
theorem d_GL_cut_10 : decode b_GL_cut 10 = .ok (.invokespecial 71, 3) := by decide +kernel
theorem d_GL_cut_13 : decode b_GL_cut 13 = .ok (.athrow, 1) := by decide +kernel
theorem d_GL_cut_4 : decode b_GL_cut 4 = .ok (.new 67, 3) := by decide +kernel
theorem d_GL_cut_7 : decode b_GL_cut 7 = .ok (.dup, 1) := by decide +kernel
theorem d_GL_cut_8 : decode b_GL_cut 8 = .ok (.ldc 72, 2) := by decide +kernel
theorem d_GL_glyph_0 : decode b_GL_glyph 0 = .ok (.aload_n 0, 1) := by decide +kernel
theorem d_GL_glyph_1 : decode b_GL_glyph 1 = .ok (.invokevirtual 84, 3) := by decide +kernel
theorem d_GL_kerning_0 : decode b_GL_kerning 0 = .ok (.aload_n 0, 1) := by decide +kernel
theorem d_GL_kerning_1 : decode b_GL_kerning 1 = .ok (.invokevirtual 84, 3) := by decide +kernel
theorem d_GL_measure_0 : decode b_GL_measure 0 = .ok (.aload_n 0, 1) := by decide +kernel
theorem d_GL_measure_1 : decode b_GL_measure 1 = .ok (.invokevirtual 84, 3) := by decide +kernel
theorem d_GL_paint_0 : decode b_GL_paint 0 = .ok (.aload_n 0, 1) := by decide +kernel
theorem d_GL_paint_1 : decode b_GL_paint 1 = .ok (.invokevirtual 84, 3) := by decide +kernel
theorem d_GL_point_0 : decode b_GL_point 0 = .ok (.aload_n 0, 1) := by decide +kernel
theorem d_GL_point_1 : decode b_GL_point 1 = .ok (.invokevirtual 84, 3) := by decide +kernel
theorem d_GL_put_0 : decode b_GL_put 0 = .ok (.iload_n 1, 1) := by decide +kernel
theorem d_GL_put_1 : decode b_GL_put 1 = .ok (.ifCond .lt (11), 3) := by decide +kernel
theorem d_GL_put_12 : decode b_GL_put 12 = .ok (.new 60, 3) := by decide +kernel
theorem d_GL_put_15 : decode b_GL_put 15 = .ok (.dup, 1) := by decide +kernel
theorem d_GL_put_16 : decode b_GL_put 16 = .ok (.ldc 62, 2) := by decide +kernel
theorem d_GL_put_18 : decode b_GL_put 18 = .ok (.invokespecial 64, 3) := by decide +kernel
theorem d_GL_put_21 : decode b_GL_put 21 = .ok (.athrow, 1) := by decide +kernel
theorem d_GL_put_4 : decode b_GL_put 4 = .ok (.iload_n 1, 1) := by decide +kernel
theorem d_GL_put_5 : decode b_GL_put 5 = .ok (.aload_n 0, 1) := by decide +kernel
theorem d_GL_put_6 : decode b_GL_put 6 = .ok (.getfield 13, 3) := by decide +kernel
theorem d_GL_put_9 : decode b_GL_put 9 = .ok (.if_icmp .lt (13), 3) := by decide +kernel
theorem d_GL_requireFont_0 : decode b_GL_requireFont 0 = .ok (.aload_n 0, 1) := by decide +kernel
theorem d_GL_requireFont_1 : decode b_GL_requireFont 1 = .ok (.getfield 27, 3) := by decide +kernel
theorem d_GL_requireFont_10 : decode b_GL_requireFont 10 = .ok (.dup, 1) := by decide +kernel
theorem d_GL_requireFont_11 : decode b_GL_requireFont 11 = .ok (.ldc 159, 2) := by decide +kernel
theorem d_GL_requireFont_13 : decode b_GL_requireFont 13 = .ok (.invokespecial 161, 3) := by decide +kernel
theorem d_GL_requireFont_16 : decode b_GL_requireFont 16 = .ok (.athrow, 1) := by decide +kernel
theorem d_GL_requireFont_4 : decode b_GL_requireFont 4 = .ok (.ifCond .ne (13), 3) := by decide +kernel
theorem d_GL_requireFont_7 : decode b_GL_requireFont 7 = .ok (.new 157, 3) := by decide +kernel
theorem d_GL_row_0 : decode b_GL_row 0 = .ok (.iload_n 1, 1) := by decide +kernel
theorem d_GL_row_1 : decode b_GL_row 1 = .ok (.ifCond .lt (9), 3) := by decide +kernel
theorem d_GL_row_10 : decode b_GL_row 10 = .ok (.new 60, 3) := by decide +kernel
theorem d_GL_row_13 : decode b_GL_row 13 = .ok (.dup, 1) := by decide +kernel
theorem d_GL_row_14 : decode b_GL_row 14 = .ok (.ldc 151, 2) := by decide +kernel
theorem d_GL_row_16 : decode b_GL_row 16 = .ok (.invokespecial 64, 3) := by decide +kernel
theorem d_GL_row_19 : decode b_GL_row 19 = .ok (.athrow, 1) := by decide +kernel
theorem d_GL_row_4 : decode b_GL_row 4 = .ok (.iload_n 1, 1) := by decide +kernel
theorem d_GL_row_5 : decode b_GL_row 5 = .ok (.bipush 24, 2) := by decide +kernel
theorem d_GL_row_7 : decode b_GL_row 7 = .ok (.if_icmp .lt (13), 3) := by decide +kernel
set_option maxHeartbeats 4000000 in
set_option maxRecDepth 100000 in
/-- GlyphLines.requireFont -/
theorem c_GL_requireFont (l : Launch) (hfl : l.flags = flags0) (dC : Nat → ClassId) (dI : Nat → Nat → Nat) (h0 qf a2 a3 a5 a6 a7 qx : Nat) (sz : Nat) : th_Met l y_GL_requireFont s_GL_requireFont ({ frames := 8, cells := 1, slots := 6, locals := 200 }) (va_Pc [.ref h0] (fun U => U.heap.size = sz ∧ va_P (dC, dI) cls_ [(h0, .inr (9, [.ref qf, .int 0, .ref a2, .ref a3, .int 0, .ref a5, .ref a6, .ref a7, .ref qx, .int 0]))] U.heap ∧ va_K (dC, dI) cls_ [] U ∧ va_D (fun _ => True) [(h0, .inr (9, [.ref qf, .int 0, .ref a2, .ref a3, .int 0, .ref a5, .ref a6, .ref a7, .ref qx, .int 0]))] ∧ th_All U)) X_is 1 6 := by
  refine th_ofW (cc := b_GL_requireFont) (maxL := 1) (ret := none) (by decide) rfl ?_
  intro p e s m args below meth c s₁ B hml hv
  obtain ⟨rfl, hsz, hP, hK, hD0, hT9⟩ := hv
  have hx := B.exec
  have hb := B.bytes
  have hts := atoms_spec (ws := s_GL_requireFont) B.pre
  have hown : s.vm.findClass R_GL = some m.cls := findClass_of_methodNamed B.named
  have hlocks := B.notSynchronized
  have htr : e.platform.stackTraces = false := Launch.traces_off hfl B.admits
  have hnoh := B.noHandlers (hts _ List.mem_cons_self)
  obtain ⟨hT1, hT2, hT3, ⟨qs62, hz62⟩, ⟨qs72, hz72⟩, ⟨qs159, hz159⟩, ⟨qs151, hz151⟩⟩ := id hT9
  have hH : ∀ q : Nat, q < s.heap.size → s.heap[q]? = s.heap[q]? := fun _ _ => rfl
  subst hsz
  have hD := hD0.self (sz := s.heap.size)
  generalize hAe : va_A [(h0, .inr (9, [.ref qf, .int 0, .ref a2, .ref a3, .int 0, .ref a5, .ref a6, .ref a7, .ref qx, .int 0]))] s.heap.size = A at hD
  have hA : ∀ q : Nat, s.heap.size ≤ q → A q := fun q h => by rw [← hAe]; exact Or.inr h
  have hS : va_S A s.heap s.heap [] := va_S.rf
  have hP : va_P (dC, dI) cls_ [(h0, .inr (9, [.ref qf, .int 0, .ref a2, .ref a3, .int 0, .ref a5, .ref a6, .ref a7, .ref qx, .int 0]))] s.heap := hP
  have hl := lv_entry ([.ref h0]) (n := 1) (Nat.le_of_ble_eq_true rfl)
  rw [lg_entry_eq]
  generalize (lg_sl ([.ref h0]) ++ List.replicate (1 - (lg_sl ([.ref h0])).length) Slot.unset).toArray = ls at hl ⊢
  have hl : lv_has ls 1 [(0, .ref h0)] := hl
  refine lv_aload_n hx hb d_GL_requireFont_0 rfl (lv_at hl 0 rfl) ?_
  refine va_get (D := (dC, dI)) (ci := 9) (v := .int 0) (C := R_GL) (T := F_GL) (N := 10) hx hb hts in_GL hown hK hP 0 rfl rfl 4 (by decide) (hts _ (List.mem_cons_of_mem _ w_291)) (fun _ h9 => h9) rfl d_GL_requireFont_1 ?_
  refine lv_if_ne (tgt := 17) hx hb d_GL_requireFont_4 (by decide) (fun hc => absurd hc (by decide +kernel)) (fun _ => ?_)
  exact th_throwS (names := th_nm) (tx := "there is no font") hx htr hb (by rw [hml]; exact hl.1.symm) hown (by decide +kernel) (by decide +kernel) (hT3 _) (hts _ (List.mem_cons_of_mem _ w_662)) (hts _ (List.mem_cons_of_mem _ w_20)) hz159 hnoh hlocks d_GL_requireFont_7 d_GL_requireFont_10 d_GL_requireFont_11 d_GL_requireFont_13 d_GL_requireFont_16 (Nat.le_of_ble_eq_true rfl) (Nat.le_of_ble_eq_true rfl) (Nat.le_of_ble_eq_true rfl) (Nat.le_of_ble_eq_true rfl)
set_option maxHeartbeats 4000000 in
set_option maxRecDepth 100000 in
/-- GlyphLines.glyph -/
theorem c_GL_glyph (l : Launch) (hfl : l.flags = flags0) (dC : Nat → ClassId) (dI : Nat → Nat → Nat) (h0 qf a2 a3 a5 a6 a7 qx : Nat) (ch : Int32) (sz : Nat) : th_Met l y_GL_glyph s_GL_glyph ({ frames := 10, cells := 1, slots := 6, locals := 300 }) (va_Pc [.ref h0, .int ch] (fun U => U.heap.size = sz ∧ va_P (dC, dI) cls_ [(h0, .inr (9, [.ref qf, .int 0, .ref a2, .ref a3, .int 0, .ref a5, .ref a6, .ref a7, .ref qx, .int 0]))] U.heap ∧ va_K (dC, dI) cls_ [] U ∧ va_D (fun _ => True) [(h0, .inr (9, [.ref qf, .int 0, .ref a2, .ref a3, .int 0, .ref a5, .ref a6, .ref a7, .ref qx, .int 0]))] ∧ th_All U)) X_is 1 6 := by
  refine th_ofW (cc := b_GL_glyph) (maxL := 2) (ret := (some .int)) (by decide) rfl ?_
  intro p e s m args below meth c s₁ B hml hv
  obtain ⟨rfl, hsz, hP, hK, hD0, hT9⟩ := hv
  have hx := B.exec
  have hb := B.bytes
  have hts := atoms_spec (ws := s_GL_glyph) B.pre
  have hown : s.vm.findClass R_GL = some m.cls := findClass_of_methodNamed B.named
  have hlocks := B.notSynchronized
  have htr : e.platform.stackTraces = false := Launch.traces_off hfl B.admits
  have hnoh := B.noHandlers (hts _ List.mem_cons_self)
  obtain ⟨hT1, hT2, hT3, ⟨qs62, hz62⟩, ⟨qs72, hz72⟩, ⟨qs159, hz159⟩, ⟨qs151, hz151⟩⟩ := id hT9
  have hH : ∀ q : Nat, q < s.heap.size → s.heap[q]? = s.heap[q]? := fun _ _ => rfl
  subst hsz
  have hD := hD0.self (sz := s.heap.size)
  generalize hAe : va_A [(h0, .inr (9, [.ref qf, .int 0, .ref a2, .ref a3, .int 0, .ref a5, .ref a6, .ref a7, .ref qx, .int 0]))] s.heap.size = A at hD
  have hA : ∀ q : Nat, s.heap.size ≤ q → A q := fun q h => by rw [← hAe]; exact Or.inr h
  have hS : va_S A s.heap s.heap [] := va_S.rf
  have hP : va_P (dC, dI) cls_ [(h0, .inr (9, [.ref qf, .int 0, .ref a2, .ref a3, .int 0, .ref a5, .ref a6, .ref a7, .ref qx, .int 0]))] s.heap := hP
  have hl := lv_entry ([.ref h0, .int ch]) (n := 2) (Nat.le_of_ble_eq_true rfl)
  rw [lg_entry_eq]
  generalize (lg_sl ([.ref h0, .int ch]) ++ List.replicate (2 - (lg_sl ([.ref h0, .int ch])).length) Slot.unset).toArray = ls at hl ⊢
  have hl : lv_has ls 2 [(0, .ref h0), (1, .int ch)] := hl
  refine lv_aload_n hx hb d_GL_glyph_0 rfl (lv_at hl 0 rfl) ?_
  have hPc := hP.sub (ws' := [(h0, .inr (9, [.ref qf, .int 0, .ref a2, .ref a3, .int 0, .ref a5, .ref a6, .ref a7, .ref qx, .int 0]))]) [0] rfl
  have hDc := hD.sub (ws' := [(h0, .inr (9, [.ref qf, .int 0, .ref a2, .ref a3, .int 0, .ref a5, .ref a6, .ref a7, .ref qx, .int 0]))]) [0] (by decide) rfl
  have hKc := hK.sub (tys' := []) [] rfl
  have hFc := va_free (wc := [(h0, .inr (9, [.ref qf, .int 0, .ref a2, .ref a3, .int 0, .ref a5, .ref a6, .ref a7, .ref qx, .int 0]))]) hD hS hA [0] rfl
  exact th_passV (As := []) (rest := []) ⟨hx, hb, hml, hown, hts⟩ (c_GL_requireFont l hfl dC dI h0 qf a2 a3 a5 a6 a7 qx s.heap.size) (cwV 0 hts (tw_inV w_658 w_660 wp_22 w_1 w_661) rfl rfl rfl (by decide +kernel) ⟨Nat.le_of_ble_eq_true rfl, Nat.le_of_ble_eq_true rfl⟩) ⟨fun a U g mk q => by obtain ⟨q0, q1, qP, qK, qD, qE0⟩ := q; exact ⟨q0, q1, qP, va_K.moved (u := U) (U := U.calling g mk a) (Vm.Alike.refl U.vm) qK, qD, th_All.call qE0⟩, va_recv (hK := hK) (hP := hP) (q0 := 0) (ci := 9) rfl rfl, fun U hU hW => ⟨rfl, by rw [hU], by rw [hU]; exact hPc, va_K.moved hW.alike hKc, hDc.weaken (fun _ _ _ _ => trivial), hT9.to hW (by rw [hU]; exact hH)⟩⟩ rfl hl.1 (Nat.le_of_ble_eq_true rfl) d_GL_glyph_1 ⟨Nat.le_of_ble_eq_true rfl, Nat.le_of_ble_eq_true rfl⟩ hnoh hlocks
set_option maxHeartbeats 4000000 in
set_option maxRecDepth 100000 in
/-- GlyphLines.measure -/
theorem c_GL_measure (l : Launch) (hfl : l.flags = flags0) (dC : Nat → ClassId) (dI : Nat → Nat → Nat) (h0 qf a2 a3 a5 a6 a7 qx : Nat) (gl wh : Int32) (sz : Nat) : th_Met l y_GL_measure s_GL_measure ({ frames := 10, cells := 1, slots := 6, locals := 300 }) (va_Pc [.ref h0, .int gl, .int wh] (fun U => U.heap.size = sz ∧ va_P (dC, dI) cls_ [(h0, .inr (9, [.ref qf, .int 0, .ref a2, .ref a3, .int 0, .ref a5, .ref a6, .ref a7, .ref qx, .int 0]))] U.heap ∧ va_K (dC, dI) cls_ [] U ∧ va_D (fun _ => True) [(h0, .inr (9, [.ref qf, .int 0, .ref a2, .ref a3, .int 0, .ref a5, .ref a6, .ref a7, .ref qx, .int 0]))] ∧ th_All U)) X_is 1 6 := by
  refine th_ofW (cc := b_GL_measure) (maxL := 3) (ret := (some .int)) (by decide) rfl ?_
  intro p e s m args below meth c s₁ B hml hv
  obtain ⟨rfl, hsz, hP, hK, hD0, hT9⟩ := hv
  have hx := B.exec
  have hb := B.bytes
  have hts := atoms_spec (ws := s_GL_measure) B.pre
  have hown : s.vm.findClass R_GL = some m.cls := findClass_of_methodNamed B.named
  have hlocks := B.notSynchronized
  have htr : e.platform.stackTraces = false := Launch.traces_off hfl B.admits
  have hnoh := B.noHandlers (hts _ List.mem_cons_self)
  obtain ⟨hT1, hT2, hT3, ⟨qs62, hz62⟩, ⟨qs72, hz72⟩, ⟨qs159, hz159⟩, ⟨qs151, hz151⟩⟩ := id hT9
  have hH : ∀ q : Nat, q < s.heap.size → s.heap[q]? = s.heap[q]? := fun _ _ => rfl
  subst hsz
  have hD := hD0.self (sz := s.heap.size)
  generalize hAe : va_A [(h0, .inr (9, [.ref qf, .int 0, .ref a2, .ref a3, .int 0, .ref a5, .ref a6, .ref a7, .ref qx, .int 0]))] s.heap.size = A at hD
  have hA : ∀ q : Nat, s.heap.size ≤ q → A q := fun q h => by rw [← hAe]; exact Or.inr h
  have hS : va_S A s.heap s.heap [] := va_S.rf
  have hP : va_P (dC, dI) cls_ [(h0, .inr (9, [.ref qf, .int 0, .ref a2, .ref a3, .int 0, .ref a5, .ref a6, .ref a7, .ref qx, .int 0]))] s.heap := hP
  have hl := lv_entry ([.ref h0, .int gl, .int wh]) (n := 3) (Nat.le_of_ble_eq_true rfl)
  rw [lg_entry_eq]
  generalize (lg_sl ([.ref h0, .int gl, .int wh]) ++ List.replicate (3 - (lg_sl ([.ref h0, .int gl, .int wh])).length) Slot.unset).toArray = ls at hl ⊢
  have hl : lv_has ls 3 [(0, .ref h0), (1, .int gl), (2, .int wh)] := hl
  refine lv_aload_n hx hb d_GL_measure_0 rfl (lv_at hl 0 rfl) ?_
  have hPc := hP.sub (ws' := [(h0, .inr (9, [.ref qf, .int 0, .ref a2, .ref a3, .int 0, .ref a5, .ref a6, .ref a7, .ref qx, .int 0]))]) [0] rfl
  have hDc := hD.sub (ws' := [(h0, .inr (9, [.ref qf, .int 0, .ref a2, .ref a3, .int 0, .ref a5, .ref a6, .ref a7, .ref qx, .int 0]))]) [0] (by decide) rfl
  have hKc := hK.sub (tys' := []) [] rfl
  have hFc := va_free (wc := [(h0, .inr (9, [.ref qf, .int 0, .ref a2, .ref a3, .int 0, .ref a5, .ref a6, .ref a7, .ref qx, .int 0]))]) hD hS hA [0] rfl
  exact th_passV (As := []) (rest := []) ⟨hx, hb, hml, hown, hts⟩ (c_GL_requireFont l hfl dC dI h0 qf a2 a3 a5 a6 a7 qx s.heap.size) (cwV 0 hts (tw_inV w_658 w_660 wp_22 w_1 w_661) rfl rfl rfl (by decide +kernel) ⟨Nat.le_of_ble_eq_true rfl, Nat.le_of_ble_eq_true rfl⟩) ⟨fun a U g mk q => by obtain ⟨q0, q1, qP, qK, qD, qE0⟩ := q; exact ⟨q0, q1, qP, va_K.moved (u := U) (U := U.calling g mk a) (Vm.Alike.refl U.vm) qK, qD, th_All.call qE0⟩, va_recv (hK := hK) (hP := hP) (q0 := 0) (ci := 9) rfl rfl, fun U hU hW => ⟨rfl, by rw [hU], by rw [hU]; exact hPc, va_K.moved hW.alike hKc, hDc.weaken (fun _ _ _ _ => trivial), hT9.to hW (by rw [hU]; exact hH)⟩⟩ rfl hl.1 (Nat.le_of_ble_eq_true rfl) d_GL_measure_1 ⟨Nat.le_of_ble_eq_true rfl, Nat.le_of_ble_eq_true rfl⟩ hnoh hlocks
set_option maxHeartbeats 4000000 in
set_option maxRecDepth 100000 in
/-- GlyphLines.point -/
theorem c_GL_point (l : Launch) (hfl : l.flags = flags0) (dC : Nat → ClassId) (dI : Nat → Nat → Nat) (h0 qf a2 a3 a5 a6 a7 qx : Nat) (gl i wh : Int32) (sz : Nat) : th_Met l y_GL_point s_GL_point ({ frames := 10, cells := 1, slots := 6, locals := 300 }) (va_Pc [.ref h0, .int gl, .int i, .int wh] (fun U => U.heap.size = sz ∧ va_P (dC, dI) cls_ [(h0, .inr (9, [.ref qf, .int 0, .ref a2, .ref a3, .int 0, .ref a5, .ref a6, .ref a7, .ref qx, .int 0]))] U.heap ∧ va_K (dC, dI) cls_ [] U ∧ va_D (fun _ => True) [(h0, .inr (9, [.ref qf, .int 0, .ref a2, .ref a3, .int 0, .ref a5, .ref a6, .ref a7, .ref qx, .int 0]))] ∧ th_All U)) X_is 1 6 := by
  refine th_ofW (cc := b_GL_point) (maxL := 4) (ret := (some .int)) (by decide) rfl ?_
  intro p e s m args below meth c s₁ B hml hv
  obtain ⟨rfl, hsz, hP, hK, hD0, hT9⟩ := hv
  have hx := B.exec
  have hb := B.bytes
  have hts := atoms_spec (ws := s_GL_point) B.pre
  have hown : s.vm.findClass R_GL = some m.cls := findClass_of_methodNamed B.named
  have hlocks := B.notSynchronized
  have htr : e.platform.stackTraces = false := Launch.traces_off hfl B.admits
  have hnoh := B.noHandlers (hts _ List.mem_cons_self)
  obtain ⟨hT1, hT2, hT3, ⟨qs62, hz62⟩, ⟨qs72, hz72⟩, ⟨qs159, hz159⟩, ⟨qs151, hz151⟩⟩ := id hT9
  have hH : ∀ q : Nat, q < s.heap.size → s.heap[q]? = s.heap[q]? := fun _ _ => rfl
  subst hsz
  have hD := hD0.self (sz := s.heap.size)
  generalize hAe : va_A [(h0, .inr (9, [.ref qf, .int 0, .ref a2, .ref a3, .int 0, .ref a5, .ref a6, .ref a7, .ref qx, .int 0]))] s.heap.size = A at hD
  have hA : ∀ q : Nat, s.heap.size ≤ q → A q := fun q h => by rw [← hAe]; exact Or.inr h
  have hS : va_S A s.heap s.heap [] := va_S.rf
  have hP : va_P (dC, dI) cls_ [(h0, .inr (9, [.ref qf, .int 0, .ref a2, .ref a3, .int 0, .ref a5, .ref a6, .ref a7, .ref qx, .int 0]))] s.heap := hP
  have hl := lv_entry ([.ref h0, .int gl, .int i, .int wh]) (n := 4) (Nat.le_of_ble_eq_true rfl)
  rw [lg_entry_eq]
  generalize (lg_sl ([.ref h0, .int gl, .int i, .int wh]) ++ List.replicate (4 - (lg_sl ([.ref h0, .int gl, .int i, .int wh])).length) Slot.unset).toArray = ls at hl ⊢
  have hl : lv_has ls 4 [(0, .ref h0), (1, .int gl), (2, .int i), (3, .int wh)] := hl
  refine lv_aload_n hx hb d_GL_point_0 rfl (lv_at hl 0 rfl) ?_
  have hPc := hP.sub (ws' := [(h0, .inr (9, [.ref qf, .int 0, .ref a2, .ref a3, .int 0, .ref a5, .ref a6, .ref a7, .ref qx, .int 0]))]) [0] rfl
  have hDc := hD.sub (ws' := [(h0, .inr (9, [.ref qf, .int 0, .ref a2, .ref a3, .int 0, .ref a5, .ref a6, .ref a7, .ref qx, .int 0]))]) [0] (by decide) rfl
  have hKc := hK.sub (tys' := []) [] rfl
  have hFc := va_free (wc := [(h0, .inr (9, [.ref qf, .int 0, .ref a2, .ref a3, .int 0, .ref a5, .ref a6, .ref a7, .ref qx, .int 0]))]) hD hS hA [0] rfl
  exact th_passV (As := []) (rest := []) ⟨hx, hb, hml, hown, hts⟩ (c_GL_requireFont l hfl dC dI h0 qf a2 a3 a5 a6 a7 qx s.heap.size) (cwV 0 hts (tw_inV w_658 w_660 wp_22 w_1 w_661) rfl rfl rfl (by decide +kernel) ⟨Nat.le_of_ble_eq_true rfl, Nat.le_of_ble_eq_true rfl⟩) ⟨fun a U g mk q => by obtain ⟨q0, q1, qP, qK, qD, qE0⟩ := q; exact ⟨q0, q1, qP, va_K.moved (u := U) (U := U.calling g mk a) (Vm.Alike.refl U.vm) qK, qD, th_All.call qE0⟩, va_recv (hK := hK) (hP := hP) (q0 := 0) (ci := 9) rfl rfl, fun U hU hW => ⟨rfl, by rw [hU], by rw [hU]; exact hPc, va_K.moved hW.alike hKc, hDc.weaken (fun _ _ _ _ => trivial), hT9.to hW (by rw [hU]; exact hH)⟩⟩ rfl hl.1 (Nat.le_of_ble_eq_true rfl) d_GL_point_1 ⟨Nat.le_of_ble_eq_true rfl, Nat.le_of_ble_eq_true rfl⟩ hnoh hlocks
set_option maxHeartbeats 4000000 in
set_option maxRecDepth 100000 in
/-- GlyphLines.kerning -/
theorem c_GL_kerning (l : Launch) (hfl : l.flags = flags0) (dC : Nat → ClassId) (dI : Nat → Nat → Nat) (h0 qf a2 a3 a5 a6 a7 qx : Nat) (le ri : Int32) (sz : Nat) : th_Met l y_GL_kerning s_GL_kerning ({ frames := 10, cells := 1, slots := 6, locals := 300 }) (va_Pc [.ref h0, .int le, .int ri] (fun U => U.heap.size = sz ∧ va_P (dC, dI) cls_ [(h0, .inr (9, [.ref qf, .int 0, .ref a2, .ref a3, .int 0, .ref a5, .ref a6, .ref a7, .ref qx, .int 0]))] U.heap ∧ va_K (dC, dI) cls_ [] U ∧ va_D (fun _ => True) [(h0, .inr (9, [.ref qf, .int 0, .ref a2, .ref a3, .int 0, .ref a5, .ref a6, .ref a7, .ref qx, .int 0]))] ∧ th_All U)) X_is 1 6 := by
  refine th_ofW (cc := b_GL_kerning) (maxL := 3) (ret := (some .int)) (by decide) rfl ?_
  intro p e s m args below meth c s₁ B hml hv
  obtain ⟨rfl, hsz, hP, hK, hD0, hT9⟩ := hv
  have hx := B.exec
  have hb := B.bytes
  have hts := atoms_spec (ws := s_GL_kerning) B.pre
  have hown : s.vm.findClass R_GL = some m.cls := findClass_of_methodNamed B.named
  have hlocks := B.notSynchronized
  have htr : e.platform.stackTraces = false := Launch.traces_off hfl B.admits
  have hnoh := B.noHandlers (hts _ List.mem_cons_self)
  obtain ⟨hT1, hT2, hT3, ⟨qs62, hz62⟩, ⟨qs72, hz72⟩, ⟨qs159, hz159⟩, ⟨qs151, hz151⟩⟩ := id hT9
  have hH : ∀ q : Nat, q < s.heap.size → s.heap[q]? = s.heap[q]? := fun _ _ => rfl
  subst hsz
  have hD := hD0.self (sz := s.heap.size)
  generalize hAe : va_A [(h0, .inr (9, [.ref qf, .int 0, .ref a2, .ref a3, .int 0, .ref a5, .ref a6, .ref a7, .ref qx, .int 0]))] s.heap.size = A at hD
  have hA : ∀ q : Nat, s.heap.size ≤ q → A q := fun q h => by rw [← hAe]; exact Or.inr h
  have hS : va_S A s.heap s.heap [] := va_S.rf
  have hP : va_P (dC, dI) cls_ [(h0, .inr (9, [.ref qf, .int 0, .ref a2, .ref a3, .int 0, .ref a5, .ref a6, .ref a7, .ref qx, .int 0]))] s.heap := hP
  have hl := lv_entry ([.ref h0, .int le, .int ri]) (n := 3) (Nat.le_of_ble_eq_true rfl)
  rw [lg_entry_eq]
  generalize (lg_sl ([.ref h0, .int le, .int ri]) ++ List.replicate (3 - (lg_sl ([.ref h0, .int le, .int ri])).length) Slot.unset).toArray = ls at hl ⊢
  have hl : lv_has ls 3 [(0, .ref h0), (1, .int le), (2, .int ri)] := hl
  refine lv_aload_n hx hb d_GL_kerning_0 rfl (lv_at hl 0 rfl) ?_
  have hPc := hP.sub (ws' := [(h0, .inr (9, [.ref qf, .int 0, .ref a2, .ref a3, .int 0, .ref a5, .ref a6, .ref a7, .ref qx, .int 0]))]) [0] rfl
  have hDc := hD.sub (ws' := [(h0, .inr (9, [.ref qf, .int 0, .ref a2, .ref a3, .int 0, .ref a5, .ref a6, .ref a7, .ref qx, .int 0]))]) [0] (by decide) rfl
  have hKc := hK.sub (tys' := []) [] rfl
  have hFc := va_free (wc := [(h0, .inr (9, [.ref qf, .int 0, .ref a2, .ref a3, .int 0, .ref a5, .ref a6, .ref a7, .ref qx, .int 0]))]) hD hS hA [0] rfl
  exact th_passV (As := []) (rest := []) ⟨hx, hb, hml, hown, hts⟩ (c_GL_requireFont l hfl dC dI h0 qf a2 a3 a5 a6 a7 qx s.heap.size) (cwV 0 hts (tw_inV w_658 w_660 wp_22 w_1 w_661) rfl rfl rfl (by decide +kernel) ⟨Nat.le_of_ble_eq_true rfl, Nat.le_of_ble_eq_true rfl⟩) ⟨fun a U g mk q => by obtain ⟨q0, q1, qP, qK, qD, qE0⟩ := q; exact ⟨q0, q1, qP, va_K.moved (u := U) (U := U.calling g mk a) (Vm.Alike.refl U.vm) qK, qD, th_All.call qE0⟩, va_recv (hK := hK) (hP := hP) (q0 := 0) (ci := 9) rfl rfl, fun U hU hW => ⟨rfl, by rw [hU], by rw [hU]; exact hPc, va_K.moved hW.alike hKc, hDc.weaken (fun _ _ _ _ => trivial), hT9.to hW (by rw [hU]; exact hH)⟩⟩ rfl hl.1 (Nat.le_of_ble_eq_true rfl) d_GL_kerning_1 ⟨Nat.le_of_ble_eq_true rfl, Nat.le_of_ble_eq_true rfl⟩ hnoh hlocks
set_option maxHeartbeats 4000000 in
set_option maxRecDepth 100000 in
/-- GlyphLines.paint -/
theorem c_GL_paint (l : Launch) (hfl : l.flags = flags0) (dC : Nat → ClassId) (dI : Nat → Nat → Nat) (h0 qf a2 a3 a5 a6 a7 qx : Nat) (pp : Int32) (sz : Nat) : th_Met l y_GL_paint s_GL_paint ({ frames := 10, cells := 1, slots := 6, locals := 300 }) (va_Pc [.ref h0, .int pp] (fun U => U.heap.size = sz ∧ va_P (dC, dI) cls_ [(h0, .inr (9, [.ref qf, .int 0, .ref a2, .ref a3, .int 0, .ref a5, .ref a6, .ref a7, .ref qx, .int 0]))] U.heap ∧ va_K (dC, dI) cls_ [] U ∧ va_D (fun _ => True) [(h0, .inr (9, [.ref qf, .int 0, .ref a2, .ref a3, .int 0, .ref a5, .ref a6, .ref a7, .ref qx, .int 0]))] ∧ th_All U)) X_is 1 6 := by
  refine th_ofW (cc := b_GL_paint) (maxL := 3) (ret := (some .int)) (by decide) rfl ?_
  intro p e s m args below meth c s₁ B hml hv
  obtain ⟨rfl, hsz, hP, hK, hD0, hT9⟩ := hv
  have hx := B.exec
  have hb := B.bytes
  have hts := atoms_spec (ws := s_GL_paint) B.pre
  have hown : s.vm.findClass R_GL = some m.cls := findClass_of_methodNamed B.named
  have hlocks := B.notSynchronized
  have htr : e.platform.stackTraces = false := Launch.traces_off hfl B.admits
  have hnoh := B.noHandlers (hts _ List.mem_cons_self)
  obtain ⟨hT1, hT2, hT3, ⟨qs62, hz62⟩, ⟨qs72, hz72⟩, ⟨qs159, hz159⟩, ⟨qs151, hz151⟩⟩ := id hT9
  have hH : ∀ q : Nat, q < s.heap.size → s.heap[q]? = s.heap[q]? := fun _ _ => rfl
  subst hsz
  have hD := hD0.self (sz := s.heap.size)
  generalize hAe : va_A [(h0, .inr (9, [.ref qf, .int 0, .ref a2, .ref a3, .int 0, .ref a5, .ref a6, .ref a7, .ref qx, .int 0]))] s.heap.size = A at hD
  have hA : ∀ q : Nat, s.heap.size ≤ q → A q := fun q h => by rw [← hAe]; exact Or.inr h
  have hS : va_S A s.heap s.heap [] := va_S.rf
  have hP : va_P (dC, dI) cls_ [(h0, .inr (9, [.ref qf, .int 0, .ref a2, .ref a3, .int 0, .ref a5, .ref a6, .ref a7, .ref qx, .int 0]))] s.heap := hP
  have hl := lv_entry ([.ref h0, .int pp]) (n := 3) (Nat.le_of_ble_eq_true rfl)
  rw [lg_entry_eq]
  generalize (lg_sl ([.ref h0, .int pp]) ++ List.replicate (3 - (lg_sl ([.ref h0, .int pp])).length) Slot.unset).toArray = ls at hl ⊢
  have hl : lv_has ls 3 [(0, .ref h0), (1, .int pp)] := hl
  refine lv_aload_n hx hb d_GL_paint_0 rfl (lv_at hl 0 rfl) ?_
  have hPc := hP.sub (ws' := [(h0, .inr (9, [.ref qf, .int 0, .ref a2, .ref a3, .int 0, .ref a5, .ref a6, .ref a7, .ref qx, .int 0]))]) [0] rfl
  have hDc := hD.sub (ws' := [(h0, .inr (9, [.ref qf, .int 0, .ref a2, .ref a3, .int 0, .ref a5, .ref a6, .ref a7, .ref qx, .int 0]))]) [0] (by decide) rfl
  have hKc := hK.sub (tys' := []) [] rfl
  have hFc := va_free (wc := [(h0, .inr (9, [.ref qf, .int 0, .ref a2, .ref a3, .int 0, .ref a5, .ref a6, .ref a7, .ref qx, .int 0]))]) hD hS hA [0] rfl
  exact th_passV (As := []) (rest := []) ⟨hx, hb, hml, hown, hts⟩ (c_GL_requireFont l hfl dC dI h0 qf a2 a3 a5 a6 a7 qx s.heap.size) (cwV 0 hts (tw_inV w_658 w_660 wp_22 w_1 w_661) rfl rfl rfl (by decide +kernel) ⟨Nat.le_of_ble_eq_true rfl, Nat.le_of_ble_eq_true rfl⟩) ⟨fun a U g mk q => by obtain ⟨q0, q1, qP, qK, qD, qE0⟩ := q; exact ⟨q0, q1, qP, va_K.moved (u := U) (U := U.calling g mk a) (Vm.Alike.refl U.vm) qK, qD, th_All.call qE0⟩, va_recv (hK := hK) (hP := hP) (q0 := 0) (ci := 9) rfl rfl, fun U hU hW => ⟨rfl, by rw [hU], by rw [hU]; exact hPc, va_K.moved hW.alike hKc, hDc.weaken (fun _ _ _ _ => trivial), hT9.to hW (by rw [hU]; exact hH)⟩⟩ rfl hl.1 (Nat.le_of_ble_eq_true rfl) d_GL_paint_1 ⟨Nat.le_of_ble_eq_true rfl, Nat.le_of_ble_eq_true rfl⟩ hnoh hlocks
set_option maxHeartbeats 4000000 in
set_option maxRecDepth 100000 in
/-- GlyphLines.put -/
theorem c_GL_put (l : Launch) (hfl : l.flags = flags0) (dC : Nat → ClassId) (dI : Nat → Nat → Nat) (h0 qf a2 a3 a5 a6 a7 qx : Nat) (i b : Int32) (sz : Nat) : th_Met l y_GL_put s_GL_put ({ frames := 8, cells := 1, slots := 6, locals := 200 }) (va_Pc [.ref h0, .int i, .int b] (fun U => U.heap.size = sz ∧ va_P (dC, dI) cls_ [(h0, .inr (9, [.ref qf, .int 0, .ref a2, .ref a3, .int 0, .ref a5, .ref a6, .ref a7, .ref qx, .int 0]))] U.heap ∧ va_K (dC, dI) cls_ [] U ∧ va_D (fun _ => True) [(h0, .inr (9, [.ref qf, .int 0, .ref a2, .ref a3, .int 0, .ref a5, .ref a6, .ref a7, .ref qx, .int 0]))] ∧ th_All U)) X_io 1 6 := by
  refine th_ofW (cc := b_GL_put) (maxL := 4) (ret := (some .int)) (by decide) rfl ?_
  intro p e s m args below meth c s₁ B hml hv
  obtain ⟨rfl, hsz, hP, hK, hD0, hT9⟩ := hv
  have hx := B.exec
  have hb := B.bytes
  have hts := atoms_spec (ws := s_GL_put) B.pre
  have hown : s.vm.findClass R_GL = some m.cls := findClass_of_methodNamed B.named
  have hlocks := B.notSynchronized
  have htr : e.platform.stackTraces = false := Launch.traces_off hfl B.admits
  have hnoh := B.noHandlers (hts _ List.mem_cons_self)
  obtain ⟨hT1, hT2, hT3, ⟨qs62, hz62⟩, ⟨qs72, hz72⟩, ⟨qs159, hz159⟩, ⟨qs151, hz151⟩⟩ := id hT9
  have hH : ∀ q : Nat, q < s.heap.size → s.heap[q]? = s.heap[q]? := fun _ _ => rfl
  subst hsz
  have hD := hD0.self (sz := s.heap.size)
  generalize hAe : va_A [(h0, .inr (9, [.ref qf, .int 0, .ref a2, .ref a3, .int 0, .ref a5, .ref a6, .ref a7, .ref qx, .int 0]))] s.heap.size = A at hD
  have hA : ∀ q : Nat, s.heap.size ≤ q → A q := fun q h => by rw [← hAe]; exact Or.inr h
  have hS : va_S A s.heap s.heap [] := va_S.rf
  have hP : va_P (dC, dI) cls_ [(h0, .inr (9, [.ref qf, .int 0, .ref a2, .ref a3, .int 0, .ref a5, .ref a6, .ref a7, .ref qx, .int 0]))] s.heap := hP
  have hl := lv_entry ([.ref h0, .int i, .int b]) (n := 4) (Nat.le_of_ble_eq_true rfl)
  rw [lg_entry_eq]
  generalize (lg_sl ([.ref h0, .int i, .int b]) ++ List.replicate (4 - (lg_sl ([.ref h0, .int i, .int b])).length) Slot.unset).toArray = ls at hl ⊢
  have hl : lv_has ls 4 [(0, .ref h0), (1, .int i), (2, .int b)] := hl
  refine lv_iload_n hx hb d_GL_put_0 rfl (lv_at hl 1 rfl) ?_
  refine lv_if_lt (tgt := 12) hx hb d_GL_put_1 (by decide) (fun hc136 => ?_) (fun hc136 => ?_)
  · skip
    exact th_throwS (names := th_nm) (tx := "no such byte") hx htr hb (by rw [hml]; exact hl.1.symm) hown (by decide +kernel) (by decide +kernel) (hT1 _) (hts _ (List.mem_cons_of_mem _ w_557)) (hts _ (List.mem_cons_of_mem _ w_15)) hz62 hnoh hlocks d_GL_put_12 d_GL_put_15 d_GL_put_16 d_GL_put_18 d_GL_put_21 (Nat.le_of_ble_eq_true rfl) (Nat.le_of_ble_eq_true rfl) (Nat.le_of_ble_eq_true rfl) (Nat.le_of_ble_eq_true rfl)
  · skip
    refine lv_iload_n hx hb d_GL_put_4 rfl (lv_at hl 1 rfl) ?_
    refine lv_aload_n hx hb d_GL_put_5 rfl (lv_at hl 0 rfl) ?_
    refine va_get (D := (dC, dI)) (ci := 9) (v := .int 0) (C := R_GL) (T := F_GL) (N := 10) hx hb hts in_GL hown hK hP 0 rfl rfl 1 (by decide) (hts _ (List.mem_cons_of_mem _ w_288)) (fun _ h9 => h9) rfl d_GL_put_6 ?_
    refine lv_icmp_lt (tgt := 22) hx hb d_GL_put_9 (by decide) (fun hc137 => ?_) (fun hc137 => ?_)
    · skip
      exact absurd hc137 hc136
    · skip
      exact th_throwS (names := th_nm) (tx := "no such byte") hx htr hb (by rw [hml]; exact hl.1.symm) hown (by decide +kernel) (by decide +kernel) (hT1 _) (hts _ (List.mem_cons_of_mem _ w_557)) (hts _ (List.mem_cons_of_mem _ w_15)) hz62 hnoh hlocks d_GL_put_12 d_GL_put_15 d_GL_put_16 d_GL_put_18 d_GL_put_21 (Nat.le_of_ble_eq_true rfl) (Nat.le_of_ble_eq_true rfl) (Nat.le_of_ble_eq_true rfl) (Nat.le_of_ble_eq_true rfl)
set_option maxHeartbeats 4000000 in
set_option maxRecDepth 100000 in
/-- GlyphLines.cut -/
theorem c_GL_cut_t (l : Launch) (hfl : l.flags = flags0) (dC : Nat → ClassId) (dI : Nat → Nat → Nat) (h0 qf a2 a3 a5 a6 a7 qx : Nat) (many : Int32) (sz : Nat) (hm : many < 0) : th_Met l y_GL_cut s_GL_cut ({ frames := 8, cells := 1, slots := 6, locals := 200 }) (va_Pc [.ref h0, .int many] (fun U => U.heap.size = sz ∧ va_P (dC, dI) cls_ [(h0, .inr (9, [.ref qf, .int 0, .ref a2, .ref a3, .int 0, .ref a5, .ref a6, .ref a7, .ref qx, .int 0]))] U.heap ∧ va_K (dC, dI) cls_ [] U ∧ va_D (fun _ => True) [(h0, .inr (9, [.ref qf, .int 0, .ref a2, .ref a3, .int 0, .ref a5, .ref a6, .ref a7, .ref qx, .int 0]))] ∧ th_All U)) X_ia 1 6 := by
  refine th_ofW (cc := b_GL_cut) (maxL := 4) (ret := (some .int)) (by decide) rfl ?_
  intro p e s m args below meth c s₁ B hml hv
  obtain ⟨rfl, hsz, hP, hK, hD0, hT9⟩ := hv
  have hx := B.exec
  have hb := B.bytes
  have hts := atoms_spec (ws := s_GL_cut) B.pre
  have hown : s.vm.findClass R_GL = some m.cls := findClass_of_methodNamed B.named
  have hlocks := B.notSynchronized
  have htr : e.platform.stackTraces = false := Launch.traces_off hfl B.admits
  have hnoh := B.noHandlers (hts _ List.mem_cons_self)
  obtain ⟨hT1, hT2, hT3, ⟨qs62, hz62⟩, ⟨qs72, hz72⟩, ⟨qs159, hz159⟩, ⟨qs151, hz151⟩⟩ := id hT9
  have hH : ∀ q : Nat, q < s.heap.size → s.heap[q]? = s.heap[q]? := fun _ _ => rfl
  subst hsz
  have hD := hD0.self (sz := s.heap.size)
  generalize hAe : va_A [(h0, .inr (9, [.ref qf, .int 0, .ref a2, .ref a3, .int 0, .ref a5, .ref a6, .ref a7, .ref qx, .int 0]))] s.heap.size = A at hD
  have hA : ∀ q : Nat, s.heap.size ≤ q → A q := fun q h => by rw [← hAe]; exact Or.inr h
  have hS : va_S A s.heap s.heap [] := va_S.rf
  have hP : va_P (dC, dI) cls_ [(h0, .inr (9, [.ref qf, .int 0, .ref a2, .ref a3, .int 0, .ref a5, .ref a6, .ref a7, .ref qx, .int 0]))] s.heap := hP
  have hl := lv_entry ([.ref h0, .int many]) (n := 4) (Nat.le_of_ble_eq_true rfl)
  rw [lg_entry_eq]
  generalize (lg_sl ([.ref h0, .int many]) ++ List.replicate (4 - (lg_sl ([.ref h0, .int many])).length) Slot.unset).toArray = ls at hl ⊢
  have hl : lv_has ls 4 [(0, .ref h0), (1, .int many)] := hl
  refine lv_iload_n hx hb d_GL_cut_0 rfl (lv_at hl 1 rfl) ?_
  refine lv_if_ge (tgt := 14) hx hb d_GL_cut_1 (by decide) (fun hc138 => ?_) (fun hc138 => ?_)
  · skip
    exact absurd hm (Int32.not_lt.mpr hc138)
  · skip
    exact th_throwS (names := th_nm) (tx := "fewer than no bytes") hx htr hb (by rw [hml]; exact hl.1.symm) hown (by decide +kernel) (by decide +kernel) (hT2 _) (hts _ (List.mem_cons_of_mem _ w_625)) (hts _ (List.mem_cons_of_mem _ w_16)) hz72 hnoh hlocks d_GL_cut_4 d_GL_cut_7 d_GL_cut_8 d_GL_cut_10 d_GL_cut_13 (Nat.le_of_ble_eq_true rfl) (Nat.le_of_ble_eq_true rfl) (Nat.le_of_ble_eq_true rfl) (Nat.le_of_ble_eq_true rfl)
set_option maxHeartbeats 4000000 in
set_option maxRecDepth 100000 in
/-- GlyphLines.row -/
theorem c_GL_row_t (l : Launch) (hfl : l.flags = flags0) (dC : Nat → ClassId) (dI : Nat → Nat → Nat) (h0 qf a2 a3 a5 a6 a7 qx : Nat) (r : Int32) (sz : Nat) (hm : r < 0 ∨ ¬ r < 24) : th_Met l y_GL_row s_GL_row ({ frames := 8, cells := 1, slots := 6, locals := 200 }) (va_Pc [.ref h0, .int r] (fun U => U.heap.size = sz ∧ va_P (dC, dI) cls_ [(h0, .inr (9, [.ref qf, .int 0, .ref a2, .ref a3, .int 0, .ref a5, .ref a6, .ref a7, .ref qx, .int 0]))] U.heap ∧ va_K (dC, dI) cls_ [] U ∧ va_D (fun _ => True) [(h0, .inr (9, [.ref qf, .int 0, .ref a2, .ref a3, .int 0, .ref a5, .ref a6, .ref a7, .ref qx, .int 0]))] ∧ th_All U)) X_io 1 6 := by
  refine th_ofW (cc := b_GL_row) (maxL := 2) (ret := (some .long)) (by decide) rfl ?_
  intro p e s m args below meth c s₁ B hml hv
  obtain ⟨rfl, hsz, hP, hK, hD0, hT9⟩ := hv
  have hx := B.exec
  have hb := B.bytes
  have hts := atoms_spec (ws := s_GL_row) B.pre
  have hown : s.vm.findClass R_GL = some m.cls := findClass_of_methodNamed B.named
  have hlocks := B.notSynchronized
  have htr : e.platform.stackTraces = false := Launch.traces_off hfl B.admits
  have hnoh := B.noHandlers (hts _ List.mem_cons_self)
  obtain ⟨hT1, hT2, hT3, ⟨qs62, hz62⟩, ⟨qs72, hz72⟩, ⟨qs159, hz159⟩, ⟨qs151, hz151⟩⟩ := id hT9
  have hH : ∀ q : Nat, q < s.heap.size → s.heap[q]? = s.heap[q]? := fun _ _ => rfl
  subst hsz
  have hD := hD0.self (sz := s.heap.size)
  generalize hAe : va_A [(h0, .inr (9, [.ref qf, .int 0, .ref a2, .ref a3, .int 0, .ref a5, .ref a6, .ref a7, .ref qx, .int 0]))] s.heap.size = A at hD
  have hA : ∀ q : Nat, s.heap.size ≤ q → A q := fun q h => by rw [← hAe]; exact Or.inr h
  have hS : va_S A s.heap s.heap [] := va_S.rf
  have hP : va_P (dC, dI) cls_ [(h0, .inr (9, [.ref qf, .int 0, .ref a2, .ref a3, .int 0, .ref a5, .ref a6, .ref a7, .ref qx, .int 0]))] s.heap := hP
  have hl := lv_entry ([.ref h0, .int r]) (n := 2) (Nat.le_of_ble_eq_true rfl)
  rw [lg_entry_eq]
  generalize (lg_sl ([.ref h0, .int r]) ++ List.replicate (2 - (lg_sl ([.ref h0, .int r])).length) Slot.unset).toArray = ls at hl ⊢
  have hl : lv_has ls 2 [(0, .ref h0), (1, .int r)] := hl
  refine lv_iload_n hx hb d_GL_row_0 rfl (lv_at hl 1 rfl) ?_
  refine lv_if_lt (tgt := 10) hx hb d_GL_row_1 (by decide) (fun hc139 => ?_) (fun hc139 => ?_)
  · skip
    exact th_throwS (names := th_nm) (tx := "no such row") hx htr hb (by rw [hml]; exact hl.1.symm) hown (by decide +kernel) (by decide +kernel) (hT1 _) (hts _ (List.mem_cons_of_mem _ w_557)) (hts _ (List.mem_cons_of_mem _ w_15)) hz151 hnoh hlocks d_GL_row_10 d_GL_row_13 d_GL_row_14 d_GL_row_16 d_GL_row_19 (Nat.le_of_ble_eq_true rfl) (Nat.le_of_ble_eq_true rfl) (Nat.le_of_ble_eq_true rfl) (Nat.le_of_ble_eq_true rfl)
  · skip
    refine lv_iload_n hx hb d_GL_row_4 rfl (lv_at hl 1 rfl) ?_
    refine lv_bipush (v := 24) hx hb d_GL_row_5 (by decide) ?_
    refine lv_icmp_lt (tgt := 20) hx hb d_GL_row_7 (by decide) (fun hc140 => ?_) (fun hc140 => ?_)
    · skip
      exact hm.elim (fun z => absurd z hc139) (fun z => absurd hc140 z)
    · skip
      exact th_throwS (names := th_nm) (tx := "no such row") hx htr hb (by rw [hml]; exact hl.1.symm) hown (by decide +kernel) (by decide +kernel) (hT1 _) (hts _ (List.mem_cons_of_mem _ w_557)) (hts _ (List.mem_cons_of_mem _ w_15)) hz151 hnoh hlocks d_GL_row_10 d_GL_row_13 d_GL_row_14 d_GL_row_16 d_GL_row_19 (Nat.le_of_ble_eq_true rfl) (Nat.le_of_ble_eq_true rfl) (Nat.le_of_ble_eq_true rfl) (Nat.le_of_ble_eq_true rfl)
