abbrev b_SP_lay : ByteArray := prog_10_method_2_code
def y_SP_lay : MethodName := ⟨R_SP, "lay", "(II)V"⟩
def s_SP_lay : List Cond := .code y_SP_lay b_SP_lay 3 none :: tw_T
abbrev b_SP_holds : ByteArray := prog_10_method_3_code
def y_SP_holds : MethodName := ⟨R_SP, "holds", "(JJ)Z"⟩
def s_SP_holds : List Cond := .code y_SP_holds b_SP_holds 5 (some .boolean) :: tw_T
abbrev b_SP_u8 : ByteArray := prog_10_method_4_code
def y_SP_u8 : MethodName := ⟨R_SP, "u8", "(I)I"⟩
def s_SP_u8 : List Cond := .code y_SP_u8 b_SP_u8 2 (some .int) :: tw_T
abbrev b_SP_u16 : ByteArray := prog_10_method_5_code
def y_SP_u16 : MethodName := ⟨R_SP, "u16", "(I)I"⟩
def s_SP_u16 : List Cond := .code y_SP_u16 b_SP_u16 2 (some .int) :: tw_T
theorem w_17 : (Jvm.Cond.initialized "java/lang/Math") ∈ tw_T := tw_of 17 (by decide +kernel) (by decide +kernel)
theorem w_48 : (Jvm.Cond.fieldLink "GlyphLines$Span" (20 : Nat) "GlyphLines$Span" "cells" "[I") ∈ tw_T := tw_of 48 (by decide +kernel) (by decide +kernel)
theorem w_49 : (Jvm.Cond.fieldLink "GlyphLines$Span" (7 : Nat) "GlyphLines$Span" "start" "I") ∈ tw_T := tw_of 49 (by decide +kernel) (by decide +kernel)
theorem w_51 : (Jvm.Cond.fieldLink "GlyphLines$Span" (13 : Nat) "GlyphLines$Span" "size" "I") ∈ tw_T := tw_of 51 (by decide +kernel) (by decide +kernel)
theorem w_55 : (Jvm.Cond.fieldLink "GlyphLines$Span" (16 : Nat) "GlyphLines$Span" "missed" "Z") ∈ tw_T := tw_of 55 (by decide +kernel) (by decide +kernel)
theorem w_335 : (Jvm.Cond.static ({ cls := "java/lang/Math", name := "min", desc := "(II)I" } : Jvm.MethodName)) ∈ tw_T := tw_of 335 (by decide +kernel) (by decide +kernel)
theorem w_336 : (Jvm.Cond.code ({ cls := "java/lang/Math", name := "min", desc := "(II)I" } : Jvm.MethodName) prog_18_method_69_code (2 : Nat) (Option.some Jvm.ClassFile.FieldType.int)) ∈ tw_T := tw_of 336 (by decide +kernel) (by decide +kernel)
theorem w_348 : (Jvm.Cond.methodLink "GlyphLines$Span" (24 : Nat) ({ cls := "java/lang/Math", name := "min", desc := "(II)I" } : Jvm.MethodName)) ∈ tw_T := tw_of 348 (by decide +kernel) (by decide +kernel)
theorem w_349 : (Jvm.Cond.methodLink "GlyphLines$Span" (30 : Nat) ({ cls := "java/lang/Math", name := "max", desc := "(II)I" } : Jvm.MethodName)) ∈ tw_T := tw_of 349 (by decide +kernel) (by decide +kernel)
theorem w_350 : (Jvm.Cond.static ({ cls := "java/lang/Math", name := "max", desc := "(II)I" } : Jvm.MethodName)) ∈ tw_T := tw_of 350 (by decide +kernel) (by decide +kernel)
theorem w_351 : (Jvm.Cond.code ({ cls := "java/lang/Math", name := "max", desc := "(II)I" } : Jvm.MethodName) prog_18_method_65_code (2 : Nat) (Option.some Jvm.ClassFile.FieldType.int)) ∈ tw_T := tw_of 351 (by decide +kernel) (by decide +kernel)
theorem d_SP_holds_0 : decode b_SP_holds 0 = .ok (.lload_n 1, 1) := by decide +kernel
theorem d_SP_holds_1 : decode b_SP_holds 1 = .ok (.lconst 0, 1) := by decide +kernel
theorem d_SP_holds_10 : decode b_SP_holds 10 = .ok (.getfield 13, 3) := by decide +kernel
theorem d_SP_holds_13 : decode b_SP_holds 13 = .ok (.i2l, 1) := by decide +kernel
theorem d_SP_holds_14 : decode b_SP_holds 14 = .ok (.lcmp, 1) := by decide +kernel
theorem d_SP_holds_15 : decode b_SP_holds 15 = .ok (.ifCond .gt (7), 3) := by decide +kernel
theorem d_SP_holds_18 : decode b_SP_holds 18 = .ok (.iconst 1, 1) := by decide +kernel
theorem d_SP_holds_19 : decode b_SP_holds 19 = .ok (.goto (4), 3) := by decide +kernel
theorem d_SP_holds_2 : decode b_SP_holds 2 = .ok (.lcmp, 1) := by decide +kernel
theorem d_SP_holds_22 : decode b_SP_holds 22 = .ok (.iconst 0, 1) := by decide +kernel
theorem d_SP_holds_23 : decode b_SP_holds 23 = .ok (.ireturn, 1) := by decide +kernel
theorem d_SP_holds_3 : decode b_SP_holds 3 = .ok (.ifCond .lt (19), 3) := by decide +kernel
theorem d_SP_holds_6 : decode b_SP_holds 6 = .ok (.lload_n 1, 1) := by decide +kernel
theorem d_SP_holds_7 : decode b_SP_holds 7 = .ok (.lload_n 3, 1) := by decide +kernel
theorem d_SP_holds_8 : decode b_SP_holds 8 = .ok (.ladd, 1) := by decide +kernel
theorem d_SP_holds_9 : decode b_SP_holds 9 = .ok (.aload_n 0, 1) := by decide +kernel
theorem d_SP_lay_0 : decode b_SP_lay 0 = .ok (.aload_n 0, 1) := by decide +kernel
theorem d_SP_lay_1 : decode b_SP_lay 1 = .ok (.iconst 0, 1) := by decide +kernel
theorem d_SP_lay_11 : decode b_SP_lay 11 = .ok (.invokestatic 30, 3) := by decide +kernel
theorem d_SP_lay_14 : decode b_SP_lay 14 = .ok (.putfield 7, 3) := by decide +kernel
theorem d_SP_lay_17 : decode b_SP_lay 17 = .ok (.aload_n 0, 1) := by decide +kernel
theorem d_SP_lay_18 : decode b_SP_lay 18 = .ok (.iconst 0, 1) := by decide +kernel
theorem d_SP_lay_19 : decode b_SP_lay 19 = .ok (.iload_n 2, 1) := by decide +kernel
theorem d_SP_lay_2 : decode b_SP_lay 2 = .ok (.iload_n 1, 1) := by decide +kernel
theorem d_SP_lay_20 : decode b_SP_lay 20 = .ok (.aload_n 0, 1) := by decide +kernel
theorem d_SP_lay_21 : decode b_SP_lay 21 = .ok (.getfield 20, 3) := by decide +kernel
theorem d_SP_lay_24 : decode b_SP_lay 24 = .ok (.arraylength, 1) := by decide +kernel
theorem d_SP_lay_25 : decode b_SP_lay 25 = .ok (.aload_n 0, 1) := by decide +kernel
theorem d_SP_lay_26 : decode b_SP_lay 26 = .ok (.getfield 7, 3) := by decide +kernel
theorem d_SP_lay_29 : decode b_SP_lay 29 = .ok (.isub, 1) := by decide +kernel
theorem d_SP_lay_3 : decode b_SP_lay 3 = .ok (.aload_n 0, 1) := by decide +kernel
theorem d_SP_lay_30 : decode b_SP_lay 30 = .ok (.invokestatic 24, 3) := by decide +kernel
theorem d_SP_lay_33 : decode b_SP_lay 33 = .ok (.invokestatic 30, 3) := by decide +kernel
theorem d_SP_lay_36 : decode b_SP_lay 36 = .ok (.putfield 13, 3) := by decide +kernel
theorem d_SP_lay_39 : decode b_SP_lay 39 = .ok (.aload_n 0, 1) := by decide +kernel
theorem d_SP_lay_4 : decode b_SP_lay 4 = .ok (.getfield 20, 3) := by decide +kernel
theorem d_SP_lay_40 : decode b_SP_lay 40 = .ok (.iconst 0, 1) := by decide +kernel
theorem d_SP_lay_41 : decode b_SP_lay 41 = .ok (.putfield 16, 3) := by decide +kernel
theorem d_SP_lay_44 : decode b_SP_lay 44 = .ok (.return_, 1) := by decide +kernel
theorem d_SP_lay_7 : decode b_SP_lay 7 = .ok (.arraylength, 1) := by decide +kernel
theorem d_SP_lay_8 : decode b_SP_lay 8 = .ok (.invokestatic 24, 3) := by decide +kernel
theorem d_SP_u16_0 : decode b_SP_u16 0 = .ok (.iload_n 1, 1) := by decide +kernel
theorem d_SP_u16_1 : decode b_SP_u16 1 = .ok (.ifCond .lt (13), 3) := by decide +kernel
theorem d_SP_u16_10 : decode b_SP_u16 10 = .ok (.isub, 1) := by decide +kernel
theorem d_SP_u16_11 : decode b_SP_u16 11 = .ok (.if_icmp .lt (10), 3) := by decide +kernel
theorem d_SP_u16_14 : decode b_SP_u16 14 = .ok (.aload_n 0, 1) := by decide +kernel
theorem d_SP_u16_15 : decode b_SP_u16 15 = .ok (.iconst 1, 1) := by decide +kernel
theorem d_SP_u16_16 : decode b_SP_u16 16 = .ok (.putfield 16, 3) := by decide +kernel
theorem d_SP_u16_19 : decode b_SP_u16 19 = .ok (.iconst 0, 1) := by decide +kernel
theorem d_SP_u16_20 : decode b_SP_u16 20 = .ok (.ireturn, 1) := by decide +kernel
theorem d_SP_u16_21 : decode b_SP_u16 21 = .ok (.aload_n 0, 1) := by decide +kernel
theorem d_SP_u16_22 : decode b_SP_u16 22 = .ok (.getfield 20, 3) := by decide +kernel
theorem d_SP_u16_25 : decode b_SP_u16 25 = .ok (.aload_n 0, 1) := by decide +kernel
theorem d_SP_u16_26 : decode b_SP_u16 26 = .ok (.getfield 7, 3) := by decide +kernel
theorem d_SP_u16_29 : decode b_SP_u16 29 = .ok (.iload_n 1, 1) := by decide +kernel
theorem d_SP_u16_30 : decode b_SP_u16 30 = .ok (.iadd, 1) := by decide +kernel
theorem d_SP_u16_31 : decode b_SP_u16 31 = .ok (.iaload, 1) := by decide +kernel
theorem d_SP_u16_32 : decode b_SP_u16 32 = .ok (.bipush 8, 2) := by decide +kernel
theorem d_SP_u16_34 : decode b_SP_u16 34 = .ok (.ishl, 1) := by decide +kernel
theorem d_SP_u16_35 : decode b_SP_u16 35 = .ok (.aload_n 0, 1) := by decide +kernel
theorem d_SP_u16_36 : decode b_SP_u16 36 = .ok (.getfield 20, 3) := by decide +kernel
theorem d_SP_u16_39 : decode b_SP_u16 39 = .ok (.aload_n 0, 1) := by decide +kernel
theorem d_SP_u16_4 : decode b_SP_u16 4 = .ok (.iload_n 1, 1) := by decide +kernel
theorem d_SP_u16_40 : decode b_SP_u16 40 = .ok (.getfield 7, 3) := by decide +kernel
theorem d_SP_u16_43 : decode b_SP_u16 43 = .ok (.iload_n 1, 1) := by decide +kernel
theorem d_SP_u16_44 : decode b_SP_u16 44 = .ok (.iadd, 1) := by decide +kernel
theorem d_SP_u16_45 : decode b_SP_u16 45 = .ok (.iconst 1, 1) := by decide +kernel
theorem d_SP_u16_46 : decode b_SP_u16 46 = .ok (.iadd, 1) := by decide +kernel
theorem d_SP_u16_47 : decode b_SP_u16 47 = .ok (.iaload, 1) := by decide +kernel
theorem d_SP_u16_48 : decode b_SP_u16 48 = .ok (.ior, 1) := by decide +kernel
theorem d_SP_u16_49 : decode b_SP_u16 49 = .ok (.ireturn, 1) := by decide +kernel
theorem d_SP_u16_5 : decode b_SP_u16 5 = .ok (.aload_n 0, 1) := by decide +kernel
theorem d_SP_u16_6 : decode b_SP_u16 6 = .ok (.getfield 13, 3) := by decide +kernel
theorem d_SP_u16_9 : decode b_SP_u16 9 = .ok (.iconst 1, 1) := by decide +kernel
theorem d_SP_u8_0 : decode b_SP_u8 0 = .ok (.iload_n 1, 1) := by decide +kernel
theorem d_SP_u8_1 : decode b_SP_u8 1 = .ok (.ifCond .lt (11), 3) := by decide +kernel
theorem d_SP_u8_12 : decode b_SP_u8 12 = .ok (.aload_n 0, 1) := by decide +kernel
theorem d_SP_u8_13 : decode b_SP_u8 13 = .ok (.iconst 1, 1) := by decide +kernel
theorem d_SP_u8_14 : decode b_SP_u8 14 = .ok (.putfield 16, 3) := by decide +kernel
theorem d_SP_u8_17 : decode b_SP_u8 17 = .ok (.iconst 0, 1) := by decide +kernel
theorem d_SP_u8_18 : decode b_SP_u8 18 = .ok (.ireturn, 1) := by decide +kernel
theorem d_SP_u8_19 : decode b_SP_u8 19 = .ok (.aload_n 0, 1) := by decide +kernel
theorem d_SP_u8_20 : decode b_SP_u8 20 = .ok (.getfield 20, 3) := by decide +kernel
theorem d_SP_u8_23 : decode b_SP_u8 23 = .ok (.aload_n 0, 1) := by decide +kernel
theorem d_SP_u8_24 : decode b_SP_u8 24 = .ok (.getfield 7, 3) := by decide +kernel
theorem d_SP_u8_27 : decode b_SP_u8 27 = .ok (.iload_n 1, 1) := by decide +kernel
theorem d_SP_u8_28 : decode b_SP_u8 28 = .ok (.iadd, 1) := by decide +kernel
theorem d_SP_u8_29 : decode b_SP_u8 29 = .ok (.iaload, 1) := by decide +kernel
theorem d_SP_u8_30 : decode b_SP_u8 30 = .ok (.ireturn, 1) := by decide +kernel
theorem d_SP_u8_4 : decode b_SP_u8 4 = .ok (.iload_n 1, 1) := by decide +kernel
theorem d_SP_u8_5 : decode b_SP_u8 5 = .ok (.aload_n 0, 1) := by decide +kernel
theorem d_SP_u8_6 : decode b_SP_u8 6 = .ok (.getfield 13, 3) := by decide +kernel
theorem d_SP_u8_9 : decode b_SP_u8 9 = .ok (.if_icmp .lt (10), 3) := by decide +kernel
set_option maxHeartbeats 4000000 in
set_option maxRecDepth 100000 in
/-- GlyphLines$Span.lay -/
theorem g_SP_lay (l : Launch) (dC : Nat → ClassId) (dI : Nat → Nat → Nat) (h0 : Nat) (qa : Nat) (st : Int32) (si : Int32) (mi : Bool) (cA : ClassId) (f : Nat → Int32) (ns : Int32) (nz : Int32) (sz : Nat) : Met l y_SP_lay s_SP_lay ({ frames := 8, cells := 0, slots := 0, locals := 200 }) (va_Pc [.ref h0, .int ns, .int nz] (fun U => U.heap.size = sz ∧ va_P (dC, dI) cls_ [(h0, .inr (0, [.ref qa, .int st, .int si, .int (bI mi)])), (qa, .inl (cA, 1200, .inl (f)))] U.heap ∧ va_K (dC, dI) cls_ [(cA, .int)] U ∧ va_D (fun _ => True) [(h0, .inr (0, [.ref qa, .int st, .int si, .int (bI mi)])), (qa, .inl (cA, 1200, .inl (f)))])) (va_Qv (fun _ : Unit => True) (fun (_ : Unit) (t : State) => ∃ (a : Nat) (n : Nat), a + n ≤ 1200 ∧ va_P (dC, dI) cls_ [(h0, .inr (0, [.ref qa, .int (nI (a)), .int (nI (n)), .int 0])), (qa, .inl (cA, 1200, .inl (f)))] t.heap ∧ va_K (dC, dI) cls_ [(cA, .int)] t ∧ va_D (va_A [(h0, .inr (0, [.ref qa, .int st, .int si, .int (bI mi)])), (qa, .inl (cA, 1200, .inl (f)))] sz) [(h0, .inr (0, [.ref qa, .int (nI (a)), .int (nI (n)), .int 0])), (qa, .inl (cA, 1200, .inl (f)))]) (va_A [(h0, .inr (0, [.ref qa, .int st, .int si, .int (bI mi)])), (qa, .inl (cA, 1200, .inl (f)))] sz)) 0 0 (va_A [(h0, .inr (0, [.ref qa, .int st, .int si, .int (bI mi)])), (qa, .inl (cA, 1200, .inl (f)))] sz) := by
  refine Met.ofW (cc := b_SP_lay) (maxL := 3) (ret := none) (by decide) rfl ?_
  intro p e s m args below meth c s₁ B hml hv
  obtain ⟨rfl, hsz, hP, hK, hD0⟩ := hv
  have hx := B.exec
  have hb := B.bytes
  have hr := B.returns
  have hts := atoms_spec (ws := s_SP_lay) B.pre
  have hown : s.vm.findClass R_SP = some m.cls := findClass_of_methodNamed B.named
  have hlocks := B.notSynchronized
  subst hsz
  have hD := hD0.self (sz := s.heap.size)
  generalize hAe : va_A [(h0, .inr (0, [.ref qa, .int st, .int si, .int (bI mi)])), (qa, .inl (cA, 1200, .inl (f)))] s.heap.size = A at hD ⊢
  have hA : ∀ q : Nat, s.heap.size ≤ q → A q := fun q h => by rw [← hAe]; exact Or.inr h
  have hS : va_S A s.heap s.heap [] := va_S.rf
  have hP : va_P (dC, dI) cls_ [(h0, .inr (0, [.ref qa, .int st, .int si, .int (bI mi)])), (qa, .inl (cA, 1200, .inl (f)))] s.heap := hP
  have hl := lv_entry ([.ref h0, .int ns, .int nz]) (n := 3) (Nat.le_of_ble_eq_true rfl)
  rw [lg_entry_eq]
  generalize (lg_sl ([.ref h0, .int ns, .int nz]) ++ List.replicate (3 - (lg_sl ([.ref h0, .int ns, .int nz])).length) Slot.unset).toArray = ls at hl ⊢
  have hl : lv_has ls 3 [(0, .ref h0), (1, .int ns), (2, .int nz)] := hl
  refine lv_aload_n hx hb d_SP_lay_0 rfl (lv_at hl 0 rfl) ?_
  refine lv_iconst (v := 0) hx hb d_SP_lay_1 (by decide) ?_
  refine lv_iload_n hx hb d_SP_lay_2 rfl (lv_at hl 1 rfl) ?_
  refine lv_aload_n hx hb d_SP_lay_3 rfl (lv_at hl 0 rfl) ?_
  refine va_get (D := (dC, dI)) (ci := 0) (v := .ref qa) (C := R_SP) (T := F_SP) (N := 4) hx hb hts in_SP hown hK hP 0 rfl rfl 0 (by decide) (hts _ (List.mem_cons_of_mem _ w_48)) (fun _ h9 => h9) rfl d_SP_lay_4 ?_
  refine va_alen (v := 1200) hx hb hK hP 1 0 rfl rfl (by show Int32.ofNat 1200 = 1200; decide +kernel) d_SP_lay_7 ?_
  refine va_mmin hx hb (by rw [hml]; exact hl.1.symm) hown (hts _ (List.mem_cons_of_mem _ w_348)) (hts _ (List.mem_cons_of_mem _ w_335)) (hts _ (List.mem_cons_of_mem _ w_17)) (hts _ (List.mem_cons_of_mem _ w_336)) (Nat.le_of_ble_eq_true rfl) (Nat.le_of_ble_eq_true rfl) (Nat.le_of_ble_eq_true rfl) (Nat.le_of_ble_eq_true rfl) d_SP_lay_8 ?_
  refine va_mmax hx hb (by rw [hml]; exact hl.1.symm) hown (hts _ (List.mem_cons_of_mem _ w_349)) (hts _ (List.mem_cons_of_mem _ w_350)) (hts _ (List.mem_cons_of_mem _ w_17)) (hts _ (List.mem_cons_of_mem _ w_351)) (Nat.le_of_ble_eq_true rfl) (Nat.le_of_ble_eq_true rfl) (Nat.le_of_ble_eq_true rfl) (Nat.le_of_ble_eq_true rfl) d_SP_lay_11 ?_
  obtain ⟨a, ha, ea⟩ := sp_clamp ns (N := 1200) (by omega)
  refine lv_ci ea ?_
  refine va_put (D := (dC, dI)) (ci := 0) (v := .int (nI (a))) (ty := .int) (C := R_SP) (T := F_SP) (N := 4) hx hb hts in_SP t_SP t_SP_ok n_SP hown hK hP hD hS 0 rfl rfl 1 (by decide) (hts _ (List.mem_cons_of_mem _ w_49)) (fun _ h9 => h9) rfl  (by decide +kernel) rfl rfl (Nat.le_of_ble_eq_true rfl) d_SP_lay_14 (fun H locs hP hD hS => ?_)
  have hP : va_P (dC, dI) cls_ [(h0, .inr (0, [.ref qa, .int (nI (a)), .int si, .int (bI mi)])), (qa, .inl (cA, 1200, .inl (f)))] H := hP
  have hD : va_D A [(h0, .inr (0, [.ref qa, .int (nI (a)), .int si, .int (bI mi)])), (qa, .inl (cA, 1200, .inl (f)))] := hD
  refine lv_aload_n hx hb d_SP_lay_17 rfl (lv_at hl 0 rfl) ?_
  refine lv_iconst (v := 0) hx hb d_SP_lay_18 (by decide) ?_
  refine lv_iload_n hx hb d_SP_lay_19 rfl (lv_at hl 2 rfl) ?_
  refine lv_aload_n hx hb d_SP_lay_20 rfl (lv_at hl 0 rfl) ?_
  refine va_get (D := (dC, dI)) (ci := 0) (v := .ref qa) (C := R_SP) (T := F_SP) (N := 4) hx hb hts in_SP hown hK hP 0 rfl rfl 0 (by decide) (hts _ (List.mem_cons_of_mem _ w_48)) (fun _ h9 => h9) rfl d_SP_lay_21 ?_
  refine va_alen (v := 1200) hx hb hK hP 1 0 rfl rfl (by show Int32.ofNat 1200 = 1200; decide +kernel) d_SP_lay_24 ?_
  refine lv_aload_n hx hb d_SP_lay_25 rfl (lv_at hl 0 rfl) ?_
  refine va_get (D := (dC, dI)) (ci := 0) (v := .int (nI (a))) (C := R_SP) (T := F_SP) (N := 4) hx hb hts in_SP hown hK hP 0 rfl rfl 1 (by decide) (hts _ (List.mem_cons_of_mem _ w_49)) (fun _ h9 => h9) rfl d_SP_lay_26 ?_
  refine lv_isub hx hb d_SP_lay_29 ?_
  refine lv_ci (y := nI (1200 - a)) (pk_sub (a := 1200) (b := a) (by omega)) ?_
  refine va_mmin hx hb (by rw [hml]; exact hl.1.symm) hown (hts _ (List.mem_cons_of_mem _ w_348)) (hts _ (List.mem_cons_of_mem _ w_335)) (hts _ (List.mem_cons_of_mem _ w_17)) (hts _ (List.mem_cons_of_mem _ w_336)) (Nat.le_of_ble_eq_true rfl) (Nat.le_of_ble_eq_true rfl) (Nat.le_of_ble_eq_true rfl) (Nat.le_of_ble_eq_true rfl) d_SP_lay_30 ?_
  refine va_mmax hx hb (by rw [hml]; exact hl.1.symm) hown (hts _ (List.mem_cons_of_mem _ w_349)) (hts _ (List.mem_cons_of_mem _ w_350)) (hts _ (List.mem_cons_of_mem _ w_17)) (hts _ (List.mem_cons_of_mem _ w_351)) (Nat.le_of_ble_eq_true rfl) (Nat.le_of_ble_eq_true rfl) (Nat.le_of_ble_eq_true rfl) (Nat.le_of_ble_eq_true rfl) d_SP_lay_33 ?_
  obtain ⟨n, hn, en⟩ := sp_clamp nz (N := 1200 - a) (by omega)
  refine lv_ci en ?_
  refine va_put (D := (dC, dI)) (ci := 0) (v := .int (nI (n))) (ty := .int) (C := R_SP) (T := F_SP) (N := 4) hx hb hts in_SP t_SP t_SP_ok n_SP hown hK hP hD hS 0 rfl rfl 2 (by decide) (hts _ (List.mem_cons_of_mem _ w_51)) (fun _ h9 => h9) rfl  (by decide +kernel) rfl rfl (Nat.le_of_ble_eq_true rfl) d_SP_lay_36 (fun H locs hP hD hS => ?_)
  have hP : va_P (dC, dI) cls_ [(h0, .inr (0, [.ref qa, .int (nI (a)), .int (nI (n)), .int (bI mi)])), (qa, .inl (cA, 1200, .inl (f)))] H := hP
  have hD : va_D A [(h0, .inr (0, [.ref qa, .int (nI (a)), .int (nI (n)), .int (bI mi)])), (qa, .inl (cA, 1200, .inl (f)))] := hD
  refine lv_aload_n hx hb d_SP_lay_39 rfl (lv_at hl 0 rfl) ?_
  refine lv_iconst (v := 0) hx hb d_SP_lay_40 (by decide) ?_
  refine va_put (D := (dC, dI)) (ci := 0) (v := .int 0) (ty := .boolean) (C := R_SP) (T := F_SP) (N := 4) hx hb hts in_SP t_SP t_SP_ok n_SP hown hK hP hD hS 0 rfl rfl 3 (by decide) (hts _ (List.mem_cons_of_mem _ w_55)) (fun _ h9 => h9) rfl  (by decide +kernel) rfl rfl (Nat.le_of_ble_eq_true rfl) d_SP_lay_41 (fun H locs hP hD hS => ?_)
  have hP : va_P (dC, dI) cls_ [(h0, .inr (0, [.ref qa, .int (nI (a)), .int (nI (n)), .int 0])), (qa, .inl (cA, 1200, .inl (f)))] H := hP
  have hD : va_D A [(h0, .inr (0, [.ref qa, .int (nI (a)), .int (nI (n)), .int 0])), (qa, .inl (cA, 1200, .inl (f)))] := hD
  refine W.widen (k := 0) (n := 0) (Nat.le_of_ble_eq_true rfl) (Nat.le_of_ble_eq_true rfl) ?_
  have hP9 := hP.sub (ws' := [(h0, .inr (0, [.ref qa, .int (nI (a)), .int (nI (n)), .int 0])), (qa, .inl (cA, 1200, .inl (f)))]) [0, 1] rfl
  have hD9 := hD.sub (ws' := [(h0, .inr (0, [.ref qa, .int (nI (a)), .int (nI (n)), .int 0])), (qa, .inl (cA, 1200, .inl (f)))]) [0, 1] (by decide) rfl
  have hK9 := hK.sub (tys' := [(cA, .int)]) [0] rfl
  exact W.vret hx hb hr (fun t ht hW => ⟨⟨(), rfl, trivial, a, n, by omega, by rw [ht]; exact hP9, va_K.moved hW.alike hK9, hD9⟩, hS.F ht⟩) hS.2.2 d_SP_lay_44
set_option maxHeartbeats 4000000 in
set_option maxRecDepth 100000 in
/-- GlyphLines$Span.holds -/
theorem g_SP_holds (l : Launch) (dC : Nat → ClassId) (dI : Nat → Nat → Nat) (h0 : Nat) (qa : Nat) (st : Int32) (si : Int32) (mi : Bool) (i : Int64) (many : Int64) (sz : Nat) : Met l y_SP_holds s_SP_holds ({ frames := 8, cells := 0, slots := 0, locals := 200 }) (va_Pc [.ref h0, .long i, .long many] (fun U => U.heap.size = sz ∧ va_P (dC, dI) cls_ [(h0, .inr (0, [.ref qa, .int st, .int si, .int (bI mi)]))] U.heap ∧ va_K (dC, dI) cls_ [] U ∧ va_D (fun _ => True) [(h0, .inr (0, [.ref qa, .int st, .int si, .int (bI mi)]))])) (va_Qi (fun (r : Int32) (_ : Unit) => ∃ b9 : Bool, r = bI b9) (fun (_ : Unit) (t : State) => va_P (dC, dI) cls_ [(h0, .inr (0, [.ref qa, .int st, .int si, .int (bI mi)]))] t.heap ∧ va_K (dC, dI) cls_ [] t ∧ va_D (va_A [(h0, .inr (0, [.ref qa, .int st, .int si, .int (bI mi)]))] sz) [(h0, .inr (0, [.ref qa, .int st, .int si, .int (bI mi)]))]) (va_A [(h0, .inr (0, [.ref qa, .int st, .int si, .int (bI mi)]))] sz)) 0 0 (va_A [(h0, .inr (0, [.ref qa, .int st, .int si, .int (bI mi)]))] sz) := by
  refine Met.ofW (cc := b_SP_holds) (maxL := 5) (ret := (some .boolean)) (by decide) rfl ?_
  intro p e s m args below meth c s₁ B hml hv
  obtain ⟨rfl, hsz, hP, hK, hD0⟩ := hv
  have hx := B.exec
  have hb := B.bytes
  have hr := B.returns
  have hts := atoms_spec (ws := s_SP_holds) B.pre
  have hown : s.vm.findClass R_SP = some m.cls := findClass_of_methodNamed B.named
  have hlocks := B.notSynchronized
  subst hsz
  have hD := hD0.self (sz := s.heap.size)
  generalize hAe : va_A [(h0, .inr (0, [.ref qa, .int st, .int si, .int (bI mi)]))] s.heap.size = A at hD ⊢
  have hA : ∀ q : Nat, s.heap.size ≤ q → A q := fun q h => by rw [← hAe]; exact Or.inr h
  have hS : va_S A s.heap s.heap [] := va_S.rf
  have hP : va_P (dC, dI) cls_ [(h0, .inr (0, [.ref qa, .int st, .int si, .int (bI mi)]))] s.heap := hP
  have hl := lv_entry ([.ref h0, .long i, .long many]) (n := 5) (Nat.le_of_ble_eq_true rfl)
  rw [lg_entry_eq]
  generalize (lg_sl ([.ref h0, .long i, .long many]) ++ List.replicate (5 - (lg_sl ([.ref h0, .long i, .long many])).length) Slot.unset).toArray = ls at hl ⊢
  have hl : lv_has ls 5 [(0, .ref h0), (1, .long i), (3, .long many)] := hl
  refine lv_lload_n hx hb d_SP_holds_0 rfl (lv_at hl 1 rfl) ?_
  refine lv_lconst (v := 0) hx hb d_SP_holds_1 (by decide) ?_
  refine W.lcmp hx hb d_SP_holds_2 ?_
  refine lv_topi (fun v1 ev1 => ?_)
  refine lv_if_lt (tgt := 22) hx hb d_SP_holds_3 (by decide) (fun hc2 => ?_) (fun hc2 => ?_)
  · skip
    refine lv_iconst (v := 0) hx hb d_SP_holds_22 (by decide) ?_
    refine W.widen (k := 0) (n := 0) (Nat.le_of_ble_eq_true rfl) (Nat.le_of_ble_eq_true rfl) ?_
    have hP9 := hP.sub (ws' := [(h0, .inr (0, [.ref qa, .int st, .int si, .int (bI mi)]))]) [0] rfl
    have hD9 := hD.sub (ws' := [(h0, .inr (0, [.ref qa, .int st, .int si, .int (bI mi)]))]) [0] (by decide) rfl
    have hK9 := hK.sub (tys' := []) [] rfl
    exact W.zret (v := 0) (ty := .boolean) hx hb hr (by decide +kernel) (fun t ht hW => ⟨⟨0, (), rfl, ⟨false, rfl⟩, by rw [ht]; exact hP9, va_K.moved hW.alike hK9, hD9⟩, hS.F ht⟩) hS.2.2 d_SP_holds_23
  · skip
    refine lv_lload_n hx hb d_SP_holds_6 rfl (lv_at hl 1 rfl) ?_
    refine lv_lload_n hx hb d_SP_holds_7 rfl (lv_at hl 2 rfl) ?_
    refine lv_ladd hx hb d_SP_holds_8 ?_
    refine lv_topl (fun v3 ev3 => ?_)
    refine lv_aload_n hx hb d_SP_holds_9 rfl (lv_at hl 0 rfl) ?_
    refine va_get (D := (dC, dI)) (ci := 0) (v := .int si) (C := R_SP) (T := F_SP) (N := 4) hx hb hts in_SP hown hK hP 0 rfl rfl 2 (by decide) (hts _ (List.mem_cons_of_mem _ w_51)) (fun _ h9 => h9) rfl d_SP_holds_10 ?_
    refine lv_i2l (v := si.toInt64) hx hb d_SP_holds_13 (by first | rfl | decide +kernel) ?_
    refine W.lcmp hx hb d_SP_holds_14 ?_
    refine lv_topi (fun v4 ev4 => ?_)
    refine lv_if_gt (tgt := 22) hx hb d_SP_holds_15 (by decide) (fun hc5 => ?_) (fun hc5 => ?_)
    · skip
      refine lv_iconst (v := 0) hx hb d_SP_holds_22 (by decide) ?_
      refine W.widen (k := 0) (n := 0) (Nat.le_of_ble_eq_true rfl) (Nat.le_of_ble_eq_true rfl) ?_
      have hP9 := hP.sub (ws' := [(h0, .inr (0, [.ref qa, .int st, .int si, .int (bI mi)]))]) [0] rfl
      have hD9 := hD.sub (ws' := [(h0, .inr (0, [.ref qa, .int st, .int si, .int (bI mi)]))]) [0] (by decide) rfl
      have hK9 := hK.sub (tys' := []) [] rfl
      exact W.zret (v := 0) (ty := .boolean) hx hb hr (by decide +kernel) (fun t ht hW => ⟨⟨0, (), rfl, ⟨false, rfl⟩, by rw [ht]; exact hP9, va_K.moved hW.alike hK9, hD9⟩, hS.F ht⟩) hS.2.2 d_SP_holds_23
    · skip
      refine lv_iconst (v := 1) hx hb d_SP_holds_18 (by decide) ?_
      refine lv_goto (tgt := 23) hx hb d_SP_holds_19 (by decide) ?_
      refine W.widen (k := 0) (n := 0) (Nat.le_of_ble_eq_true rfl) (Nat.le_of_ble_eq_true rfl) ?_
      have hP9 := hP.sub (ws' := [(h0, .inr (0, [.ref qa, .int st, .int si, .int (bI mi)]))]) [0] rfl
      have hD9 := hD.sub (ws' := [(h0, .inr (0, [.ref qa, .int st, .int si, .int (bI mi)]))]) [0] (by decide) rfl
      have hK9 := hK.sub (tys' := []) [] rfl
      exact W.zret (v := 1) (ty := .boolean) hx hb hr (by decide +kernel) (fun t ht hW => ⟨⟨1, (), rfl, ⟨true, rfl⟩, by rw [ht]; exact hP9, va_K.moved hW.alike hK9, hD9⟩, hS.F ht⟩) hS.2.2 d_SP_holds_23
set_option maxHeartbeats 4000000 in
set_option maxRecDepth 100000 in
/-- GlyphLines$Span.u8 -/
theorem g_SP_u8 (l : Launch) (dC : Nat → ClassId) (dI : Nat → Nat → Nat) (h0 : Nat) (qa : Nat) (a : Nat) (n : Nat) (mi : Bool) (cA : ClassId) (f : Nat → Int32) (i : Int32) (sz : Nat) (hq0 : a + n ≤ 1200) (hq1 : isB f) : Met l y_SP_u8 s_SP_u8 ({ frames := 8, cells := 0, slots := 0, locals := 200 }) (va_Pc [.ref h0, .int i] (fun U => U.heap.size = sz ∧ va_P (dC, dI) cls_ [(h0, .inr (0, [.ref qa, .int (nI (a)), .int (nI (n)), .int (bI mi)])), (qa, .inl (cA, 1200, .inl (f)))] U.heap ∧ va_K (dC, dI) cls_ [(cA, .int)] U ∧ va_D (fun _ => True) [(h0, .inr (0, [.ref qa, .int (nI (a)), .int (nI (n)), .int (bI mi)])), (qa, .inl (cA, 1200, .inl (f)))])) (va_Qi (fun (r : Int32) (_ : Unit) => ∃ v : Nat, v < 256 ∧ r = nI v) (fun (_ : Unit) (t : State) => ∃ (m2 : Bool), va_P (dC, dI) cls_ [(h0, .inr (0, [.ref qa, .int (nI (a)), .int (nI (n)), .int (bI m2)])), (qa, .inl (cA, 1200, .inl (f)))] t.heap ∧ va_K (dC, dI) cls_ [(cA, .int)] t ∧ va_D (va_A [(h0, .inr (0, [.ref qa, .int (nI (a)), .int (nI (n)), .int (bI mi)])), (qa, .inl (cA, 1200, .inl (f)))] sz) [(h0, .inr (0, [.ref qa, .int (nI (a)), .int (nI (n)), .int (bI m2)])), (qa, .inl (cA, 1200, .inl (f)))]) (va_A [(h0, .inr (0, [.ref qa, .int (nI (a)), .int (nI (n)), .int (bI mi)])), (qa, .inl (cA, 1200, .inl (f)))] sz)) 0 0 (va_A [(h0, .inr (0, [.ref qa, .int (nI (a)), .int (nI (n)), .int (bI mi)])), (qa, .inl (cA, 1200, .inl (f)))] sz) := by
  refine Met.ofW (cc := b_SP_u8) (maxL := 2) (ret := (some .int)) (by decide) rfl ?_
  intro p e s m args below meth c s₁ B hml hv
  obtain ⟨rfl, hsz, hP, hK, hD0⟩ := hv
  have hx := B.exec
  have hb := B.bytes
  have hr := B.returns
  have hts := atoms_spec (ws := s_SP_u8) B.pre
  have hown : s.vm.findClass R_SP = some m.cls := findClass_of_methodNamed B.named
  have hlocks := B.notSynchronized
  subst hsz
  have hD := hD0.self (sz := s.heap.size)
  generalize hAe : va_A [(h0, .inr (0, [.ref qa, .int (nI (a)), .int (nI (n)), .int (bI mi)])), (qa, .inl (cA, 1200, .inl (f)))] s.heap.size = A at hD ⊢
  have hA : ∀ q : Nat, s.heap.size ≤ q → A q := fun q h => by rw [← hAe]; exact Or.inr h
  have hS : va_S A s.heap s.heap [] := va_S.rf
  have hP : va_P (dC, dI) cls_ [(h0, .inr (0, [.ref qa, .int (nI (a)), .int (nI (n)), .int (bI mi)])), (qa, .inl (cA, 1200, .inl (f)))] s.heap := hP
  have hl := lv_entry ([.ref h0, .int i]) (n := 2) (Nat.le_of_ble_eq_true rfl)
  rw [lg_entry_eq]
  generalize (lg_sl ([.ref h0, .int i]) ++ List.replicate (2 - (lg_sl ([.ref h0, .int i])).length) Slot.unset).toArray = ls at hl ⊢
  have hl : lv_has ls 2 [(0, .ref h0), (1, .int i)] := hl
  refine lv_iload_n hx hb d_SP_u8_0 rfl (lv_at hl 1 rfl) ?_
  refine lv_if_lt (tgt := 12) hx hb d_SP_u8_1 (by decide) (fun hc6 => ?_) (fun hc6 => ?_)
  · skip
    refine lv_aload_n hx hb d_SP_u8_12 rfl (lv_at hl 0 rfl) ?_
    refine lv_iconst (v := 1) hx hb d_SP_u8_13 (by decide) ?_
    refine va_put (D := (dC, dI)) (ci := 0) (v := .int 1) (ty := .boolean) (C := R_SP) (T := F_SP) (N := 4) hx hb hts in_SP t_SP t_SP_ok n_SP hown hK hP hD hS 0 rfl rfl 3 (by decide) (hts _ (List.mem_cons_of_mem _ w_55)) (fun _ h9 => h9) rfl  (by decide +kernel) rfl rfl (Nat.le_of_ble_eq_true rfl) d_SP_u8_14 (fun H locs hP hD hS => ?_)
    have hP : va_P (dC, dI) cls_ [(h0, .inr (0, [.ref qa, .int (nI (a)), .int (nI (n)), .int 1])), (qa, .inl (cA, 1200, .inl (f)))] H := hP
    have hD : va_D A [(h0, .inr (0, [.ref qa, .int (nI (a)), .int (nI (n)), .int 1])), (qa, .inl (cA, 1200, .inl (f)))] := hD
    refine lv_iconst (v := 0) hx hb d_SP_u8_17 (by decide) ?_
    refine W.widen (k := 0) (n := 0) (Nat.le_of_ble_eq_true rfl) (Nat.le_of_ble_eq_true rfl) ?_
    have hP9 := hP.sub (ws' := [(h0, .inr (0, [.ref qa, .int (nI (a)), .int (nI (n)), .int 1])), (qa, .inl (cA, 1200, .inl (f)))]) [0, 1] rfl
    have hD9 := hD.sub (ws' := [(h0, .inr (0, [.ref qa, .int (nI (a)), .int (nI (n)), .int 1])), (qa, .inl (cA, 1200, .inl (f)))]) [0, 1] (by decide) rfl
    have hK9 := hK.sub (tys' := [(cA, .int)]) [0] rfl
    exact W.iret (v := 0) hx hb hr (fun t ht hW => ⟨⟨0, (), rfl, ⟨0, by decide, rfl⟩, true, by rw [ht]; exact hP9, va_K.moved hW.alike hK9, hD9⟩, hS.F ht⟩) hS.2.2 d_SP_u8_18
  · skip
    refine lv_iload_n hx hb d_SP_u8_4 rfl (lv_at hl 1 rfl) ?_
    refine lv_aload_n hx hb d_SP_u8_5 rfl (lv_at hl 0 rfl) ?_
    refine va_get (D := (dC, dI)) (ci := 0) (v := .int (nI (n))) (C := R_SP) (T := F_SP) (N := 4) hx hb hts in_SP hown hK hP 0 rfl rfl 2 (by decide) (hts _ (List.mem_cons_of_mem _ w_51)) (fun _ h9 => h9) rfl d_SP_u8_6 ?_
    refine lv_icmp_lt (tgt := 19) hx hb d_SP_u8_9 (by decide) (fun hc7 => ?_) (fun hc7 => ?_)
    · skip
      obtain ⟨j, hj, rfl⟩ := sp_ix (n := n) (by omega) hc6 hc7
      refine lv_aload_n hx hb d_SP_u8_19 rfl (lv_at hl 0 rfl) ?_
      refine va_get (D := (dC, dI)) (ci := 0) (v := .ref qa) (C := R_SP) (T := F_SP) (N := 4) hx hb hts in_SP hown hK hP 0 rfl rfl 0 (by decide) (hts _ (List.mem_cons_of_mem _ w_48)) (fun _ h9 => h9) rfl d_SP_u8_20 ?_
      refine lv_aload_n hx hb d_SP_u8_23 rfl (lv_at hl 0 rfl) ?_
      refine va_get (D := (dC, dI)) (ci := 0) (v := .int (nI (a))) (C := R_SP) (T := F_SP) (N := 4) hx hb hts in_SP hown hK hP 0 rfl rfl 1 (by decide) (hts _ (List.mem_cons_of_mem _ w_49)) (fun _ h9 => h9) rfl d_SP_u8_24 ?_
      refine lv_iload_n hx hb d_SP_u8_27 rfl (lv_at hl 1 rfl) ?_
      refine lv_iadd hx hb d_SP_u8_28 ?_
      refine lv_ci (y := nI (a + j)) (nI_add (a) (j)) ?_
      refine va_iald hx hb hK hP 1 0 rfl rfl (pk_in (a + j) 1200 (by omega) rfl (by decide)) d_SP_u8_29 ?_
      refine lv_topi (fun v8 ev8 => ?_)
      refine W.widen (k := 0) (n := 0) (Nat.le_of_ble_eq_true rfl) (Nat.le_of_ble_eq_true rfl) ?_
      have hP9 := hP.sub (ws' := [(h0, .inr (0, [.ref qa, .int (nI (a)), .int (nI (n)), .int (bI mi)])), (qa, .inl (cA, 1200, .inl (f)))]) [0, 1] rfl
      have hD9 := hD.sub (ws' := [(h0, .inr (0, [.ref qa, .int (nI (a)), .int (nI (n)), .int (bI mi)])), (qa, .inl (cA, 1200, .inl (f)))]) [0, 1] (by decide) rfl
      have hK9 := hK.sub (tys' := [(cA, .int)]) [0] rfl
      exact W.iret (v := v8) hx hb hr (fun t ht hW => ⟨⟨v8, (), rfl, by rw [ev8]; exact hq1 _, mi, by rw [ht]; exact hP9, va_K.moved hW.alike hK9, hD9⟩, hS.F ht⟩) hS.2.2 d_SP_u8_30
    · skip
      refine lv_aload_n hx hb d_SP_u8_12 rfl (lv_at hl 0 rfl) ?_
      refine lv_iconst (v := 1) hx hb d_SP_u8_13 (by decide) ?_
      refine va_put (D := (dC, dI)) (ci := 0) (v := .int 1) (ty := .boolean) (C := R_SP) (T := F_SP) (N := 4) hx hb hts in_SP t_SP t_SP_ok n_SP hown hK hP hD hS 0 rfl rfl 3 (by decide) (hts _ (List.mem_cons_of_mem _ w_55)) (fun _ h9 => h9) rfl  (by decide +kernel) rfl rfl (Nat.le_of_ble_eq_true rfl) d_SP_u8_14 (fun H locs hP hD hS => ?_)
      have hP : va_P (dC, dI) cls_ [(h0, .inr (0, [.ref qa, .int (nI (a)), .int (nI (n)), .int 1])), (qa, .inl (cA, 1200, .inl (f)))] H := hP
      have hD : va_D A [(h0, .inr (0, [.ref qa, .int (nI (a)), .int (nI (n)), .int 1])), (qa, .inl (cA, 1200, .inl (f)))] := hD
      refine lv_iconst (v := 0) hx hb d_SP_u8_17 (by decide) ?_
      refine W.widen (k := 0) (n := 0) (Nat.le_of_ble_eq_true rfl) (Nat.le_of_ble_eq_true rfl) ?_
      have hP9 := hP.sub (ws' := [(h0, .inr (0, [.ref qa, .int (nI (a)), .int (nI (n)), .int 1])), (qa, .inl (cA, 1200, .inl (f)))]) [0, 1] rfl
      have hD9 := hD.sub (ws' := [(h0, .inr (0, [.ref qa, .int (nI (a)), .int (nI (n)), .int 1])), (qa, .inl (cA, 1200, .inl (f)))]) [0, 1] (by decide) rfl
      have hK9 := hK.sub (tys' := [(cA, .int)]) [0] rfl
      exact W.iret (v := 0) hx hb hr (fun t ht hW => ⟨⟨0, (), rfl, ⟨0, by decide, rfl⟩, true, by rw [ht]; exact hP9, va_K.moved hW.alike hK9, hD9⟩, hS.F ht⟩) hS.2.2 d_SP_u8_18
set_option maxHeartbeats 4000000 in
set_option maxRecDepth 100000 in
/-- GlyphLines$Span.u16 -/
theorem g_SP_u16 (l : Launch) (dC : Nat → ClassId) (dI : Nat → Nat → Nat) (h0 : Nat) (qa : Nat) (a : Nat) (n : Nat) (mi : Bool) (cA : ClassId) (f : Nat → Int32) (i : Int32) (sz : Nat) (hq0 : a + n ≤ 1200) (hq1 : isB f) : Met l y_SP_u16 s_SP_u16 ({ frames := 8, cells := 0, slots := 0, locals := 200 }) (va_Pc [.ref h0, .int i] (fun U => U.heap.size = sz ∧ va_P (dC, dI) cls_ [(h0, .inr (0, [.ref qa, .int (nI (a)), .int (nI (n)), .int (bI mi)])), (qa, .inl (cA, 1200, .inl (f)))] U.heap ∧ va_K (dC, dI) cls_ [(cA, .int)] U ∧ va_D (fun _ => True) [(h0, .inr (0, [.ref qa, .int (nI (a)), .int (nI (n)), .int (bI mi)])), (qa, .inl (cA, 1200, .inl (f)))])) (va_Qi (fun (r : Int32) (_ : Unit) => ∃ v : Nat, v < 65536 ∧ r = nI v) (fun (_ : Unit) (t : State) => ∃ (m2 : Bool), va_P (dC, dI) cls_ [(h0, .inr (0, [.ref qa, .int (nI (a)), .int (nI (n)), .int (bI m2)])), (qa, .inl (cA, 1200, .inl (f)))] t.heap ∧ va_K (dC, dI) cls_ [(cA, .int)] t ∧ va_D (va_A [(h0, .inr (0, [.ref qa, .int (nI (a)), .int (nI (n)), .int (bI mi)])), (qa, .inl (cA, 1200, .inl (f)))] sz) [(h0, .inr (0, [.ref qa, .int (nI (a)), .int (nI (n)), .int (bI m2)])), (qa, .inl (cA, 1200, .inl (f)))]) (va_A [(h0, .inr (0, [.ref qa, .int (nI (a)), .int (nI (n)), .int (bI mi)])), (qa, .inl (cA, 1200, .inl (f)))] sz)) 0 0 (va_A [(h0, .inr (0, [.ref qa, .int (nI (a)), .int (nI (n)), .int (bI mi)])), (qa, .inl (cA, 1200, .inl (f)))] sz) := by
  refine Met.ofW (cc := b_SP_u16) (maxL := 2) (ret := (some .int)) (by decide) rfl ?_
  intro p e s m args below meth c s₁ B hml hv
  obtain ⟨rfl, hsz, hP, hK, hD0⟩ := hv
  have hx := B.exec
  have hb := B.bytes
  have hr := B.returns
  have hts := atoms_spec (ws := s_SP_u16) B.pre
  have hown : s.vm.findClass R_SP = some m.cls := findClass_of_methodNamed B.named
  have hlocks := B.notSynchronized
  subst hsz
  have hD := hD0.self (sz := s.heap.size)
  generalize hAe : va_A [(h0, .inr (0, [.ref qa, .int (nI (a)), .int (nI (n)), .int (bI mi)])), (qa, .inl (cA, 1200, .inl (f)))] s.heap.size = A at hD ⊢
  have hA : ∀ q : Nat, s.heap.size ≤ q → A q := fun q h => by rw [← hAe]; exact Or.inr h
  have hS : va_S A s.heap s.heap [] := va_S.rf
  have hP : va_P (dC, dI) cls_ [(h0, .inr (0, [.ref qa, .int (nI (a)), .int (nI (n)), .int (bI mi)])), (qa, .inl (cA, 1200, .inl (f)))] s.heap := hP
  have hl := lv_entry ([.ref h0, .int i]) (n := 2) (Nat.le_of_ble_eq_true rfl)
  rw [lg_entry_eq]
  generalize (lg_sl ([.ref h0, .int i]) ++ List.replicate (2 - (lg_sl ([.ref h0, .int i])).length) Slot.unset).toArray = ls at hl ⊢
  have hl : lv_has ls 2 [(0, .ref h0), (1, .int i)] := hl
  refine lv_iload_n hx hb d_SP_u16_0 rfl (lv_at hl 1 rfl) ?_
  refine lv_if_lt (tgt := 14) hx hb d_SP_u16_1 (by decide) (fun hc9 => ?_) (fun hc9 => ?_)
  · skip
    refine lv_aload_n hx hb d_SP_u16_14 rfl (lv_at hl 0 rfl) ?_
    refine lv_iconst (v := 1) hx hb d_SP_u16_15 (by decide) ?_
    refine va_put (D := (dC, dI)) (ci := 0) (v := .int 1) (ty := .boolean) (C := R_SP) (T := F_SP) (N := 4) hx hb hts in_SP t_SP t_SP_ok n_SP hown hK hP hD hS 0 rfl rfl 3 (by decide) (hts _ (List.mem_cons_of_mem _ w_55)) (fun _ h9 => h9) rfl  (by decide +kernel) rfl rfl (Nat.le_of_ble_eq_true rfl) d_SP_u16_16 (fun H locs hP hD hS => ?_)
    have hP : va_P (dC, dI) cls_ [(h0, .inr (0, [.ref qa, .int (nI (a)), .int (nI (n)), .int 1])), (qa, .inl (cA, 1200, .inl (f)))] H := hP
    have hD : va_D A [(h0, .inr (0, [.ref qa, .int (nI (a)), .int (nI (n)), .int 1])), (qa, .inl (cA, 1200, .inl (f)))] := hD
    refine lv_iconst (v := 0) hx hb d_SP_u16_19 (by decide) ?_
    refine W.widen (k := 0) (n := 0) (Nat.le_of_ble_eq_true rfl) (Nat.le_of_ble_eq_true rfl) ?_
    have hP9 := hP.sub (ws' := [(h0, .inr (0, [.ref qa, .int (nI (a)), .int (nI (n)), .int 1])), (qa, .inl (cA, 1200, .inl (f)))]) [0, 1] rfl
    have hD9 := hD.sub (ws' := [(h0, .inr (0, [.ref qa, .int (nI (a)), .int (nI (n)), .int 1])), (qa, .inl (cA, 1200, .inl (f)))]) [0, 1] (by decide) rfl
    have hK9 := hK.sub (tys' := [(cA, .int)]) [0] rfl
    exact W.iret (v := 0) hx hb hr (fun t ht hW => ⟨⟨0, (), rfl, ⟨0, by decide, rfl⟩, true, by rw [ht]; exact hP9, va_K.moved hW.alike hK9, hD9⟩, hS.F ht⟩) hS.2.2 d_SP_u16_20
  · skip
    refine lv_iload_n hx hb d_SP_u16_4 rfl (lv_at hl 1 rfl) ?_
    refine lv_aload_n hx hb d_SP_u16_5 rfl (lv_at hl 0 rfl) ?_
    refine va_get (D := (dC, dI)) (ci := 0) (v := .int (nI (n))) (C := R_SP) (T := F_SP) (N := 4) hx hb hts in_SP hown hK hP 0 rfl rfl 2 (by decide) (hts _ (List.mem_cons_of_mem _ w_51)) (fun _ h9 => h9) rfl d_SP_u16_6 ?_
    refine lv_iconst (v := 1) hx hb d_SP_u16_9 (by decide) ?_
    refine lv_isub hx hb d_SP_u16_10 ?_
    refine lv_icmp_lt (tgt := 21) hx hb d_SP_u16_11 (by decide) (fun hc10 => ?_) (fun hc10 => ?_)
    · skip
      obtain ⟨j, hj, rfl⟩ := sp_ix1 (n := n) (by omega) hc9 hc10
      refine lv_aload_n hx hb d_SP_u16_21 rfl (lv_at hl 0 rfl) ?_
      refine va_get (D := (dC, dI)) (ci := 0) (v := .ref qa) (C := R_SP) (T := F_SP) (N := 4) hx hb hts in_SP hown hK hP 0 rfl rfl 0 (by decide) (hts _ (List.mem_cons_of_mem _ w_48)) (fun _ h9 => h9) rfl d_SP_u16_22 ?_
      refine lv_aload_n hx hb d_SP_u16_25 rfl (lv_at hl 0 rfl) ?_
      refine va_get (D := (dC, dI)) (ci := 0) (v := .int (nI (a))) (C := R_SP) (T := F_SP) (N := 4) hx hb hts in_SP hown hK hP 0 rfl rfl 1 (by decide) (hts _ (List.mem_cons_of_mem _ w_49)) (fun _ h9 => h9) rfl d_SP_u16_26 ?_
      refine lv_iload_n hx hb d_SP_u16_29 rfl (lv_at hl 1 rfl) ?_
      refine lv_iadd hx hb d_SP_u16_30 ?_
      refine lv_ci (y := nI (a + j)) (nI_add (a) (j)) ?_
      refine va_iald hx hb hK hP 1 0 rfl rfl (pk_in (a + j) 1200 (by omega) rfl (by decide)) d_SP_u16_31 ?_
      refine lv_topi (fun v11 ev11 => ?_)
      refine lv_bipush (v := 8) hx hb d_SP_u16_32 (by decide) ?_
      refine lv_ishl hx hb d_SP_u16_34 ?_
      refine lv_topi (fun v12 ev12 => ?_)
      refine lv_aload_n hx hb d_SP_u16_35 rfl (lv_at hl 0 rfl) ?_
      refine va_get (D := (dC, dI)) (ci := 0) (v := .ref qa) (C := R_SP) (T := F_SP) (N := 4) hx hb hts in_SP hown hK hP 0 rfl rfl 0 (by decide) (hts _ (List.mem_cons_of_mem _ w_48)) (fun _ h9 => h9) rfl d_SP_u16_36 ?_
      refine lv_aload_n hx hb d_SP_u16_39 rfl (lv_at hl 0 rfl) ?_
      refine va_get (D := (dC, dI)) (ci := 0) (v := .int (nI (a))) (C := R_SP) (T := F_SP) (N := 4) hx hb hts in_SP hown hK hP 0 rfl rfl 1 (by decide) (hts _ (List.mem_cons_of_mem _ w_49)) (fun _ h9 => h9) rfl d_SP_u16_40 ?_
      refine lv_iload_n hx hb d_SP_u16_43 rfl (lv_at hl 1 rfl) ?_
      refine lv_iadd hx hb d_SP_u16_44 ?_
      refine lv_ci (y := nI (a + j)) (nI_add (a) (j)) ?_
      refine lv_iconst (v := 1) hx hb d_SP_u16_45 (by decide) ?_
      refine lv_iadd hx hb d_SP_u16_46 ?_
      refine lv_ci (y := nI (a + j + 1)) (nI_add (a + j) (1)) ?_
      refine va_iald hx hb hK hP 1 0 rfl rfl (pk_in (a + j + 1) 1200 (by omega) rfl (by decide)) d_SP_u16_47 ?_
      refine lv_topi (fun v13 ev13 => ?_)
      refine lv_ior hx hb d_SP_u16_48 ?_
      refine lv_topi (fun v14 ev14 => ?_)
      refine W.widen (k := 0) (n := 0) (Nat.le_of_ble_eq_true rfl) (Nat.le_of_ble_eq_true rfl) ?_
      have hP9 := hP.sub (ws' := [(h0, .inr (0, [.ref qa, .int (nI (a)), .int (nI (n)), .int (bI mi)])), (qa, .inl (cA, 1200, .inl (f)))]) [0, 1] rfl
      have hD9 := hD.sub (ws' := [(h0, .inr (0, [.ref qa, .int (nI (a)), .int (nI (n)), .int (bI mi)])), (qa, .inl (cA, 1200, .inl (f)))]) [0, 1] (by decide) rfl
      have hK9 := hK.sub (tys' := [(cA, .int)]) [0] rfl
      exact W.iret (v := v14) hx hb hr (fun t ht hW => ⟨⟨v14, (), rfl, u16_ok (by rw [ev11]; exact hq1 _) (by rw [ev13]; exact hq1 _) ev12 ev14, mi, by rw [ht]; exact hP9, va_K.moved hW.alike hK9, hD9⟩, hS.F ht⟩) hS.2.2 d_SP_u16_49
    · skip
      refine lv_aload_n hx hb d_SP_u16_14 rfl (lv_at hl 0 rfl) ?_
      refine lv_iconst (v := 1) hx hb d_SP_u16_15 (by decide) ?_
      refine va_put (D := (dC, dI)) (ci := 0) (v := .int 1) (ty := .boolean) (C := R_SP) (T := F_SP) (N := 4) hx hb hts in_SP t_SP t_SP_ok n_SP hown hK hP hD hS 0 rfl rfl 3 (by decide) (hts _ (List.mem_cons_of_mem _ w_55)) (fun _ h9 => h9) rfl  (by decide +kernel) rfl rfl (Nat.le_of_ble_eq_true rfl) d_SP_u16_16 (fun H locs hP hD hS => ?_)
      have hP : va_P (dC, dI) cls_ [(h0, .inr (0, [.ref qa, .int (nI (a)), .int (nI (n)), .int 1])), (qa, .inl (cA, 1200, .inl (f)))] H := hP
      have hD : va_D A [(h0, .inr (0, [.ref qa, .int (nI (a)), .int (nI (n)), .int 1])), (qa, .inl (cA, 1200, .inl (f)))] := hD
      refine lv_iconst (v := 0) hx hb d_SP_u16_19 (by decide) ?_
      refine W.widen (k := 0) (n := 0) (Nat.le_of_ble_eq_true rfl) (Nat.le_of_ble_eq_true rfl) ?_
      have hP9 := hP.sub (ws' := [(h0, .inr (0, [.ref qa, .int (nI (a)), .int (nI (n)), .int 1])), (qa, .inl (cA, 1200, .inl (f)))]) [0, 1] rfl
      have hD9 := hD.sub (ws' := [(h0, .inr (0, [.ref qa, .int (nI (a)), .int (nI (n)), .int 1])), (qa, .inl (cA, 1200, .inl (f)))]) [0, 1] (by decide) rfl
      have hK9 := hK.sub (tys' := [(cA, .int)]) [0] rfl
      exact W.iret (v := 0) hx hb hr (fun t ht hW => ⟨⟨0, (), rfl, ⟨0, by decide, rfl⟩, true, by rw [ht]; exact hP9, va_K.moved hW.alike hK9, hD9⟩, hS.F ht⟩) hS.2.2 d_SP_u16_20
