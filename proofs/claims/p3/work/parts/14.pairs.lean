abbrev b_PA_haveNone : ByteArray := prog_8_method_2_code
def y_PA_haveNone : MethodName := ⟨R_PA, "haveNone", "()V"⟩
def s_PA_haveNone : List Cond := .code y_PA_haveNone b_PA_haveNone 1 none :: tw_T
abbrev b_PA_isRight : ByteArray := prog_8_method_3_code
def y_PA_isRight : MethodName := ⟨R_PA, "isRight", "()Z"⟩
def s_PA_isRight : List Cond := .code y_PA_isRight b_PA_isRight 1 (some .boolean) :: tw_T
abbrev b_PA_between : ByteArray := prog_8_method_4_code
def y_PA_between : MethodName := ⟨R_PA, "between", "(II)I"⟩
def s_PA_between : List Cond := .code y_PA_between b_PA_between 4 (some .int) :: tw_T
theorem w_108 : (Jvm.Cond.fieldLink "GlyphLines$Pairs" (18 : Nat) "GlyphLines$Pairs" "kern" "LGlyphLines$Span;") ∈ tw_T := tw_of 108 (by decide +kernel) (by decide +kernel)
theorem w_110 : (Jvm.Cond.fieldLink "GlyphLines$Pairs" (7 : Nat) "GlyphLines$Pairs" "pairs" "I") ∈ tw_T := tw_of 110 (by decide +kernel) (by decide +kernel)
theorem w_458 : (Jvm.Cond.methodLink "GlyphLines$Pairs" (22 : Nat) ({ cls := "GlyphLines$Span", name := "u16", desc := "(I)I" } : Jvm.MethodName)) ∈ tw_T := tw_of 458 (by decide +kernel) (by decide +kernel)
theorem w_459 : (Jvm.Cond.constantLong "GlyphLines$Pairs" (30 : Nat) (18 : Int64)) ∈ tw_T := tw_of 459 (by decide +kernel) (by decide +kernel)
theorem w_460 : (Jvm.Cond.constantLong "GlyphLines$Pairs" (32 : Nat) (6 : Int64)) ∈ tw_T := tw_of 460 (by decide +kernel) (by decide +kernel)
theorem w_461 : (Jvm.Cond.methodLink "GlyphLines$Pairs" (34 : Nat) ({ cls := "GlyphLines$Span", name := "holds", desc := "(JJ)Z" } : Jvm.MethodName)) ∈ tw_T := tw_of 461 (by decide +kernel) (by decide +kernel)
theorem d_PA_between_0 : decode b_PA_between 0 = .ok (.bipush 18, 2) := by decide +kernel
theorem d_PA_between_12 : decode b_PA_between 12 = .ok (.imul, 1) := by decide +kernel
theorem d_PA_between_13 : decode b_PA_between 13 = .ok (.iadd, 1) := by decide +kernel
theorem d_PA_between_14 : decode b_PA_between 14 = .ok (.if_icmp .ge (47), 3) := by decide +kernel
theorem d_PA_between_17 : decode b_PA_between 17 = .ok (.aload_n 0, 1) := by decide +kernel
theorem d_PA_between_18 : decode b_PA_between 18 = .ok (.getfield 18, 3) := by decide +kernel
theorem d_PA_between_2 : decode b_PA_between 2 = .ok (.istore_n 3, 1) := by decide +kernel
theorem d_PA_between_21 : decode b_PA_between 21 = .ok (.iload_n 3, 1) := by decide +kernel
theorem d_PA_between_22 : decode b_PA_between 22 = .ok (.invokevirtual 22, 3) := by decide +kernel
theorem d_PA_between_25 : decode b_PA_between 25 = .ok (.iload_n 1, 1) := by decide +kernel
theorem d_PA_between_26 : decode b_PA_between 26 = .ok (.if_icmp .ne (29), 3) := by decide +kernel
theorem d_PA_between_29 : decode b_PA_between 29 = .ok (.aload_n 0, 1) := by decide +kernel
theorem d_PA_between_3 : decode b_PA_between 3 = .ok (.iload_n 3, 1) := by decide +kernel
theorem d_PA_between_30 : decode b_PA_between 30 = .ok (.getfield 18, 3) := by decide +kernel
theorem d_PA_between_33 : decode b_PA_between 33 = .ok (.iload_n 3, 1) := by decide +kernel
theorem d_PA_between_34 : decode b_PA_between 34 = .ok (.iconst 2, 1) := by decide +kernel
theorem d_PA_between_35 : decode b_PA_between 35 = .ok (.iadd, 1) := by decide +kernel
theorem d_PA_between_36 : decode b_PA_between 36 = .ok (.invokevirtual 22, 3) := by decide +kernel
theorem d_PA_between_39 : decode b_PA_between 39 = .ok (.iload_n 2, 1) := by decide +kernel
theorem d_PA_between_4 : decode b_PA_between 4 = .ok (.bipush 18, 2) := by decide +kernel
theorem d_PA_between_40 : decode b_PA_between 40 = .ok (.if_icmp .ne (15), 3) := by decide +kernel
theorem d_PA_between_43 : decode b_PA_between 43 = .ok (.aload_n 0, 1) := by decide +kernel
theorem d_PA_between_44 : decode b_PA_between 44 = .ok (.getfield 18, 3) := by decide +kernel
theorem d_PA_between_47 : decode b_PA_between 47 = .ok (.iload_n 3, 1) := by decide +kernel
theorem d_PA_between_48 : decode b_PA_between 48 = .ok (.iconst 4, 1) := by decide +kernel
theorem d_PA_between_49 : decode b_PA_between 49 = .ok (.iadd, 1) := by decide +kernel
theorem d_PA_between_50 : decode b_PA_between 50 = .ok (.invokevirtual 22, 3) := by decide +kernel
theorem d_PA_between_53 : decode b_PA_between 53 = .ok (.i2s, 1) := by decide +kernel
theorem d_PA_between_54 : decode b_PA_between 54 = .ok (.ireturn, 1) := by decide +kernel
theorem d_PA_between_55 : decode b_PA_between 55 = .ok (.iinc 3 (6), 3) := by decide +kernel
theorem d_PA_between_58 : decode b_PA_between 58 = .ok (.goto (-55), 3) := by decide +kernel
theorem d_PA_between_6 : decode b_PA_between 6 = .ok (.bipush 6, 2) := by decide +kernel
theorem d_PA_between_61 : decode b_PA_between 61 = .ok (.iconst 0, 1) := by decide +kernel
theorem d_PA_between_62 : decode b_PA_between 62 = .ok (.ireturn, 1) := by decide +kernel
theorem d_PA_between_8 : decode b_PA_between 8 = .ok (.aload_n 0, 1) := by decide +kernel
theorem d_PA_between_9 : decode b_PA_between 9 = .ok (.getfield 7, 3) := by decide +kernel
theorem d_PA_haveNone_0 : decode b_PA_haveNone 0 = .ok (.aload_n 0, 1) := by decide +kernel
theorem d_PA_haveNone_1 : decode b_PA_haveNone 1 = .ok (.iconst 0, 1) := by decide +kernel
theorem d_PA_haveNone_2 : decode b_PA_haveNone 2 = .ok (.putfield 7, 3) := by decide +kernel
theorem d_PA_haveNone_5 : decode b_PA_haveNone 5 = .ok (.return_, 1) := by decide +kernel
theorem d_PA_isRight_0 : decode b_PA_isRight 0 = .ok (.aload_n 0, 1) := by decide +kernel
theorem d_PA_isRight_1 : decode b_PA_isRight 1 = .ok (.aload_n 0, 1) := by decide +kernel
theorem d_PA_isRight_10 : decode b_PA_isRight 10 = .ok (.putfield 7, 3) := by decide +kernel
theorem d_PA_isRight_13 : decode b_PA_isRight 13 = .ok (.aload_n 0, 1) := by decide +kernel
theorem d_PA_isRight_14 : decode b_PA_isRight 14 = .ok (.getfield 18, 3) := by decide +kernel
theorem d_PA_isRight_17 : decode b_PA_isRight 17 = .ok (.iconst 2, 1) := by decide +kernel
theorem d_PA_isRight_18 : decode b_PA_isRight 18 = .ok (.invokevirtual 22, 3) := by decide +kernel
theorem d_PA_isRight_2 : decode b_PA_isRight 2 = .ok (.getfield 18, 3) := by decide +kernel
theorem d_PA_isRight_21 : decode b_PA_isRight 21 = .ok (.iconst 1, 1) := by decide +kernel
theorem d_PA_isRight_22 : decode b_PA_isRight 22 = .ok (.if_icmp .lt (16), 3) := by decide +kernel
theorem d_PA_isRight_25 : decode b_PA_isRight 25 = .ok (.aload_n 0, 1) := by decide +kernel
theorem d_PA_isRight_26 : decode b_PA_isRight 26 = .ok (.getfield 18, 3) := by decide +kernel
theorem d_PA_isRight_29 : decode b_PA_isRight 29 = .ok (.bipush 8, 2) := by decide +kernel
theorem d_PA_isRight_31 : decode b_PA_isRight 31 = .ok (.invokevirtual 22, 3) := by decide +kernel
theorem d_PA_isRight_34 : decode b_PA_isRight 34 = .ok (.iconst 1, 1) := by decide +kernel
theorem d_PA_isRight_35 : decode b_PA_isRight 35 = .ok (.if_icmp .eq (5), 3) := by decide +kernel
theorem d_PA_isRight_38 : decode b_PA_isRight 38 = .ok (.iconst 0, 1) := by decide +kernel
theorem d_PA_isRight_39 : decode b_PA_isRight 39 = .ok (.ireturn, 1) := by decide +kernel
theorem d_PA_isRight_40 : decode b_PA_isRight 40 = .ok (.aload_n 0, 1) := by decide +kernel
theorem d_PA_isRight_41 : decode b_PA_isRight 41 = .ok (.getfield 18, 3) := by decide +kernel
theorem d_PA_isRight_44 : decode b_PA_isRight 44 = .ok (.getfield 26, 3) := by decide +kernel
theorem d_PA_isRight_47 : decode b_PA_isRight 47 = .ok (.ifCond .ne (36), 3) := by decide +kernel
theorem d_PA_isRight_5 : decode b_PA_isRight 5 = .ok (.bipush 10, 2) := by decide +kernel
theorem d_PA_isRight_50 : decode b_PA_isRight 50 = .ok (.aload_n 0, 1) := by decide +kernel
theorem d_PA_isRight_51 : decode b_PA_isRight 51 = .ok (.getfield 7, 3) := by decide +kernel
theorem d_PA_isRight_54 : decode b_PA_isRight 54 = .ok (.ifCond .eq (25), 3) := by decide +kernel
theorem d_PA_isRight_57 : decode b_PA_isRight 57 = .ok (.aload_n 0, 1) := by decide +kernel
theorem d_PA_isRight_58 : decode b_PA_isRight 58 = .ok (.getfield 18, 3) := by decide +kernel
theorem d_PA_isRight_61 : decode b_PA_isRight 61 = .ok (.ldc2_w 30, 3) := by decide +kernel
theorem d_PA_isRight_64 : decode b_PA_isRight 64 = .ok (.ldc2_w 32, 3) := by decide +kernel
theorem d_PA_isRight_67 : decode b_PA_isRight 67 = .ok (.aload_n 0, 1) := by decide +kernel
theorem d_PA_isRight_68 : decode b_PA_isRight 68 = .ok (.getfield 7, 3) := by decide +kernel
theorem d_PA_isRight_7 : decode b_PA_isRight 7 = .ok (.invokevirtual 22, 3) := by decide +kernel
theorem d_PA_isRight_71 : decode b_PA_isRight 71 = .ok (.i2l, 1) := by decide +kernel
theorem d_PA_isRight_72 : decode b_PA_isRight 72 = .ok (.lmul, 1) := by decide +kernel
theorem d_PA_isRight_73 : decode b_PA_isRight 73 = .ok (.invokevirtual 34, 3) := by decide +kernel
theorem d_PA_isRight_76 : decode b_PA_isRight 76 = .ok (.ifCond .eq (7), 3) := by decide +kernel
theorem d_PA_isRight_79 : decode b_PA_isRight 79 = .ok (.iconst 1, 1) := by decide +kernel
theorem d_PA_isRight_80 : decode b_PA_isRight 80 = .ok (.goto (4), 3) := by decide +kernel
theorem d_PA_isRight_83 : decode b_PA_isRight 83 = .ok (.iconst 0, 1) := by decide +kernel
theorem d_PA_isRight_84 : decode b_PA_isRight 84 = .ok (.ireturn, 1) := by decide +kernel
set_option maxHeartbeats 4000000 in
set_option maxRecDepth 100000 in
/-- GlyphLines$Pairs.haveNone -/
theorem g_PA_haveNone (l : Launch) (dC : Nat → ClassId) (dI : Nat → Nat → Nat) (h0 : Nat) (qw : Nat) (pr : Int32) (sz : Nat) : Met l y_PA_haveNone s_PA_haveNone ({ frames := 8, cells := 0, slots := 0, locals := 200 }) (va_Pc [.ref h0] (fun U => U.heap.size = sz ∧ va_P (dC, dI) cls_ [(h0, .inr (3, [.ref qw, .int pr]))] U.heap ∧ va_K (dC, dI) cls_ [] U ∧ va_D (fun _ => True) [(h0, .inr (3, [.ref qw, .int pr]))])) (va_Qv (fun _ : Unit => True) (fun (_ : Unit) (t : State) => va_P (dC, dI) cls_ [(h0, .inr (3, [.ref qw, .int 0]))] t.heap ∧ va_K (dC, dI) cls_ [] t ∧ va_D (va_A [(h0, .inr (3, [.ref qw, .int pr]))] sz) [(h0, .inr (3, [.ref qw, .int 0]))]) (va_A [(h0, .inr (3, [.ref qw, .int pr]))] sz)) 0 0 (va_A [(h0, .inr (3, [.ref qw, .int pr]))] sz) := by
  refine Met.ofW (cc := b_PA_haveNone) (maxL := 1) (ret := none) (by decide) rfl ?_
  intro p e s m args below meth c s₁ B hml hv
  obtain ⟨rfl, hsz, hP, hK, hD0⟩ := hv
  have hx := B.exec
  have hb := B.bytes
  have hr := B.returns
  have hts := atoms_spec (ws := s_PA_haveNone) B.pre
  have hown : s.vm.findClass R_PA = some m.cls := findClass_of_methodNamed B.named
  have hlocks := B.notSynchronized
  subst hsz
  have hD := hD0.self (sz := s.heap.size)
  generalize hAe : va_A [(h0, .inr (3, [.ref qw, .int pr]))] s.heap.size = A at hD ⊢
  have hA : ∀ q : Nat, s.heap.size ≤ q → A q := fun q h => by rw [← hAe]; exact Or.inr h
  have hS : va_S A s.heap s.heap [] := va_S.rf
  have hP : va_P (dC, dI) cls_ [(h0, .inr (3, [.ref qw, .int pr]))] s.heap := hP
  have hl := lv_entry ([.ref h0]) (n := 1) (Nat.le_of_ble_eq_true rfl)
  rw [lg_entry_eq]
  generalize (lg_sl ([.ref h0]) ++ List.replicate (1 - (lg_sl ([.ref h0])).length) Slot.unset).toArray = ls at hl ⊢
  have hl : lv_has ls 1 [(0, .ref h0)] := hl
  refine lv_aload_n hx hb d_PA_haveNone_0 rfl (lv_at hl 0 rfl) ?_
  refine lv_iconst (v := 0) hx hb d_PA_haveNone_1 (by decide) ?_
  refine va_put (D := (dC, dI)) (ci := 3) (v := .int 0) (ty := .int) (C := R_PA) (T := F_PA) (N := 2) hx hb hts in_PA t_PA t_PA_ok n_PA hown hK hP hD hS 0 rfl rfl 1 (by decide) (hts _ (List.mem_cons_of_mem _ w_110)) (fun _ h9 => h9) rfl  (by decide +kernel) rfl rfl (Nat.le_of_ble_eq_true rfl) d_PA_haveNone_2 (fun H locs hP hD hS => ?_)
  have hP : va_P (dC, dI) cls_ [(h0, .inr (3, [.ref qw, .int 0]))] H := hP
  have hD : va_D A [(h0, .inr (3, [.ref qw, .int 0]))] := hD
  refine W.widen (k := 0) (n := 0) (Nat.le_of_ble_eq_true rfl) (Nat.le_of_ble_eq_true rfl) ?_
  have hP9 := hP.sub (ws' := [(h0, .inr (3, [.ref qw, .int 0]))]) [0] rfl
  have hD9 := hD.sub (ws' := [(h0, .inr (3, [.ref qw, .int 0]))]) [0] (by decide) rfl
  have hK9 := hK.sub (tys' := []) [] rfl
  exact W.vret hx hb hr (fun t ht hW => ⟨⟨(), rfl, trivial, by rw [ht]; exact hP9, va_K.moved hW.alike hK9, hD9⟩, hS.F ht⟩) hS.2.2 d_PA_haveNone_5
set_option maxHeartbeats 4000000 in
set_option maxRecDepth 100000 in
/-- GlyphLines$Pairs.isRight -/
theorem g_PA_isRight (l : Launch) (dC : Nat → ClassId) (dI : Nat → Nat → Nat) (h0 : Nat) (qw : Nat) (qa : Nat) (a : Nat) (n : Nat) (mi : Bool) (cA : ClassId) (f : Nat → Int32) (pr : Nat) (sz : Nat) (hq0 : a + n ≤ 1200) (hq1 : isB f) : Met l y_PA_isRight s_PA_isRight ({ frames := 10, cells := 0, slots := 0, locals := 300 }) (va_Pc [.ref h0] (fun U => U.heap.size = sz ∧ va_P (dC, dI) cls_ [(h0, .inr (3, [.ref qw, .int (nI (pr))])), (qw, .inr (0, [.ref qa, .int (nI (a)), .int (nI (n)), .int (bI mi)])), (qa, .inl (cA, 1200, .inl (f)))] U.heap ∧ va_K (dC, dI) cls_ [(cA, .int)] U ∧ va_D (fun _ => True) [(h0, .inr (3, [.ref qw, .int (nI (pr))])), (qw, .inr (0, [.ref qa, .int (nI (a)), .int (nI (n)), .int (bI mi)])), (qa, .inl (cA, 1200, .inl (f)))] ∧ nests U)) (va_Qi (fun (r : Int32) (_ : Unit) => ∃ b9 : Bool, r = bI b9) (fun (_ : Unit) (t : State) => ∃ (m2 : Bool) (p2 : Nat), p2 < 65536 ∧ va_P (dC, dI) cls_ [(h0, .inr (3, [.ref qw, .int (nI (p2))])), (qw, .inr (0, [.ref qa, .int (nI (a)), .int (nI (n)), .int (bI m2)])), (qa, .inl (cA, 1200, .inl (f)))] t.heap ∧ va_K (dC, dI) cls_ [(cA, .int)] t ∧ va_D (va_A [(h0, .inr (3, [.ref qw, .int (nI (pr))])), (qw, .inr (0, [.ref qa, .int (nI (a)), .int (nI (n)), .int (bI mi)])), (qa, .inl (cA, 1200, .inl (f)))] sz) [(h0, .inr (3, [.ref qw, .int (nI (p2))])), (qw, .inr (0, [.ref qa, .int (nI (a)), .int (nI (n)), .int (bI m2)])), (qa, .inl (cA, 1200, .inl (f)))]) (va_A [(h0, .inr (3, [.ref qw, .int (nI (pr))])), (qw, .inr (0, [.ref qa, .int (nI (a)), .int (nI (n)), .int (bI mi)])), (qa, .inl (cA, 1200, .inl (f)))] sz)) 0 0 (va_A [(h0, .inr (3, [.ref qw, .int (nI (pr))])), (qw, .inr (0, [.ref qa, .int (nI (a)), .int (nI (n)), .int (bI mi)])), (qa, .inl (cA, 1200, .inl (f)))] sz) := by
  refine Met.ofW (cc := b_PA_isRight) (maxL := 1) (ret := (some .boolean)) (by decide) rfl ?_
  intro p e s m args below meth c s₁ B hml hv
  obtain ⟨rfl, hsz, hP, hK, hD0, hNs⟩ := hv
  have hx := B.exec
  have hb := B.bytes
  have hr := B.returns
  have hts := atoms_spec (ws := s_PA_isRight) B.pre
  have hown : s.vm.findClass R_PA = some m.cls := findClass_of_methodNamed B.named
  have hlocks := B.notSynchronized
  subst hsz
  have hD := hD0.self (sz := s.heap.size)
  generalize hAe : va_A [(h0, .inr (3, [.ref qw, .int (nI (pr))])), (qw, .inr (0, [.ref qa, .int (nI (a)), .int (nI (n)), .int (bI mi)])), (qa, .inl (cA, 1200, .inl (f)))] s.heap.size = A at hD ⊢
  have hA : ∀ q : Nat, s.heap.size ≤ q → A q := fun q h => by rw [← hAe]; exact Or.inr h
  have hS : va_S A s.heap s.heap [] := va_S.rf
  have hP : va_P (dC, dI) cls_ [(h0, .inr (3, [.ref qw, .int (nI (pr))])), (qw, .inr (0, [.ref qa, .int (nI (a)), .int (nI (n)), .int (bI mi)])), (qa, .inl (cA, 1200, .inl (f)))] s.heap := hP
  have hl := lv_entry ([.ref h0]) (n := 1) (Nat.le_of_ble_eq_true rfl)
  rw [lg_entry_eq]
  generalize (lg_sl ([.ref h0]) ++ List.replicate (1 - (lg_sl ([.ref h0])).length) Slot.unset).toArray = ls at hl ⊢
  have hl : lv_has ls 1 [(0, .ref h0)] := hl
  refine lv_aload_n hx hb d_PA_isRight_0 rfl (lv_at hl 0 rfl) ?_
  refine lv_aload_n hx hb d_PA_isRight_1 rfl (lv_at hl 0 rfl) ?_
  refine va_get (D := (dC, dI)) (ci := 3) (v := .ref qw) (C := R_PA) (T := F_PA) (N := 2) hx hb hts in_PA hown hK hP 0 rfl rfl 0 (by decide) (hts _ (List.mem_cons_of_mem _ w_108)) (fun _ h9 => h9) rfl d_PA_isRight_2 ?_
  refine lv_bipush (v := 10) hx hb d_PA_isRight_5 (by decide) ?_
  have hPc := hP.sub (ws' := [(qw, .inr (0, [.ref qa, .int (nI (a)), .int (nI (n)), .int (bI mi)])), (qa, .inl (cA, 1200, .inl (f)))]) [1, 2] rfl
  have hDc := hD.sub (ws' := [(qw, .inr (0, [.ref qa, .int (nI (a)), .int (nI (n)), .int (bI mi)])), (qa, .inl (cA, 1200, .inl (f)))]) [1, 2] (by decide) rfl
  have hKc := hK.sub (tys' := [(cA, .int)]) [0] rfl
  have hFc := va_free (wc := [(qw, .inr (0, [.ref qa, .int (nI (a)), .int (nI (n)), .int (bI mi)])), (qa, .inl (cA, 1200, .inl (f)))]) hD hS hA [1, 2] rfl
  refine va_calli (va_runV (As := [.int 10]) (rest := [.ref h0]) ⟨hx, hb, hml, hown, hts⟩ (g_SP_u16 l dC dI qw qa a n mi cA f 10 s.heap.size (by omega) (by assumption)) (cwV 1 hts (tw_inV w_458 w_353 w_354 w_4 w_355) rfl rfl rfl (by decide +kernel) ⟨Nat.le_of_ble_eq_true rfl, Nat.le_of_ble_eq_true rfl⟩) ⟨fun a U g mk q => by obtain ⟨q0, q1, qP, qK, qD⟩ := q; exact ⟨q0, q1, qP, va_K.moved (u := U) (U := U.calling g mk a) (Vm.Alike.refl U.vm) qK, qD⟩, va_recv (hK := hK) (hP := hP) (q0 := 1) (ci := 0) rfl rfl, fun U hU hW => ⟨rfl, by rw [hU], by rw [hU]; exact hPc, va_K.moved hW.alike hKc, hDc.weaken (fun _ _ _ _ => trivial)⟩⟩ rfl rfl hl.1 rfl (lv_room (Nat.le_of_ble_eq_true rfl)) d_PA_isRight_7 ⟨Nat.le_of_ble_eq_true rfl, Nat.le_of_ble_eq_true rfl⟩) hS (fun q _ h => hFc q h) hFc (fun r279 u t H1 locs ht hvm hw hB hz1 hk1 hS => ?_)
  obtain ⟨m_280, hP1, hK1, hD1⟩ := hB
  rw [ht] at hP1
  have hK1 := va_K.moved hvm.symm hK1
  obtain ⟨hP, hD⟩ := va_join (wr := [(h0, .inr (3, [.ref qw, .int (nI (pr))]))]) (w1 := [(qw, .inr (0, [.ref qa, .int (nI (a)), .int (nI (n)), .int (bI m_280)])), (qa, .inl (cA, 1200, .inl (f)))]) hP hD [1, 2] [0] rfl rfl (by decide) (by decide) hk1 hFc hP1 hD1
  have hK := (hK.sub (tys' := []) [] rfl).app hK1
  generalize H1 = H at hP hS ⊢
  have hP : va_P (dC, dI) cls_ [(h0, .inr (3, [.ref qw, .int (nI (pr))])), (qw, .inr (0, [.ref qa, .int (nI (a)), .int (nI (n)), .int (bI m_280)])), (qa, .inl (cA, 1200, .inl (f)))] H := hP
  have hD : va_D A [(h0, .inr (3, [.ref qw, .int (nI (pr))])), (qw, .inr (0, [.ref qa, .int (nI (a)), .int (nI (n)), .int (bI m_280)])), (qa, .inl (cA, 1200, .inl (f)))] := hD
  have hK : va_K (dC, dI) cls_ [(cA, .int)] s := hK
  have hw_r279 := hw
  obtain ⟨kn281, hb_kn281, rfl⟩ := hw_r279
  refine va_put (D := (dC, dI)) (ci := 3) (v := .int (nI (kn281))) (ty := .int) (C := R_PA) (T := F_PA) (N := 2) hx hb hts in_PA t_PA t_PA_ok n_PA hown hK hP hD hS 0 rfl rfl 1 (by decide) (hts _ (List.mem_cons_of_mem _ w_110)) (fun _ h9 => h9) rfl  (by decide +kernel) rfl rfl (Nat.le_of_ble_eq_true rfl) d_PA_isRight_10 (fun H locs hP hD hS => ?_)
  have hP : va_P (dC, dI) cls_ [(h0, .inr (3, [.ref qw, .int (nI (kn281))])), (qw, .inr (0, [.ref qa, .int (nI (a)), .int (nI (n)), .int (bI m_280)])), (qa, .inl (cA, 1200, .inl (f)))] H := hP
  have hD : va_D A [(h0, .inr (3, [.ref qw, .int (nI (kn281))])), (qw, .inr (0, [.ref qa, .int (nI (a)), .int (nI (n)), .int (bI m_280)])), (qa, .inl (cA, 1200, .inl (f)))] := hD
  refine lv_aload_n hx hb d_PA_isRight_13 rfl (lv_at hl 0 rfl) ?_
  refine va_get (D := (dC, dI)) (ci := 3) (v := .ref qw) (C := R_PA) (T := F_PA) (N := 2) hx hb hts in_PA hown hK hP 0 rfl rfl 0 (by decide) (hts _ (List.mem_cons_of_mem _ w_108)) (fun _ h9 => h9) rfl d_PA_isRight_14 ?_
  refine lv_iconst (v := 2) hx hb d_PA_isRight_17 (by decide) ?_
  have hPc := hP.sub (ws' := [(qw, .inr (0, [.ref qa, .int (nI (a)), .int (nI (n)), .int (bI m_280)])), (qa, .inl (cA, 1200, .inl (f)))]) [1, 2] rfl
  have hDc := hD.sub (ws' := [(qw, .inr (0, [.ref qa, .int (nI (a)), .int (nI (n)), .int (bI m_280)])), (qa, .inl (cA, 1200, .inl (f)))]) [1, 2] (by decide) rfl
  have hKc := hK.sub (tys' := [(cA, .int)]) [0] rfl
  have hFc := va_free (wc := [(qw, .inr (0, [.ref qa, .int (nI (a)), .int (nI (n)), .int (bI m_280)])), (qa, .inl (cA, 1200, .inl (f)))]) hD hS hA [1, 2] rfl
  refine va_calli (va_runV (As := [.int 2]) (rest := []) ⟨hx, hb, hml, hown, hts⟩ (g_SP_u16 l dC dI qw qa a n m_280 cA f 2 H.size (by omega) (by assumption)) (cwV 1 hts (tw_inV w_458 w_353 w_354 w_4 w_355) rfl rfl rfl (by decide +kernel) ⟨Nat.le_of_ble_eq_true rfl, Nat.le_of_ble_eq_true rfl⟩) ⟨fun a U g mk q => by obtain ⟨q0, q1, qP, qK, qD⟩ := q; exact ⟨q0, q1, qP, va_K.moved (u := U) (U := U.calling g mk a) (Vm.Alike.refl U.vm) qK, qD⟩, va_recv (hK := hK) (hP := hP) (q0 := 1) (ci := 0) rfl rfl, fun U hU hW => ⟨rfl, by rw [hU], by rw [hU]; exact hPc, va_K.moved hW.alike hKc, hDc.weaken (fun _ _ _ _ => trivial)⟩⟩ rfl rfl hl.1 rfl (lv_room (Nat.le_of_ble_eq_true rfl)) d_PA_isRight_18 ⟨Nat.le_of_ble_eq_true rfl, Nat.le_of_ble_eq_true rfl⟩) hS (fun q _ h => hFc q h) hFc (fun r282 u t H1 locs ht hvm hw hB hz1 hk1 hS => ?_)
  obtain ⟨m_283, hP1, hK1, hD1⟩ := hB
  rw [ht] at hP1
  have hK1 := va_K.moved hvm.symm hK1
  obtain ⟨hP, hD⟩ := va_join (wr := [(h0, .inr (3, [.ref qw, .int (nI (kn281))]))]) (w1 := [(qw, .inr (0, [.ref qa, .int (nI (a)), .int (nI (n)), .int (bI m_283)])), (qa, .inl (cA, 1200, .inl (f)))]) hP hD [1, 2] [0] rfl rfl (by decide) (by decide) hk1 hFc hP1 hD1
  have hK := (hK.sub (tys' := []) [] rfl).app hK1
  generalize H1 = H at hP hS ⊢
  have hP : va_P (dC, dI) cls_ [(h0, .inr (3, [.ref qw, .int (nI (kn281))])), (qw, .inr (0, [.ref qa, .int (nI (a)), .int (nI (n)), .int (bI m_283)])), (qa, .inl (cA, 1200, .inl (f)))] H := hP
  have hD : va_D A [(h0, .inr (3, [.ref qw, .int (nI (kn281))])), (qw, .inr (0, [.ref qa, .int (nI (a)), .int (nI (n)), .int (bI m_283)])), (qa, .inl (cA, 1200, .inl (f)))] := hD
  have hK : va_K (dC, dI) cls_ [(cA, .int)] s := hK
  have hw_r282 := hw
  obtain ⟨kn284, hb_kn284, rfl⟩ := hw_r282
  refine lv_iconst (v := 1) hx hb d_PA_isRight_21 (by decide) ?_
  refine lv_icmp_lt (tgt := 38) hx hb d_PA_isRight_22 (by decide) (fun hc285 => ?_) (fun hc285 => ?_)
  · skip
    have hc285n : kn284 < 1 := (nI_ltI (a := kn284) (b := 1) (by omega) (by omega)).mp hc285
    refine lv_iconst (v := 0) hx hb d_PA_isRight_38 (by decide) ?_
    refine W.widen (k := 0) (n := 0) (Nat.le_of_ble_eq_true rfl) (Nat.le_of_ble_eq_true rfl) ?_
    have hP9 := hP.sub (ws' := [(h0, .inr (3, [.ref qw, .int (nI (kn281))])), (qw, .inr (0, [.ref qa, .int (nI (a)), .int (nI (n)), .int (bI m_283)])), (qa, .inl (cA, 1200, .inl (f)))]) [0, 1, 2] rfl
    have hD9 := hD.sub (ws' := [(h0, .inr (3, [.ref qw, .int (nI (kn281))])), (qw, .inr (0, [.ref qa, .int (nI (a)), .int (nI (n)), .int (bI m_283)])), (qa, .inl (cA, 1200, .inl (f)))]) [0, 1, 2] (by decide) rfl
    have hK9 := hK.sub (tys' := [(cA, .int)]) [0] rfl
    exact W.zret (v := 0) (ty := .boolean) hx hb hr (by decide +kernel) (fun t ht hW => ⟨⟨0, (), rfl, ⟨false, rfl⟩, m_283, kn281, by omega, by rw [ht]; exact hP9, va_K.moved hW.alike hK9, hD9⟩, hS.F ht⟩) hS.2.2 d_PA_isRight_39
  · skip
    have hc285n : ¬ (kn284 < 1) := fun z => hc285 ((nI_ltI (a := kn284) (b := 1) (by omega) (by omega)).mpr z)
    refine lv_aload_n hx hb d_PA_isRight_25 rfl (lv_at hl 0 rfl) ?_
    refine va_get (D := (dC, dI)) (ci := 3) (v := .ref qw) (C := R_PA) (T := F_PA) (N := 2) hx hb hts in_PA hown hK hP 0 rfl rfl 0 (by decide) (hts _ (List.mem_cons_of_mem _ w_108)) (fun _ h9 => h9) rfl d_PA_isRight_26 ?_
    refine lv_bipush (v := 8) hx hb d_PA_isRight_29 (by decide) ?_
    have hPc := hP.sub (ws' := [(qw, .inr (0, [.ref qa, .int (nI (a)), .int (nI (n)), .int (bI m_283)])), (qa, .inl (cA, 1200, .inl (f)))]) [1, 2] rfl
    have hDc := hD.sub (ws' := [(qw, .inr (0, [.ref qa, .int (nI (a)), .int (nI (n)), .int (bI m_283)])), (qa, .inl (cA, 1200, .inl (f)))]) [1, 2] (by decide) rfl
    have hKc := hK.sub (tys' := [(cA, .int)]) [0] rfl
    have hFc := va_free (wc := [(qw, .inr (0, [.ref qa, .int (nI (a)), .int (nI (n)), .int (bI m_283)])), (qa, .inl (cA, 1200, .inl (f)))]) hD hS hA [1, 2] rfl
    refine va_calli (va_runV (As := [.int 8]) (rest := []) ⟨hx, hb, hml, hown, hts⟩ (g_SP_u16 l dC dI qw qa a n m_283 cA f 8 H.size (by omega) (by assumption)) (cwV 1 hts (tw_inV w_458 w_353 w_354 w_4 w_355) rfl rfl rfl (by decide +kernel) ⟨Nat.le_of_ble_eq_true rfl, Nat.le_of_ble_eq_true rfl⟩) ⟨fun a U g mk q => by obtain ⟨q0, q1, qP, qK, qD⟩ := q; exact ⟨q0, q1, qP, va_K.moved (u := U) (U := U.calling g mk a) (Vm.Alike.refl U.vm) qK, qD⟩, va_recv (hK := hK) (hP := hP) (q0 := 1) (ci := 0) rfl rfl, fun U hU hW => ⟨rfl, by rw [hU], by rw [hU]; exact hPc, va_K.moved hW.alike hKc, hDc.weaken (fun _ _ _ _ => trivial)⟩⟩ rfl rfl hl.1 rfl (lv_room (Nat.le_of_ble_eq_true rfl)) d_PA_isRight_31 ⟨Nat.le_of_ble_eq_true rfl, Nat.le_of_ble_eq_true rfl⟩) hS (fun q _ h => hFc q h) hFc (fun r286 u t H1 locs ht hvm hw hB hz1 hk1 hS => ?_)
    obtain ⟨m_287, hP1, hK1, hD1⟩ := hB
    rw [ht] at hP1
    have hK1 := va_K.moved hvm.symm hK1
    obtain ⟨hP, hD⟩ := va_join (wr := [(h0, .inr (3, [.ref qw, .int (nI (kn281))]))]) (w1 := [(qw, .inr (0, [.ref qa, .int (nI (a)), .int (nI (n)), .int (bI m_287)])), (qa, .inl (cA, 1200, .inl (f)))]) hP hD [1, 2] [0] rfl rfl (by decide) (by decide) hk1 hFc hP1 hD1
    have hK := (hK.sub (tys' := []) [] rfl).app hK1
    generalize H1 = H at hP hS ⊢
    have hP : va_P (dC, dI) cls_ [(h0, .inr (3, [.ref qw, .int (nI (kn281))])), (qw, .inr (0, [.ref qa, .int (nI (a)), .int (nI (n)), .int (bI m_287)])), (qa, .inl (cA, 1200, .inl (f)))] H := hP
    have hD : va_D A [(h0, .inr (3, [.ref qw, .int (nI (kn281))])), (qw, .inr (0, [.ref qa, .int (nI (a)), .int (nI (n)), .int (bI m_287)])), (qa, .inl (cA, 1200, .inl (f)))] := hD
    have hK : va_K (dC, dI) cls_ [(cA, .int)] s := hK
    have hw_r286 := hw
    obtain ⟨kn288, hb_kn288, rfl⟩ := hw_r286
    refine lv_iconst (v := 1) hx hb d_PA_isRight_34 (by decide) ?_
    refine lv_icmp_eq (tgt := 40) hx hb d_PA_isRight_35 (by decide) (fun hc289 => ?_) (fun hc289 => ?_)
    · skip
      have hc289n : kn288 = 1 := (nI_eq (a := kn288) (b := 1) (by omega) (by omega)).mp hc289
      refine lv_aload_n hx hb d_PA_isRight_40 rfl (lv_at hl 0 rfl) ?_
      refine va_get (D := (dC, dI)) (ci := 3) (v := .ref qw) (C := R_PA) (T := F_PA) (N := 2) hx hb hts in_PA hown hK hP 0 rfl rfl 0 (by decide) (hts _ (List.mem_cons_of_mem _ w_108)) (fun _ h9 => h9) rfl d_PA_isRight_41 ?_
      refine va_getN (D := (dC, dI)) (ci := 0) (v := .int (bI m_287)) (C := R_SP) (T := F_SP) (N := 4) (host := "GlyphLines") hx hb hts in_SP hown hK hP 1 rfl rfl 3 (by decide) (va_Nw.use rfl (nest_4 hNs)) (fun _ h9 => h9) rfl d_PA_isRight_44 ?_
      refine lv_if_ne (tgt := 83) hx hb d_PA_isRight_47 (by decide) (fun hc290 => ?_) (fun hc290 => ?_)
      · skip
        have hc290b : m_287 = true := bI_1 hc290
        refine lv_iconst (v := 0) hx hb d_PA_isRight_83 (by decide) ?_
        refine W.widen (k := 0) (n := 0) (Nat.le_of_ble_eq_true rfl) (Nat.le_of_ble_eq_true rfl) ?_
        have hP9 := hP.sub (ws' := [(h0, .inr (3, [.ref qw, .int (nI (kn281))])), (qw, .inr (0, [.ref qa, .int (nI (a)), .int (nI (n)), .int (bI m_287)])), (qa, .inl (cA, 1200, .inl (f)))]) [0, 1, 2] rfl
        have hD9 := hD.sub (ws' := [(h0, .inr (3, [.ref qw, .int (nI (kn281))])), (qw, .inr (0, [.ref qa, .int (nI (a)), .int (nI (n)), .int (bI m_287)])), (qa, .inl (cA, 1200, .inl (f)))]) [0, 1, 2] (by decide) rfl
        have hK9 := hK.sub (tys' := [(cA, .int)]) [0] rfl
        exact W.zret (v := 0) (ty := .boolean) hx hb hr (by decide +kernel) (fun t ht hW => ⟨⟨0, (), rfl, ⟨false, rfl⟩, m_287, kn281, by omega, by rw [ht]; exact hP9, va_K.moved hW.alike hK9, hD9⟩, hS.F ht⟩) hS.2.2 d_PA_isRight_84
      · skip
        have hc290b : m_287 = false := bI_0 hc290
        refine lv_aload_n hx hb d_PA_isRight_50 rfl (lv_at hl 0 rfl) ?_
        refine va_get (D := (dC, dI)) (ci := 3) (v := .int (nI (kn281))) (C := R_PA) (T := F_PA) (N := 2) hx hb hts in_PA hown hK hP 0 rfl rfl 1 (by decide) (hts _ (List.mem_cons_of_mem _ w_110)) (fun _ h9 => h9) rfl d_PA_isRight_51 ?_
        refine lv_if_eq (tgt := 79) hx hb d_PA_isRight_54 (by decide) (fun hc291 => ?_) (fun hc291 => ?_)
        · skip
          have hc291n : kn281 = 0 := (nI_eq (a := kn281) (b := 0) (by omega) (by omega)).mp hc291
          refine lv_iconst (v := 1) hx hb d_PA_isRight_79 (by decide) ?_
          refine lv_goto (tgt := 84) hx hb d_PA_isRight_80 (by decide) ?_
          refine W.widen (k := 0) (n := 0) (Nat.le_of_ble_eq_true rfl) (Nat.le_of_ble_eq_true rfl) ?_
          have hP9 := hP.sub (ws' := [(h0, .inr (3, [.ref qw, .int (nI (kn281))])), (qw, .inr (0, [.ref qa, .int (nI (a)), .int (nI (n)), .int (bI m_287)])), (qa, .inl (cA, 1200, .inl (f)))]) [0, 1, 2] rfl
          have hD9 := hD.sub (ws' := [(h0, .inr (3, [.ref qw, .int (nI (kn281))])), (qw, .inr (0, [.ref qa, .int (nI (a)), .int (nI (n)), .int (bI m_287)])), (qa, .inl (cA, 1200, .inl (f)))]) [0, 1, 2] (by decide) rfl
          have hK9 := hK.sub (tys' := [(cA, .int)]) [0] rfl
          exact W.zret (v := 1) (ty := .boolean) hx hb hr (by decide +kernel) (fun t ht hW => ⟨⟨1, (), rfl, ⟨true, rfl⟩, m_287, kn281, by omega, by rw [ht]; exact hP9, va_K.moved hW.alike hK9, hD9⟩, hS.F ht⟩) hS.2.2 d_PA_isRight_84
        · skip
          have hc291n : ¬ (kn281 = 0) := fun z => hc291 ((nI_eq (a := kn281) (b := 0) (by omega) (by omega)).mpr z)
          refine lv_aload_n hx hb d_PA_isRight_57 rfl (lv_at hl 0 rfl) ?_
          refine va_get (D := (dC, dI)) (ci := 3) (v := .ref qw) (C := R_PA) (T := F_PA) (N := 2) hx hb hts in_PA hown hK hP 0 rfl rfl 0 (by decide) (hts _ (List.mem_cons_of_mem _ w_108)) (fun _ h9 => h9) rfl d_PA_isRight_58 ?_
          refine lv_ldc2 (v := 18) hx hb hown (hts _ (List.mem_cons_of_mem _ w_459)) d_PA_isRight_61 ?_
          refine lv_ldc2 (v := 6) hx hb hown (hts _ (List.mem_cons_of_mem _ w_460)) d_PA_isRight_64 ?_
          refine lv_aload_n hx hb d_PA_isRight_67 rfl (lv_at hl 0 rfl) ?_
          refine va_get (D := (dC, dI)) (ci := 3) (v := .int (nI (kn281))) (C := R_PA) (T := F_PA) (N := 2) hx hb hts in_PA hown hK hP 0 rfl rfl 1 (by decide) (hts _ (List.mem_cons_of_mem _ w_110)) (fun _ h9 => h9) rfl d_PA_isRight_68 ?_
          refine lv_i2l (v := (nI (kn281)).toInt64) hx hb d_PA_isRight_71 (by first | rfl | decide +kernel) ?_
          refine lv_lmul hx hb d_PA_isRight_72 ?_
          refine lv_topl (fun v292 ev292 => ?_)
          have hPc := hP.sub (ws' := [(qw, .inr (0, [.ref qa, .int (nI (a)), .int (nI (n)), .int (bI m_287)]))]) [1] rfl
          have hDc := hD.sub (ws' := [(qw, .inr (0, [.ref qa, .int (nI (a)), .int (nI (n)), .int (bI m_287)]))]) [1] (by decide) rfl
          have hKc := hK.sub (tys' := []) [] rfl
          have hFc := va_free (wc := [(qw, .inr (0, [.ref qa, .int (nI (a)), .int (nI (n)), .int (bI m_287)]))]) hD hS hA [1] rfl
          refine va_calli (va_runV (As := [.long 18, .long v292]) (rest := []) ⟨hx, hb, hml, hown, hts⟩ (g_SP_holds l dC dI qw qa (nI (a)) (nI (n)) m_287 18 v292 H.size) (cwV 2 hts (tw_inV w_461 w_364 w_365 w_4 w_366) rfl rfl rfl (by decide +kernel) ⟨Nat.le_of_ble_eq_true rfl, Nat.le_of_ble_eq_true rfl⟩) ⟨fun a U g mk q => by obtain ⟨q0, q1, qP, qK, qD⟩ := q; exact ⟨q0, q1, qP, va_K.moved (u := U) (U := U.calling g mk a) (Vm.Alike.refl U.vm) qK, qD⟩, va_recv (hK := hK) (hP := hP) (q0 := 1) (ci := 0) rfl rfl, fun U hU hW => ⟨rfl, by rw [hU], by rw [hU]; exact hPc, va_K.moved hW.alike hKc, hDc.weaken (fun _ _ _ _ => trivial)⟩⟩ rfl rfl hl.1 rfl (lv_room (Nat.le_of_ble_eq_true rfl)) d_PA_isRight_73 ⟨Nat.le_of_ble_eq_true rfl, Nat.le_of_ble_eq_true rfl⟩) hS (fun q _ h => hFc q h) hFc (fun r293 u t H1 locs ht hvm hw hB hz1 hk1 hS => ?_)
          obtain ⟨hP1, hK1, hD1⟩ := hB
          rw [ht] at hP1
          have hK1 := va_K.moved hvm.symm hK1
          obtain ⟨hP, hD⟩ := va_join (wr := [(h0, .inr (3, [.ref qw, .int (nI (kn281))])), (qa, .inl (cA, 1200, .inl (f)))]) (w1 := [(qw, .inr (0, [.ref qa, .int (nI (a)), .int (nI (n)), .int (bI m_287)]))]) hP hD [1] [0, 2] rfl rfl (by decide) (by decide) hk1 hFc hP1 hD1
          have hK := (hK.sub (tys' := [(cA, .int)]) [0] rfl).app hK1
          generalize H1 = H at hP hS ⊢
          have hP : va_P (dC, dI) cls_ [(h0, .inr (3, [.ref qw, .int (nI (kn281))])), (qa, .inl (cA, 1200, .inl (f))), (qw, .inr (0, [.ref qa, .int (nI (a)), .int (nI (n)), .int (bI m_287)]))] H := hP
          have hD : va_D A [(h0, .inr (3, [.ref qw, .int (nI (kn281))])), (qa, .inl (cA, 1200, .inl (f))), (qw, .inr (0, [.ref qa, .int (nI (a)), .int (nI (n)), .int (bI m_287)]))] := hD
          have hK : va_K (dC, dI) cls_ [(cA, .int)] s := hK
          have hw_r293 := hw
          obtain ⟨bb294, rfl⟩ := hw_r293
          refine lv_if_eq (tgt := 83) hx hb d_PA_isRight_76 (by decide) (fun hc295 => ?_) (fun hc295 => ?_)
          · skip
            have hc295b : bb294 = false := bI_0 hc295
            refine lv_iconst (v := 0) hx hb d_PA_isRight_83 (by decide) ?_
            refine W.widen (k := 0) (n := 0) (Nat.le_of_ble_eq_true rfl) (Nat.le_of_ble_eq_true rfl) ?_
            have hP9 := hP.sub (ws' := [(h0, .inr (3, [.ref qw, .int (nI (kn281))])), (qw, .inr (0, [.ref qa, .int (nI (a)), .int (nI (n)), .int (bI m_287)])), (qa, .inl (cA, 1200, .inl (f)))]) [0, 2, 1] rfl
            have hD9 := hD.sub (ws' := [(h0, .inr (3, [.ref qw, .int (nI (kn281))])), (qw, .inr (0, [.ref qa, .int (nI (a)), .int (nI (n)), .int (bI m_287)])), (qa, .inl (cA, 1200, .inl (f)))]) [0, 2, 1] (by decide) rfl
            have hK9 := hK.sub (tys' := [(cA, .int)]) [0] rfl
            exact W.zret (v := 0) (ty := .boolean) hx hb hr (by decide +kernel) (fun t ht hW => ⟨⟨0, (), rfl, ⟨false, rfl⟩, m_287, kn281, by omega, by rw [ht]; exact hP9, va_K.moved hW.alike hK9, hD9⟩, hS.F ht⟩) hS.2.2 d_PA_isRight_84
          · skip
            have hc295b : bb294 = true := bI_1 hc295
            refine lv_iconst (v := 1) hx hb d_PA_isRight_79 (by decide) ?_
            refine lv_goto (tgt := 84) hx hb d_PA_isRight_80 (by decide) ?_
            refine W.widen (k := 0) (n := 0) (Nat.le_of_ble_eq_true rfl) (Nat.le_of_ble_eq_true rfl) ?_
            have hP9 := hP.sub (ws' := [(h0, .inr (3, [.ref qw, .int (nI (kn281))])), (qw, .inr (0, [.ref qa, .int (nI (a)), .int (nI (n)), .int (bI m_287)])), (qa, .inl (cA, 1200, .inl (f)))]) [0, 2, 1] rfl
            have hD9 := hD.sub (ws' := [(h0, .inr (3, [.ref qw, .int (nI (kn281))])), (qw, .inr (0, [.ref qa, .int (nI (a)), .int (nI (n)), .int (bI m_287)])), (qa, .inl (cA, 1200, .inl (f)))]) [0, 2, 1] (by decide) rfl
            have hK9 := hK.sub (tys' := [(cA, .int)]) [0] rfl
            exact W.zret (v := 1) (ty := .boolean) hx hb hr (by decide +kernel) (fun t ht hW => ⟨⟨1, (), rfl, ⟨true, rfl⟩, m_287, kn281, by omega, by rw [ht]; exact hP9, va_K.moved hW.alike hK9, hD9⟩, hS.F ht⟩) hS.2.2 d_PA_isRight_84
    · skip
      have hc289n : ¬ (kn288 = 1) := fun z => hc289 ((nI_eq (a := kn288) (b := 1) (by omega) (by omega)).mpr z)
      refine lv_iconst (v := 0) hx hb d_PA_isRight_38 (by decide) ?_
      refine W.widen (k := 0) (n := 0) (Nat.le_of_ble_eq_true rfl) (Nat.le_of_ble_eq_true rfl) ?_
      have hP9 := hP.sub (ws' := [(h0, .inr (3, [.ref qw, .int (nI (kn281))])), (qw, .inr (0, [.ref qa, .int (nI (a)), .int (nI (n)), .int (bI m_287)])), (qa, .inl (cA, 1200, .inl (f)))]) [0, 1, 2] rfl
      have hD9 := hD.sub (ws' := [(h0, .inr (3, [.ref qw, .int (nI (kn281))])), (qw, .inr (0, [.ref qa, .int (nI (a)), .int (nI (n)), .int (bI m_287)])), (qa, .inl (cA, 1200, .inl (f)))]) [0, 1, 2] (by decide) rfl
      have hK9 := hK.sub (tys' := [(cA, .int)]) [0] rfl
      exact W.zret (v := 0) (ty := .boolean) hx hb hr (by decide +kernel) (fun t ht hW => ⟨⟨0, (), rfl, ⟨false, rfl⟩, m_287, kn281, by omega, by rw [ht]; exact hP9, va_K.moved hW.alike hK9, hD9⟩, hS.F ht⟩) hS.2.2 d_PA_isRight_39
set_option maxHeartbeats 8000000 in
set_option maxRecDepth 100000 in
/-- a loop of GlyphLines$Pairs.between -/
theorem pa_loop {p : Program} {l : Launch} {e : Env} {s : State} {m : MethodId} {args : Array Value} {below : List Frame} {meth : Method} {c : Code} {Q : State → Prop} {A : Nat → Prop} (hx : p.tables.exec = Jvm.exec) (hb : c.code = b_PA_between) (hml : c.maxLocals = 4) (hts : ∀ w ∈ s_PA_between, w.before args s = true) (hown : s.vm.findClass R_PA = some m.cls) (hA : ∀ q : Nat, s.heap.size ≤ q → A q) (dC : Nat → ClassId) (dI : Nat → Nat → Nat) (h0 : Nat) (qw : Nat) (qa : Nat) (a : Nat) (n : Nat) (mi : Bool) (cA : ClassId) (f : Nat → Int32) (pr : Nat) (le : Int32) (ri : Int32) (hq0 : a + n ≤ 1200) (hq1 : isB f) (hq2 : pr < 65536) (hK : va_K (dC, dI) cls_ [(cA, .int)] s)
    (kx43 : ∀ (k : Nat) (m3 : Bool), (k ≤ 18 + 6 * pr + 6) → ∀ (H : Heap) (locs : List Loc) (ls : Array Slot), va_P (dC, dI) cls_ [(h0, .inr (3, [.ref qw, .int (nI (pr))])), (qw, .inr (0, [.ref qa, .int (nI (a)), .int (nI (n)), .int (bI m3)])), (qa, .inl (cA, 1200, .inl (f)))] H → va_D A [(h0, .inr (3, [.ref qw, .int (nI (pr))])), (qw, .inr (0, [.ref qa, .int (nI (a)), .int (nI (n)), .int (bI m3)])), (qa, .inl (cA, 1200, .inl (f)))] → va_S A s.heap H locs → lv_has ls 4 [(3, .int (nI (k))), (0, .ref h0), (1, .int le), (2, .int ri)] → W p l e (headSpec s_PA_between ({ frames := 10, cells := 0, slots := 0, locals := 300 })).room s m args below meth c H locs 0 0 Q (F0 m 43 ls []))
    (kx61 : ∀ (k : Nat) (m3 : Bool), (k ≤ 18 + 6 * pr + 6) → ∀ (H : Heap) (locs : List Loc) (ls : Array Slot), va_P (dC, dI) cls_ [(h0, .inr (3, [.ref qw, .int (nI (pr))])), (qw, .inr (0, [.ref qa, .int (nI (a)), .int (nI (n)), .int (bI m3)])), (qa, .inl (cA, 1200, .inl (f)))] H → va_D A [(h0, .inr (3, [.ref qw, .int (nI (pr))])), (qw, .inr (0, [.ref qa, .int (nI (a)), .int (nI (n)), .int (bI m3)])), (qa, .inl (cA, 1200, .inl (f)))] → va_S A s.heap H locs → lv_has ls 4 [(3, .int (nI (k))), (0, .ref h0), (1, .int le), (2, .int ri)] → W p l e (headSpec s_PA_between ({ frames := 10, cells := 0, slots := 0, locals := 300 })).room s m args below meth c H locs 0 0 Q (F0 m 61 ls []))
    : ∀ (fu : Nat) (k : Nat) (m3 : Bool), (k ≤ 18 + 6 * pr + 6) → 18 + 6 * pr + 7 - k < fu → ∀ (H : Heap) (locs : List Loc) (ls : Array Slot), va_P (dC, dI) cls_ [(h0, .inr (3, [.ref qw, .int (nI (pr))])), (qw, .inr (0, [.ref qa, .int (nI (a)), .int (nI (n)), .int (bI m3)])), (qa, .inl (cA, 1200, .inl (f)))] H → va_D A [(h0, .inr (3, [.ref qw, .int (nI (pr))])), (qw, .inr (0, [.ref qa, .int (nI (a)), .int (nI (n)), .int (bI m3)])), (qa, .inl (cA, 1200, .inl (f)))] → va_S A s.heap H locs → lv_has ls 4 [(3, .int (nI (k))), (0, .ref h0), (1, .int le), (2, .int ri)] → W p l e (headSpec s_PA_between ({ frames := 10, cells := 0, slots := 0, locals := 300 })).room s m args below meth c H locs 0 0 Q (F0 m 3 ls []) := by
  intro fu
  induction fu with
  | zero => intro k m3 hf0 hm; exact absurd hm (Nat.not_lt_zero _)
  | succ fu ih =>
    intro k m3 hf0 hm H locs ls hP hD hS hl
    refine lv_iload_n hx hb d_PA_between_3 rfl (lv_at hl 0 rfl) ?_
    refine lv_bipush (v := 18) hx hb d_PA_between_4 (by decide) ?_
    refine lv_bipush (v := 6) hx hb d_PA_between_6 (by decide) ?_
    refine lv_aload_n hx hb d_PA_between_8 rfl (lv_at hl 1 rfl) ?_
    refine va_get (D := (dC, dI)) (ci := 3) (v := .int (nI (pr))) (C := R_PA) (T := F_PA) (N := 2) hx hb hts in_PA hown hK hP 0 rfl rfl 1 (by decide) (hts _ (List.mem_cons_of_mem _ w_110)) (fun _ h9 => h9) rfl d_PA_between_9 ?_
    refine lv_imul hx hb d_PA_between_12 ?_
    refine lv_ci (y := nI (6 * pr)) (pk_mul (6) (pr)) ?_
    refine lv_iadd hx hb d_PA_between_13 ?_
    refine lv_ci (y := nI (18 + (6 * pr))) (nI_add (18) (6 * pr)) ?_
    refine lv_icmp_ge (tgt := 61) hx hb d_PA_between_14 (by decide) (fun hc296 => ?_) (fun hc296 => ?_)
    · skip
      have hc296n : 18 + (6 * pr) ≤ k := (nI_leI (a := 18 + (6 * pr)) (b := k) (by omega) (by omega)).mp hc296
      have hP8 := hP.sub (ws' := [(h0, .inr (3, [.ref qw, .int (nI (pr))])), (qw, .inr (0, [.ref qa, .int (nI (a)), .int (nI (n)), .int (bI m3)])), (qa, .inl (cA, 1200, .inl (f)))]) [0, 1, 2] rfl
      have hD8 := hD.sub (ws' := [(h0, .inr (3, [.ref qw, .int (nI (pr))])), (qw, .inr (0, [.ref qa, .int (nI (a)), .int (nI (n)), .int (bI m3)])), (qa, .inl (cA, 1200, .inl (f)))]) [0, 1, 2] (by decide) rfl
      exact kx61 k m3 (by omega) H locs ls hP8 hD8 hS (lv_sub hl [0, 1, 2, 3] rfl)
    · skip
      have hc296n : ¬ (18 + (6 * pr) ≤ k) := fun z => hc296 ((nI_leI (a := 18 + (6 * pr)) (b := k) (by omega) (by omega)).mpr z)
      refine lv_aload_n hx hb d_PA_between_17 rfl (lv_at hl 1 rfl) ?_
      refine va_get (D := (dC, dI)) (ci := 3) (v := .ref qw) (C := R_PA) (T := F_PA) (N := 2) hx hb hts in_PA hown hK hP 0 rfl rfl 0 (by decide) (hts _ (List.mem_cons_of_mem _ w_108)) (fun _ h9 => h9) rfl d_PA_between_18 ?_
      refine lv_iload_n hx hb d_PA_between_21 rfl (lv_at hl 0 rfl) ?_
      have hPc := hP.sub (ws' := [(qw, .inr (0, [.ref qa, .int (nI (a)), .int (nI (n)), .int (bI m3)])), (qa, .inl (cA, 1200, .inl (f)))]) [1, 2] rfl
      have hDc := hD.sub (ws' := [(qw, .inr (0, [.ref qa, .int (nI (a)), .int (nI (n)), .int (bI m3)])), (qa, .inl (cA, 1200, .inl (f)))]) [1, 2] (by decide) rfl
      have hKc := hK.sub (tys' := [(cA, .int)]) [0] rfl
      have hFc := va_free (wc := [(qw, .inr (0, [.ref qa, .int (nI (a)), .int (nI (n)), .int (bI m3)])), (qa, .inl (cA, 1200, .inl (f)))]) hD hS hA [1, 2] rfl
      refine va_calli (va_runV (As := [.int (nI (k))]) (rest := []) ⟨hx, hb, hml, hown, hts⟩ (g_SP_u16 l dC dI qw qa a n m3 cA f (nI (k)) H.size (by omega) (by assumption)) (cwV 1 hts (tw_inV w_458 w_353 w_354 w_4 w_355) rfl rfl rfl (by decide +kernel) ⟨Nat.le_of_ble_eq_true rfl, Nat.le_of_ble_eq_true rfl⟩) ⟨fun a U g mk q => by obtain ⟨q0, q1, qP, qK, qD⟩ := q; exact ⟨q0, q1, qP, va_K.moved (u := U) (U := U.calling g mk a) (Vm.Alike.refl U.vm) qK, qD⟩, va_recv (hK := hK) (hP := hP) (q0 := 1) (ci := 0) rfl rfl, fun U hU hW => ⟨rfl, by rw [hU], by rw [hU]; exact hPc, va_K.moved hW.alike hKc, hDc.weaken (fun _ _ _ _ => trivial)⟩⟩ rfl rfl hl.1 rfl (lv_room (Nat.le_of_ble_eq_true rfl)) d_PA_between_22 ⟨Nat.le_of_ble_eq_true rfl, Nat.le_of_ble_eq_true rfl⟩) hS (fun q _ h => hFc q h) hFc (fun r297 u t H1 locs ht hvm hw hB hz1 hk1 hS => ?_)
      obtain ⟨m_298, hP1, hK1, hD1⟩ := hB
      rw [ht] at hP1
      have hK1 := va_K.moved hvm.symm hK1
      obtain ⟨hP, hD⟩ := va_join (wr := [(h0, .inr (3, [.ref qw, .int (nI (pr))]))]) (w1 := [(qw, .inr (0, [.ref qa, .int (nI (a)), .int (nI (n)), .int (bI m_298)])), (qa, .inl (cA, 1200, .inl (f)))]) hP hD [1, 2] [0] rfl rfl (by decide) (by decide) hk1 hFc hP1 hD1
      have hK := (hK.sub (tys' := []) [] rfl).app hK1
      generalize H1 = H at hP hS ⊢
      have hP : va_P (dC, dI) cls_ [(h0, .inr (3, [.ref qw, .int (nI (pr))])), (qw, .inr (0, [.ref qa, .int (nI (a)), .int (nI (n)), .int (bI m_298)])), (qa, .inl (cA, 1200, .inl (f)))] H := hP
      have hD : va_D A [(h0, .inr (3, [.ref qw, .int (nI (pr))])), (qw, .inr (0, [.ref qa, .int (nI (a)), .int (nI (n)), .int (bI m_298)])), (qa, .inl (cA, 1200, .inl (f)))] := hD
      have hK : va_K (dC, dI) cls_ [(cA, .int)] s := hK
      have hw_r297 := hw
      obtain ⟨kn299, hb_kn299, rfl⟩ := hw_r297
      refine lv_iload_n hx hb d_PA_between_25 rfl (lv_at hl 2 rfl) ?_
      refine lv_icmp_ne (tgt := 55) hx hb d_PA_between_26 (by decide) (fun hc300 => ?_) (fun hc300 => ?_)
      · skip
        refine lv_iinc (k := 0) (v := nI (k + 6)) (lv' := [(3, .int (nI (k + 6))), (0, .ref h0), (1, .int le), (2, .int ri)]) hx hb d_PA_between_55 hl rfl (nI_add (k) 6) (by decide) rfl (fun ls hl => ?_)
        refine lv_goto (tgt := 3) hx hb d_PA_between_58 (by decide) ?_
        have hP8 := hP.sub (ws' := [(h0, .inr (3, [.ref qw, .int (nI (pr))])), (qw, .inr (0, [.ref qa, .int (nI (a)), .int (nI (n)), .int (bI m_298)])), (qa, .inl (cA, 1200, .inl (f)))]) [0, 1, 2] rfl
        have hD8 := hD.sub (ws' := [(h0, .inr (3, [.ref qw, .int (nI (pr))])), (qw, .inr (0, [.ref qa, .int (nI (a)), .int (nI (n)), .int (bI m_298)])), (qa, .inl (cA, 1200, .inl (f)))]) [0, 1, 2] (by decide) rfl
        exact ih (k + 6) m_298 (by omega) (by omega) H locs ls hP8 hD8 hS (lv_sub hl [0, 1, 2, 3] rfl)
      · skip
        refine lv_aload_n hx hb d_PA_between_29 rfl (lv_at hl 1 rfl) ?_
        refine va_get (D := (dC, dI)) (ci := 3) (v := .ref qw) (C := R_PA) (T := F_PA) (N := 2) hx hb hts in_PA hown hK hP 0 rfl rfl 0 (by decide) (hts _ (List.mem_cons_of_mem _ w_108)) (fun _ h9 => h9) rfl d_PA_between_30 ?_
        refine lv_iload_n hx hb d_PA_between_33 rfl (lv_at hl 0 rfl) ?_
        refine lv_iconst (v := 2) hx hb d_PA_between_34 (by decide) ?_
        refine lv_iadd hx hb d_PA_between_35 ?_
        refine lv_ci (y := nI (k + 2)) (nI_add (k) (2)) ?_
        have hPc := hP.sub (ws' := [(qw, .inr (0, [.ref qa, .int (nI (a)), .int (nI (n)), .int (bI m_298)])), (qa, .inl (cA, 1200, .inl (f)))]) [1, 2] rfl
        have hDc := hD.sub (ws' := [(qw, .inr (0, [.ref qa, .int (nI (a)), .int (nI (n)), .int (bI m_298)])), (qa, .inl (cA, 1200, .inl (f)))]) [1, 2] (by decide) rfl
        have hKc := hK.sub (tys' := [(cA, .int)]) [0] rfl
        have hFc := va_free (wc := [(qw, .inr (0, [.ref qa, .int (nI (a)), .int (nI (n)), .int (bI m_298)])), (qa, .inl (cA, 1200, .inl (f)))]) hD hS hA [1, 2] rfl
        refine va_calli (va_runV (As := [.int (nI (k + 2))]) (rest := []) ⟨hx, hb, hml, hown, hts⟩ (g_SP_u16 l dC dI qw qa a n m_298 cA f (nI (k + 2)) H.size (by omega) (by assumption)) (cwV 1 hts (tw_inV w_458 w_353 w_354 w_4 w_355) rfl rfl rfl (by decide +kernel) ⟨Nat.le_of_ble_eq_true rfl, Nat.le_of_ble_eq_true rfl⟩) ⟨fun a U g mk q => by obtain ⟨q0, q1, qP, qK, qD⟩ := q; exact ⟨q0, q1, qP, va_K.moved (u := U) (U := U.calling g mk a) (Vm.Alike.refl U.vm) qK, qD⟩, va_recv (hK := hK) (hP := hP) (q0 := 1) (ci := 0) rfl rfl, fun U hU hW => ⟨rfl, by rw [hU], by rw [hU]; exact hPc, va_K.moved hW.alike hKc, hDc.weaken (fun _ _ _ _ => trivial)⟩⟩ rfl rfl hl.1 rfl (lv_room (Nat.le_of_ble_eq_true rfl)) d_PA_between_36 ⟨Nat.le_of_ble_eq_true rfl, Nat.le_of_ble_eq_true rfl⟩) hS (fun q _ h => hFc q h) hFc (fun r301 u t H1 locs ht hvm hw hB hz1 hk1 hS => ?_)
        obtain ⟨m_302, hP1, hK1, hD1⟩ := hB
        rw [ht] at hP1
        have hK1 := va_K.moved hvm.symm hK1
        obtain ⟨hP, hD⟩ := va_join (wr := [(h0, .inr (3, [.ref qw, .int (nI (pr))]))]) (w1 := [(qw, .inr (0, [.ref qa, .int (nI (a)), .int (nI (n)), .int (bI m_302)])), (qa, .inl (cA, 1200, .inl (f)))]) hP hD [1, 2] [0] rfl rfl (by decide) (by decide) hk1 hFc hP1 hD1
        have hK := (hK.sub (tys' := []) [] rfl).app hK1
        generalize H1 = H at hP hS ⊢
        have hP : va_P (dC, dI) cls_ [(h0, .inr (3, [.ref qw, .int (nI (pr))])), (qw, .inr (0, [.ref qa, .int (nI (a)), .int (nI (n)), .int (bI m_302)])), (qa, .inl (cA, 1200, .inl (f)))] H := hP
        have hD : va_D A [(h0, .inr (3, [.ref qw, .int (nI (pr))])), (qw, .inr (0, [.ref qa, .int (nI (a)), .int (nI (n)), .int (bI m_302)])), (qa, .inl (cA, 1200, .inl (f)))] := hD
        have hK : va_K (dC, dI) cls_ [(cA, .int)] s := hK
        have hw_r301 := hw
        obtain ⟨kn303, hb_kn303, rfl⟩ := hw_r301
        refine lv_iload_n hx hb d_PA_between_39 rfl (lv_at hl 3 rfl) ?_
        refine lv_icmp_ne (tgt := 55) hx hb d_PA_between_40 (by decide) (fun hc304 => ?_) (fun hc304 => ?_)
        · skip
          refine lv_iinc (k := 0) (v := nI (k + 6)) (lv' := [(3, .int (nI (k + 6))), (0, .ref h0), (1, .int le), (2, .int ri)]) hx hb d_PA_between_55 hl rfl (nI_add (k) 6) (by decide) rfl (fun ls hl => ?_)
          refine lv_goto (tgt := 3) hx hb d_PA_between_58 (by decide) ?_
          have hP8 := hP.sub (ws' := [(h0, .inr (3, [.ref qw, .int (nI (pr))])), (qw, .inr (0, [.ref qa, .int (nI (a)), .int (nI (n)), .int (bI m_302)])), (qa, .inl (cA, 1200, .inl (f)))]) [0, 1, 2] rfl
          have hD8 := hD.sub (ws' := [(h0, .inr (3, [.ref qw, .int (nI (pr))])), (qw, .inr (0, [.ref qa, .int (nI (a)), .int (nI (n)), .int (bI m_302)])), (qa, .inl (cA, 1200, .inl (f)))]) [0, 1, 2] (by decide) rfl
          exact ih (k + 6) m_302 (by omega) (by omega) H locs ls hP8 hD8 hS (lv_sub hl [0, 1, 2, 3] rfl)
        · skip
          have hP8 := hP.sub (ws' := [(h0, .inr (3, [.ref qw, .int (nI (pr))])), (qw, .inr (0, [.ref qa, .int (nI (a)), .int (nI (n)), .int (bI m_302)])), (qa, .inl (cA, 1200, .inl (f)))]) [0, 1, 2] rfl
          have hD8 := hD.sub (ws' := [(h0, .inr (3, [.ref qw, .int (nI (pr))])), (qw, .inr (0, [.ref qa, .int (nI (a)), .int (nI (n)), .int (bI m_302)])), (qa, .inl (cA, 1200, .inl (f)))]) [0, 1, 2] (by decide) rfl
          exact kx43 k m_302 (by omega) H locs ls hP8 hD8 hS (lv_sub hl [0, 1, 2, 3] rfl)
set_option maxHeartbeats 4000000 in
set_option maxRecDepth 100000 in
/-- GlyphLines$Pairs.between -/
theorem g_PA_between (l : Launch) (dC : Nat → ClassId) (dI : Nat → Nat → Nat) (h0 : Nat) (qw : Nat) (qa : Nat) (a : Nat) (n : Nat) (mi : Bool) (cA : ClassId) (f : Nat → Int32) (pr : Nat) (le : Int32) (ri : Int32) (sz : Nat) (hq0 : a + n ≤ 1200) (hq1 : isB f) (hq2 : pr < 65536) : Met l y_PA_between s_PA_between ({ frames := 10, cells := 0, slots := 0, locals := 300 }) (va_Pc [.ref h0, .int le, .int ri] (fun U => U.heap.size = sz ∧ va_P (dC, dI) cls_ [(h0, .inr (3, [.ref qw, .int (nI (pr))])), (qw, .inr (0, [.ref qa, .int (nI (a)), .int (nI (n)), .int (bI mi)])), (qa, .inl (cA, 1200, .inl (f)))] U.heap ∧ va_K (dC, dI) cls_ [(cA, .int)] U ∧ va_D (fun _ => True) [(h0, .inr (3, [.ref qw, .int (nI (pr))])), (qw, .inr (0, [.ref qa, .int (nI (a)), .int (nI (n)), .int (bI mi)])), (qa, .inl (cA, 1200, .inl (f)))])) (va_Qi (fun (r : Int32) (_ : Unit) => True) (fun (_ : Unit) (t : State) => ∃ (m2 : Bool), va_P (dC, dI) cls_ [(h0, .inr (3, [.ref qw, .int (nI (pr))])), (qw, .inr (0, [.ref qa, .int (nI (a)), .int (nI (n)), .int (bI m2)])), (qa, .inl (cA, 1200, .inl (f)))] t.heap ∧ va_K (dC, dI) cls_ [(cA, .int)] t ∧ va_D (va_A [(h0, .inr (3, [.ref qw, .int (nI (pr))])), (qw, .inr (0, [.ref qa, .int (nI (a)), .int (nI (n)), .int (bI mi)])), (qa, .inl (cA, 1200, .inl (f)))] sz) [(h0, .inr (3, [.ref qw, .int (nI (pr))])), (qw, .inr (0, [.ref qa, .int (nI (a)), .int (nI (n)), .int (bI m2)])), (qa, .inl (cA, 1200, .inl (f)))]) (va_A [(h0, .inr (3, [.ref qw, .int (nI (pr))])), (qw, .inr (0, [.ref qa, .int (nI (a)), .int (nI (n)), .int (bI mi)])), (qa, .inl (cA, 1200, .inl (f)))] sz)) 0 0 (va_A [(h0, .inr (3, [.ref qw, .int (nI (pr))])), (qw, .inr (0, [.ref qa, .int (nI (a)), .int (nI (n)), .int (bI mi)])), (qa, .inl (cA, 1200, .inl (f)))] sz) := by
  refine Met.ofW (cc := b_PA_between) (maxL := 4) (ret := (some .int)) (by decide) rfl ?_
  intro p e s m args below meth c s₁ B hml hv
  obtain ⟨rfl, hsz, hP, hK, hD0⟩ := hv
  have hx := B.exec
  have hb := B.bytes
  have hr := B.returns
  have hts := atoms_spec (ws := s_PA_between) B.pre
  have hown : s.vm.findClass R_PA = some m.cls := findClass_of_methodNamed B.named
  have hlocks := B.notSynchronized
  subst hsz
  have hD := hD0.self (sz := s.heap.size)
  generalize hAe : va_A [(h0, .inr (3, [.ref qw, .int (nI (pr))])), (qw, .inr (0, [.ref qa, .int (nI (a)), .int (nI (n)), .int (bI mi)])), (qa, .inl (cA, 1200, .inl (f)))] s.heap.size = A at hD ⊢
  have hA : ∀ q : Nat, s.heap.size ≤ q → A q := fun q h => by rw [← hAe]; exact Or.inr h
  have hS : va_S A s.heap s.heap [] := va_S.rf
  have hP : va_P (dC, dI) cls_ [(h0, .inr (3, [.ref qw, .int (nI (pr))])), (qw, .inr (0, [.ref qa, .int (nI (a)), .int (nI (n)), .int (bI mi)])), (qa, .inl (cA, 1200, .inl (f)))] s.heap := hP
  have hl := lv_entry ([.ref h0, .int le, .int ri]) (n := 4) (Nat.le_of_ble_eq_true rfl)
  rw [lg_entry_eq]
  generalize (lg_sl ([.ref h0, .int le, .int ri]) ++ List.replicate (4 - (lg_sl ([.ref h0, .int le, .int ri])).length) Slot.unset).toArray = ls at hl ⊢
  have hl : lv_has ls 4 [(0, .ref h0), (1, .int le), (2, .int ri)] := hl
  refine lv_bipush (v := 18) hx hb d_PA_between_0 (by decide) ?_
  refine lv_istore_n (lv' := [(3, .int 18), (0, .ref h0), (1, .int le), (2, .int ri)]) hx hb d_PA_between_2 rfl hl (by decide) rfl (fun ls hl => ?_)
  have hP8 := hP.sub (ws' := [(h0, .inr (3, [.ref qw, .int (nI (pr))])), (qw, .inr (0, [.ref qa, .int (nI (a)), .int (nI (n)), .int (bI mi)])), (qa, .inl (cA, 1200, .inl (f)))]) [0, 1, 2] rfl
  have hD8 := hD.sub (ws' := [(h0, .inr (3, [.ref qw, .int (nI (pr))])), (qw, .inr (0, [.ref qa, .int (nI (a)), .int (nI (n)), .int (bI mi)])), (qa, .inl (cA, 1200, .inl (f)))]) [0, 1, 2] (by decide) rfl
  have hK9 := hK.sub (tys' := [(cA, .int)]) [0] rfl
  refine pa_loop hx hb hml hts hown hA dC dI h0 qw qa a n mi cA f pr le ri (by omega) (by assumption) (by omega) hK9 (fun k_305 m_306 hf_307 H locs ls hP hD hS hl => ?_) (fun k_308 m_309 hf_310 H locs ls hP hD hS hl => ?_) (18 + 6 * pr + 7 - 18 + 1) 18 mi (by omega) (by omega) s.heap _ ls hP8 hD8 hS (lv_sub hl [0, 1, 2, 3] rfl)
  · skip
    have hK := hK9
    have hP : va_P (dC, dI) cls_ [(h0, .inr (3, [.ref qw, .int (nI (pr))])), (qw, .inr (0, [.ref qa, .int (nI (a)), .int (nI (n)), .int (bI m_306)])), (qa, .inl (cA, 1200, .inl (f)))] H := hP
    have hD : va_D A [(h0, .inr (3, [.ref qw, .int (nI (pr))])), (qw, .inr (0, [.ref qa, .int (nI (a)), .int (nI (n)), .int (bI m_306)])), (qa, .inl (cA, 1200, .inl (f)))] := hD
    have hK : va_K (dC, dI) cls_ [(cA, .int)] s := hK
    refine lv_aload_n hx hb d_PA_between_43 rfl (lv_at hl 1 rfl) ?_
    refine va_get (D := (dC, dI)) (ci := 3) (v := .ref qw) (C := R_PA) (T := F_PA) (N := 2) hx hb hts in_PA hown hK hP 0 rfl rfl 0 (by decide) (hts _ (List.mem_cons_of_mem _ w_108)) (fun _ h9 => h9) rfl d_PA_between_44 ?_
    refine lv_iload_n hx hb d_PA_between_47 rfl (lv_at hl 0 rfl) ?_
    refine lv_iconst (v := 4) hx hb d_PA_between_48 (by decide) ?_
    refine lv_iadd hx hb d_PA_between_49 ?_
    refine lv_ci (y := nI (k_305 + 4)) (nI_add (k_305) (4)) ?_
    have hPc := hP.sub (ws' := [(qw, .inr (0, [.ref qa, .int (nI (a)), .int (nI (n)), .int (bI m_306)])), (qa, .inl (cA, 1200, .inl (f)))]) [1, 2] rfl
    have hDc := hD.sub (ws' := [(qw, .inr (0, [.ref qa, .int (nI (a)), .int (nI (n)), .int (bI m_306)])), (qa, .inl (cA, 1200, .inl (f)))]) [1, 2] (by decide) rfl
    have hKc := hK.sub (tys' := [(cA, .int)]) [0] rfl
    have hFc := va_free (wc := [(qw, .inr (0, [.ref qa, .int (nI (a)), .int (nI (n)), .int (bI m_306)])), (qa, .inl (cA, 1200, .inl (f)))]) hD hS hA [1, 2] rfl
    refine va_calli (va_runV (As := [.int (nI (k_305 + 4))]) (rest := []) ⟨hx, hb, hml, hown, hts⟩ (g_SP_u16 l dC dI qw qa a n m_306 cA f (nI (k_305 + 4)) H.size (by omega) (by assumption)) (cwV 1 hts (tw_inV w_458 w_353 w_354 w_4 w_355) rfl rfl rfl (by decide +kernel) ⟨Nat.le_of_ble_eq_true rfl, Nat.le_of_ble_eq_true rfl⟩) ⟨fun a U g mk q => by obtain ⟨q0, q1, qP, qK, qD⟩ := q; exact ⟨q0, q1, qP, va_K.moved (u := U) (U := U.calling g mk a) (Vm.Alike.refl U.vm) qK, qD⟩, va_recv (hK := hK) (hP := hP) (q0 := 1) (ci := 0) rfl rfl, fun U hU hW => ⟨rfl, by rw [hU], by rw [hU]; exact hPc, va_K.moved hW.alike hKc, hDc.weaken (fun _ _ _ _ => trivial)⟩⟩ rfl rfl hl.1 rfl (lv_room (Nat.le_of_ble_eq_true rfl)) d_PA_between_50 ⟨Nat.le_of_ble_eq_true rfl, Nat.le_of_ble_eq_true rfl⟩) hS (fun q _ h => hFc q h) hFc (fun r311 u t H1 locs ht hvm hw hB hz1 hk1 hS => ?_)
    obtain ⟨m_312, hP1, hK1, hD1⟩ := hB
    rw [ht] at hP1
    have hK1 := va_K.moved hvm.symm hK1
    obtain ⟨hP, hD⟩ := va_join (wr := [(h0, .inr (3, [.ref qw, .int (nI (pr))]))]) (w1 := [(qw, .inr (0, [.ref qa, .int (nI (a)), .int (nI (n)), .int (bI m_312)])), (qa, .inl (cA, 1200, .inl (f)))]) hP hD [1, 2] [0] rfl rfl (by decide) (by decide) hk1 hFc hP1 hD1
    have hK := (hK.sub (tys' := []) [] rfl).app hK1
    generalize H1 = H at hP hS ⊢
    have hP : va_P (dC, dI) cls_ [(h0, .inr (3, [.ref qw, .int (nI (pr))])), (qw, .inr (0, [.ref qa, .int (nI (a)), .int (nI (n)), .int (bI m_312)])), (qa, .inl (cA, 1200, .inl (f)))] H := hP
    have hD : va_D A [(h0, .inr (3, [.ref qw, .int (nI (pr))])), (qw, .inr (0, [.ref qa, .int (nI (a)), .int (nI (n)), .int (bI m_312)])), (qa, .inl (cA, 1200, .inl (f)))] := hD
    have hK : va_K (dC, dI) cls_ [(cA, .int)] s := hK
    have hw_r311 := hw
    obtain ⟨kn313, hb_kn313, rfl⟩ := hw_r311
    refine lv_i2s (v := (nI (kn313)).toInt16.toInt32) hx hb d_PA_between_53 rfl ?_
    refine lv_topi (fun v314 ev314 => ?_)
    refine W.widen (k := 0) (n := 0) (Nat.le_of_ble_eq_true rfl) (Nat.le_of_ble_eq_true rfl) ?_
    have hP9 := hP.sub (ws' := [(h0, .inr (3, [.ref qw, .int (nI (pr))])), (qw, .inr (0, [.ref qa, .int (nI (a)), .int (nI (n)), .int (bI m_312)])), (qa, .inl (cA, 1200, .inl (f)))]) [0, 1, 2] rfl
    have hD9 := hD.sub (ws' := [(h0, .inr (3, [.ref qw, .int (nI (pr))])), (qw, .inr (0, [.ref qa, .int (nI (a)), .int (nI (n)), .int (bI m_312)])), (qa, .inl (cA, 1200, .inl (f)))]) [0, 1, 2] (by decide) rfl
    have hK9 := hK.sub (tys' := [(cA, .int)]) [0] rfl
    exact W.iret (v := v314) hx hb hr (fun t ht hW => ⟨⟨v314, (), rfl, trivial, m_312, by rw [ht]; exact hP9, va_K.moved hW.alike hK9, hD9⟩, hS.F ht⟩) hS.2.2 d_PA_between_54
  · skip
    have hK := hK9
    have hP : va_P (dC, dI) cls_ [(h0, .inr (3, [.ref qw, .int (nI (pr))])), (qw, .inr (0, [.ref qa, .int (nI (a)), .int (nI (n)), .int (bI m_309)])), (qa, .inl (cA, 1200, .inl (f)))] H := hP
    have hD : va_D A [(h0, .inr (3, [.ref qw, .int (nI (pr))])), (qw, .inr (0, [.ref qa, .int (nI (a)), .int (nI (n)), .int (bI m_309)])), (qa, .inl (cA, 1200, .inl (f)))] := hD
    have hK : va_K (dC, dI) cls_ [(cA, .int)] s := hK
    refine lv_iconst (v := 0) hx hb d_PA_between_61 (by decide) ?_
    refine W.widen (k := 0) (n := 0) (Nat.le_of_ble_eq_true rfl) (Nat.le_of_ble_eq_true rfl) ?_
    have hP9 := hP.sub (ws' := [(h0, .inr (3, [.ref qw, .int (nI (pr))])), (qw, .inr (0, [.ref qa, .int (nI (a)), .int (nI (n)), .int (bI m_309)])), (qa, .inl (cA, 1200, .inl (f)))]) [0, 1, 2] rfl
    have hD9 := hD.sub (ws' := [(h0, .inr (3, [.ref qw, .int (nI (pr))])), (qw, .inr (0, [.ref qa, .int (nI (a)), .int (nI (n)), .int (bI m_309)])), (qa, .inl (cA, 1200, .inl (f)))]) [0, 1, 2] (by decide) rfl
    have hK9 := hK.sub (tys' := [(cA, .int)]) [0] rfl
    exact W.iret (v := 0) hx hb hr (fun t ht hW => ⟨⟨0, (), rfl, trivial, m_309, by rw [ht]; exact hP9, va_K.moved hW.alike hK9, hD9⟩, hS.F ht⟩) hS.2.2 d_PA_between_62
