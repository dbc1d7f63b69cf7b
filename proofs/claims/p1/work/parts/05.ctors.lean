set_option maxHeartbeats 4000000 in
set_option maxRecDepth 100000 in
/-- GlyphLines$Span.<init> -/
theorem c_SP_init (l : Launch) (dC : Nat → ClassId) (dI : Nat → Nat → Nat) (h0 qa : Nat) (sz : Nat) : Met l y_SP_init s_SP_init ({ frames := 8, cells := 0, slots := 0, locals := 200 }) (va_Pc [.ref h0, .ref qa] (fun U => U.heap.size = sz ∧ va_P (dC, dI) cls_ [(h0, .inr (0, [.null, .int 0, .int 0, .int 0]))] U.heap ∧ va_K (dC, dI) cls_ [] U ∧ va_D (fun _ => True) [(h0, .inr (0, [.null, .int 0, .int 0, .int 0]))])) (va_Qv (fun _ : Unit => True) (fun (_ : Unit) (t : State) => va_P (dC, dI) cls_ [(h0, .inr (0, [.ref qa, .int 0, .int 0, .int 0]))] t.heap ∧ va_K (dC, dI) cls_ [] t ∧ va_D (va_A [(h0, .inr (0, [.null, .int 0, .int 0, .int 0]))] sz) [(h0, .inr (0, [.ref qa, .int 0, .int 0, .int 0]))]) (va_A [(h0, .inr (0, [.null, .int 0, .int 0, .int 0]))] sz)) 0 0 (va_A [(h0, .inr (0, [.null, .int 0, .int 0, .int 0]))] sz) := by
  refine Met.ofW (cc := b_SP_init) (maxL := 2) (ret := none) (by decide) rfl ?_
  intro p e s m args below meth c s₁ B hml hv
  obtain ⟨rfl, hsz, hP, hK, hD0⟩ := hv
  have hx := B.exec
  have hb := B.bytes
  have hr := B.returns
  have hts := atoms_spec (ws := s_SP_init) B.pre
  have hown : s.vm.findClass R_SP = some m.cls := findClass_of_methodNamed B.named
  have hlocks := B.notSynchronized
  have hin : meth.name = "<init>" := (name_of_methodNamed B.named B.method).1
  subst hsz
  have hD := hD0.self (sz := s.heap.size)
  generalize hAe : va_A [(h0, .inr (0, [.null, .int 0, .int 0, .int 0]))] s.heap.size = A at hD ⊢
  have hA : ∀ q : Nat, s.heap.size ≤ q → A q := fun q h => by rw [← hAe]; exact Or.inr h
  have hS : va_S A s.heap s.heap [] := va_S.rf
  have hP : va_P (dC, dI) cls_ [(h0, .inr (0, [.null, .int 0, .int 0, .int 0]))] s.heap := hP
  have hl := lv_entry ([.ref h0, .ref qa]) (n := 2) (Nat.le_of_ble_eq_true rfl)
  rw [lg_entry_eq]
  generalize (lg_sl ([.ref h0, .ref qa]) ++ List.replicate (2 - (lg_sl ([.ref h0, .ref qa])).length) Slot.unset).toArray = ls at hl ⊢
  have hl : lv_has ls 2 [(0, .ref h0), (1, .ref qa)] := hl
  refine lv_aload_n hx hb d_SP_init_0 rfl (lv_at hl 0 rfl) ?_
  refine W.objInit hx hb hown (hts _ (List.mem_cons_of_mem _ w_47)) (hts _ (List.mem_cons_of_mem _ w_28)) (hts _ (List.mem_cons_of_mem _ w_29)) rfl (by rw [hml]; exact hl.1) rfl d_SP_init_1 (Nat.le_of_ble_eq_true rfl) (Nat.le_of_ble_eq_true rfl) ?_
  refine W.eq (g2 := F0 m 4 ls []) rfl ?_
  refine lv_aload_n hx hb d_SP_init_4 rfl (lv_at hl 0 rfl) ?_
  refine lv_iconst (v := 0) hx hb d_SP_init_5 (by decide) ?_
  refine va_put (D := (dC, dI)) (ci := 0) (v := .int 0) (ty := .int) (C := R_SP) (T := F_SP) (N := 4) hx hb hts in_SP t_SP t_SP_ok n_SP hown hK hP hD hS 0 rfl rfl 1 (by decide) (hts _ (List.mem_cons_of_mem _ w_49)) (fun _ h9 => h9) rfl  (by decide +kernel) rfl rfl (Nat.le_of_ble_eq_true rfl) d_SP_init_6 (fun H locs hP hD hS => ?_)
  have hP : va_P (dC, dI) cls_ [(h0, .inr (0, [.null, .int 0, .int 0, .int 0]))] H := hP
  have hD : va_D A [(h0, .inr (0, [.null, .int 0, .int 0, .int 0]))] := hD
  refine lv_aload_n hx hb d_SP_init_9 rfl (lv_at hl 0 rfl) ?_
  refine lv_iconst (v := 0) hx hb d_SP_init_10 (by decide) ?_
  refine va_put (D := (dC, dI)) (ci := 0) (v := .int 0) (ty := .int) (C := R_SP) (T := F_SP) (N := 4) hx hb hts in_SP t_SP t_SP_ok n_SP hown hK hP hD hS 0 rfl rfl 2 (by decide) (hts _ (List.mem_cons_of_mem _ w_51)) (fun _ h9 => h9) rfl  (by decide +kernel) rfl rfl (Nat.le_of_ble_eq_true rfl) d_SP_init_11 (fun H locs hP hD hS => ?_)
  have hP : va_P (dC, dI) cls_ [(h0, .inr (0, [.null, .int 0, .int 0, .int 0]))] H := hP
  have hD : va_D A [(h0, .inr (0, [.null, .int 0, .int 0, .int 0]))] := hD
  refine lv_aload_n hx hb d_SP_init_14 rfl (lv_at hl 0 rfl) ?_
  refine lv_iconst (v := 0) hx hb d_SP_init_15 (by decide) ?_
  refine va_put (D := (dC, dI)) (ci := 0) (v := .int 0) (ty := .boolean) (C := R_SP) (T := F_SP) (N := 4) hx hb hts in_SP t_SP t_SP_ok n_SP hown hK hP hD hS 0 rfl rfl 3 (by decide) (hts _ (List.mem_cons_of_mem _ w_55)) (fun _ h9 => h9) rfl  (by decide +kernel) rfl rfl (Nat.le_of_ble_eq_true rfl) d_SP_init_16 (fun H locs hP hD hS => ?_)
  have hP : va_P (dC, dI) cls_ [(h0, .inr (0, [.null, .int 0, .int 0, .int 0]))] H := hP
  have hD : va_D A [(h0, .inr (0, [.null, .int 0, .int 0, .int 0]))] := hD
  refine lv_aload_n hx hb d_SP_init_19 rfl (lv_at hl 0 rfl) ?_
  refine lv_aload_n hx hb d_SP_init_20 rfl (lv_at hl 1 rfl) ?_
  refine va_putF (D := (dC, dI)) (ci := 0) (v := .ref qa) (ty := .array .int) (C := R_SP) (T := F_SP) (N := 4) hx hb hts in_SP t_SP t_SP_ok n_SP hown hK hP hD hS 0 rfl rfl 0 (by decide) (hts _ (List.mem_cons_of_mem _ w_48)) (fun _ h9 => h9) rfl hin rfl (by decide +kernel) rfl rfl (Nat.le_of_ble_eq_true rfl) d_SP_init_21 (fun H locs hP hD hS => ?_)
  have hP : va_P (dC, dI) cls_ [(h0, .inr (0, [.ref qa, .int 0, .int 0, .int 0]))] H := hP
  have hD : va_D A [(h0, .inr (0, [.ref qa, .int 0, .int 0, .int 0]))] := hD
  refine W.widen (k := 0) (n := 0) (Nat.le_of_ble_eq_true rfl) (Nat.le_of_ble_eq_true rfl) ?_
  have hP9 := hP.sub (ws' := [(h0, .inr (0, [.ref qa, .int 0, .int 0, .int 0]))]) [0] rfl
  have hD9 := hD.sub (ws' := [(h0, .inr (0, [.ref qa, .int 0, .int 0, .int 0]))]) [0] (by decide) rfl
  have hK9 := hK.sub (tys' := []) [] rfl
  exact W.vret hx hb hr (fun t ht hW => ⟨⟨(), rfl, trivial, by rw [ht]; exact hP9, va_K.moved hW.alike hK9, hD9⟩, hS.F ht⟩) hS.2.2 d_SP_init_24
set_option maxHeartbeats 4000000 in
set_option maxRecDepth 100000 in
/-- GlyphLines$CharacterMap.<init> -/
theorem c_CM_init (l : Launch) (dC : Nat → ClassId) (dI : Nat → Nat → Nat) (h0 qa : Nat) (sz : Nat) : Met l y_CM_init s_CM_init ({ frames := 10, cells := 1, slots := 4, locals := 300 }) (va_Pc [.ref h0, .ref qa] (fun U => U.heap.size = sz ∧ va_P (dC, dI) cls_ [(h0, .inr (1, [.null, .int 0, .int 0]))] U.heap ∧ va_K (dC, dI) cls_ [] U ∧ va_D (fun _ => True) [(h0, .inr (1, [.null, .int 0, .int 0]))])) (va_Qv (fun _ : Unit => True) (fun (_ : Unit) (t : State) => True) (va_A [(h0, .inr (1, [.null, .int 0, .int 0]))] sz)) 1 4 (va_A [(h0, .inr (1, [.null, .int 0, .int 0]))] sz) := by
  refine Met.ofW (cc := b_CM_init) (maxL := 2) (ret := none) (by decide) rfl ?_
  intro p e s m args below meth c s₁ B hml hv
  obtain ⟨rfl, hsz, hP, hK, hD0⟩ := hv
  have hx := B.exec
  have hb := B.bytes
  have hr := B.returns
  have hts := atoms_spec (ws := s_CM_init) B.pre
  have hown : s.vm.findClass R_CM = some m.cls := findClass_of_methodNamed B.named
  have hlocks := B.notSynchronized
  have hin : meth.name = "<init>" := (name_of_methodNamed B.named B.method).1
  subst hsz
  have hD := hD0.self (sz := s.heap.size)
  generalize hAe : va_A [(h0, .inr (1, [.null, .int 0, .int 0]))] s.heap.size = A at hD ⊢
  have hA : ∀ q : Nat, s.heap.size ≤ q → A q := fun q h => by rw [← hAe]; exact Or.inr h
  have hS : va_S A s.heap s.heap [] := va_S.rf
  have hP : va_P (dC, dI) cls_ [(h0, .inr (1, [.null, .int 0, .int 0]))] s.heap := hP
  have hl := lv_entry ([.ref h0, .ref qa]) (n := 2) (Nat.le_of_ble_eq_true rfl)
  rw [lg_entry_eq]
  generalize (lg_sl ([.ref h0, .ref qa]) ++ List.replicate (2 - (lg_sl ([.ref h0, .ref qa])).length) Slot.unset).toArray = ls at hl ⊢
  have hl : lv_has ls 2 [(0, .ref h0), (1, .ref qa)] := hl
  refine lv_aload_n hx hb d_CM_init_0 rfl (lv_at hl 0 rfl) ?_
  refine W.objInit hx hb hown (hts _ (List.mem_cons_of_mem _ w_86)) (hts _ (List.mem_cons_of_mem _ w_28)) (hts _ (List.mem_cons_of_mem _ w_29)) rfl (by rw [hml]; exact hl.1) rfl d_CM_init_1 (Nat.le_of_ble_eq_true rfl) (Nat.le_of_ble_eq_true rfl) ?_
  refine W.eq (g2 := F0 m 4 ls []) rfl ?_
  refine lv_aload_n hx hb d_CM_init_4 rfl (lv_at hl 0 rfl) ?_
  refine lv_iconst (v := 0) hx hb d_CM_init_5 (by decide) ?_
  refine va_put (D := (dC, dI)) (ci := 1) (v := .int 0) (ty := .int) (C := R_CM) (T := F_CM) (N := 3) hx hb hts in_CM t_CM t_CM_ok n_CM hown hK hP hD hS 0 rfl rfl 1 (by decide) (hts _ (List.mem_cons_of_mem _ w_91)) (fun _ h9 => h9) rfl  (by decide +kernel) rfl rfl (Nat.le_of_ble_eq_true rfl) d_CM_init_6 (fun H locs hP hD hS => ?_)
  have hP : va_P (dC, dI) cls_ [(h0, .inr (1, [.null, .int 0, .int 0]))] H := hP
  have hD : va_D A [(h0, .inr (1, [.null, .int 0, .int 0]))] := hD
  refine lv_aload_n hx hb d_CM_init_9 rfl (lv_at hl 0 rfl) ?_
  refine lv_iconst (v := 0) hx hb d_CM_init_10 (by decide) ?_
  refine va_put (D := (dC, dI)) (ci := 1) (v := .int 0) (ty := .int) (C := R_CM) (T := F_CM) (N := 3) hx hb hts in_CM t_CM t_CM_ok n_CM hown hK hP hD hS 0 rfl rfl 2 (by decide) (hts _ (List.mem_cons_of_mem _ w_92)) (fun _ h9 => h9) rfl  (by decide +kernel) rfl rfl (Nat.le_of_ble_eq_true rfl) d_CM_init_11 (fun H locs hP hD hS => ?_)
  have hP : va_P (dC, dI) cls_ [(h0, .inr (1, [.null, .int 0, .int 0]))] H := hP
  have hD : va_D A [(h0, .inr (1, [.null, .int 0, .int 0]))] := hD
  refine lv_aload_n hx hb d_CM_init_14 rfl (lv_at hl 0 rfl) ?_
  refine va_new (ci := 0) (fs := [.null, .int 0, .int 0, .int 0]) (C := R_SP) (T := F_SP) (N := 4) hx hb hts in_SP t_SP t_SP_ok hown (hts _ (List.mem_cons_of_mem _ w_87)) (hts _ (List.mem_cons_of_mem _ w_43)) (hts _ (List.mem_cons_of_mem _ w_4)) hK hP hD hS hA rfl (fun j hj => by rcases (show j = 0 ∨ j = 1 ∨ j = 2 ∨ j = 3 by omega) with rfl | rfl | rfl | rfl <;> rfl) (Nat.le_of_ble_eq_true rfl) (Nat.le_of_ble_eq_true rfl) d_CM_init_15 (fun q1 H hP hD hS => ?_)
  have hP : va_P (dC, dI) cls_ [(h0, .inr (1, [.null, .int 0, .int 0])), (q1, .inr (0, [.null, .int 0, .int 0, .int 0]))] H := hP
  have hD : va_D A [(h0, .inr (1, [.null, .int 0, .int 0])), (q1, .inr (0, [.null, .int 0, .int 0, .int 0]))] := hD
  refine lv_dup hx hb d_CM_init_18 rfl ?_
  refine lv_aload_n hx hb d_CM_init_19 rfl (lv_at hl 1 rfl) ?_
  have hPc := hP.sub (ws' := [(q1, .inr (0, [.null, .int 0, .int 0, .int 0]))]) [1] rfl
  have hDc := hD.sub (ws' := [(q1, .inr (0, [.null, .int 0, .int 0, .int 0]))]) [1] (by decide) rfl
  have hKc := hK.sub (tys' := []) [] rfl
  have hFc := va_free (wc := [(q1, .inr (0, [.null, .int 0, .int 0, .int 0]))]) hD hS hA [1] rfl
  refine va_callv (va_runI (As := [.ref qa]) (rest := [.ref q1, .ref h0]) ⟨hx, hb, hml, hown, hts⟩ (c_SP_init l dC dI q1 qa H.size) (cwI 1 hts (tw_in w_46) rfl rfl rfl (hts _ (List.mem_cons_of_mem _ w_4)) (hts _ (List.mem_cons_of_mem _ w_88)) (hts _ (List.mem_cons_of_mem _ w_45)) rfl (by decide +kernel) ⟨Nat.le_of_ble_eq_true rfl, Nat.le_of_ble_eq_true rfl⟩) ⟨fun a U g mk q => by obtain ⟨q0, q1, qP, qK, qD⟩ := q; exact ⟨q0, q1, qP, va_K.moved (u := U) (U := U.calling g mk a) (Vm.Alike.refl U.vm) qK, qD⟩, fun U hU hW => ⟨rfl, by rw [hU], by rw [hU]; exact hPc, va_K.moved hW.alike hKc, hDc.weaken (fun _ _ _ _ => trivial)⟩⟩ rfl rfl hl.1 rfl (lv_room (Nat.le_of_ble_eq_true rfl)) d_CM_init_20 ⟨Nat.le_of_ble_eq_true rfl, Nat.le_of_ble_eq_true rfl⟩) hS (fun q _ h => hFc q h) hFc (fun u t H1 locs ht hvm hw hB hz1 hk1 hS => ?_)
  obtain ⟨hP1, hK1, hD1⟩ := hB
  rw [ht] at hP1
  have hK1 := va_K.moved hvm.symm hK1
  obtain ⟨hP, hD⟩ := va_join (wr := [(h0, .inr (1, [.null, .int 0, .int 0]))]) (w1 := [(q1, .inr (0, [.ref qa, .int 0, .int 0, .int 0]))]) hP hD [1] [0] rfl rfl (by decide) (by decide) hk1 hFc hP1 hD1
  have hK := (hK.sub (tys' := []) [] rfl).app hK1
  generalize H1 = H at hP hS ⊢
  have hP : va_P (dC, dI) cls_ [(h0, .inr (1, [.null, .int 0, .int 0])), (q1, .inr (0, [.ref qa, .int 0, .int 0, .int 0]))] H := hP
  have hD : va_D A [(h0, .inr (1, [.null, .int 0, .int 0])), (q1, .inr (0, [.ref qa, .int 0, .int 0, .int 0]))] := hD
  have hK : va_K (dC, dI) cls_ [] s := hK
  refine va_putF (D := (dC, dI)) (ci := 1) (v := .ref q1) (ty := .object "GlyphLines$Span") (C := R_CM) (T := F_CM) (N := 3) hx hb hts in_CM t_CM t_CM_ok n_CM hown hK hP hD hS 0 rfl rfl 0 (by decide) (hts _ (List.mem_cons_of_mem _ w_89)) (fun _ h9 => h9) rfl hin rfl (by decide +kernel) rfl rfl (Nat.le_of_ble_eq_true rfl) d_CM_init_23 (fun H locs hP hD hS => ?_)
  have hP : va_P (dC, dI) cls_ [(h0, .inr (1, [.ref q1, .int 0, .int 0])), (q1, .inr (0, [.ref qa, .int 0, .int 0, .int 0]))] H := hP
  have hD : va_D A [(h0, .inr (1, [.ref q1, .int 0, .int 0])), (q1, .inr (0, [.ref qa, .int 0, .int 0, .int 0]))] := hD
  refine W.widen (k := 1) (n := 4) (Nat.le_of_ble_eq_true rfl) (Nat.le_of_ble_eq_true rfl) ?_
  exact W.vret hx hb hr (fun t ht hW => ⟨⟨(), rfl, trivial, trivial⟩, hS.F ht⟩) hS.2.2 d_CM_init_26
set_option maxHeartbeats 4000000 in
set_option maxRecDepth 100000 in
/-- GlyphLines$Pairs.<init> -/
theorem c_PA_init (l : Launch) (dC : Nat → ClassId) (dI : Nat → Nat → Nat) (h0 qa : Nat) (sz : Nat) : Met l y_PA_init s_PA_init ({ frames := 10, cells := 1, slots := 4, locals := 300 }) (va_Pc [.ref h0, .ref qa] (fun U => U.heap.size = sz ∧ va_P (dC, dI) cls_ [(h0, .inr (3, [.null, .int 0]))] U.heap ∧ va_K (dC, dI) cls_ [] U ∧ va_D (fun _ => True) [(h0, .inr (3, [.null, .int 0]))])) (va_Qv (fun _ : Unit => True) (fun (_ : Unit) (t : State) => True) (va_A [(h0, .inr (3, [.null, .int 0]))] sz)) 1 4 (va_A [(h0, .inr (3, [.null, .int 0]))] sz) := by
  refine Met.ofW (cc := b_PA_init) (maxL := 2) (ret := none) (by decide) rfl ?_
  intro p e s m args below meth c s₁ B hml hv
  obtain ⟨rfl, hsz, hP, hK, hD0⟩ := hv
  have hx := B.exec
  have hb := B.bytes
  have hr := B.returns
  have hts := atoms_spec (ws := s_PA_init) B.pre
  have hown : s.vm.findClass R_PA = some m.cls := findClass_of_methodNamed B.named
  have hlocks := B.notSynchronized
  have hin : meth.name = "<init>" := (name_of_methodNamed B.named B.method).1
  subst hsz
  have hD := hD0.self (sz := s.heap.size)
  generalize hAe : va_A [(h0, .inr (3, [.null, .int 0]))] s.heap.size = A at hD ⊢
  have hA : ∀ q : Nat, s.heap.size ≤ q → A q := fun q h => by rw [← hAe]; exact Or.inr h
  have hS : va_S A s.heap s.heap [] := va_S.rf
  have hP : va_P (dC, dI) cls_ [(h0, .inr (3, [.null, .int 0]))] s.heap := hP
  have hl := lv_entry ([.ref h0, .ref qa]) (n := 2) (Nat.le_of_ble_eq_true rfl)
  rw [lg_entry_eq]
  generalize (lg_sl ([.ref h0, .ref qa]) ++ List.replicate (2 - (lg_sl ([.ref h0, .ref qa])).length) Slot.unset).toArray = ls at hl ⊢
  have hl : lv_has ls 2 [(0, .ref h0), (1, .ref qa)] := hl
  refine lv_aload_n hx hb d_PA_init_0 rfl (lv_at hl 0 rfl) ?_
  refine W.objInit hx hb hown (hts _ (List.mem_cons_of_mem _ w_105)) (hts _ (List.mem_cons_of_mem _ w_28)) (hts _ (List.mem_cons_of_mem _ w_29)) rfl (by rw [hml]; exact hl.1) rfl d_PA_init_1 (Nat.le_of_ble_eq_true rfl) (Nat.le_of_ble_eq_true rfl) ?_
  refine W.eq (g2 := F0 m 4 ls []) rfl ?_
  refine lv_aload_n hx hb d_PA_init_4 rfl (lv_at hl 0 rfl) ?_
  refine lv_iconst (v := 0) hx hb d_PA_init_5 (by decide) ?_
  refine va_put (D := (dC, dI)) (ci := 3) (v := .int 0) (ty := .int) (C := R_PA) (T := F_PA) (N := 2) hx hb hts in_PA t_PA t_PA_ok n_PA hown hK hP hD hS 0 rfl rfl 1 (by decide) (hts _ (List.mem_cons_of_mem _ w_110)) (fun _ h9 => h9) rfl  (by decide +kernel) rfl rfl (Nat.le_of_ble_eq_true rfl) d_PA_init_6 (fun H locs hP hD hS => ?_)
  have hP : va_P (dC, dI) cls_ [(h0, .inr (3, [.null, .int 0]))] H := hP
  have hD : va_D A [(h0, .inr (3, [.null, .int 0]))] := hD
  refine lv_aload_n hx hb d_PA_init_9 rfl (lv_at hl 0 rfl) ?_
  refine va_new (ci := 0) (fs := [.null, .int 0, .int 0, .int 0]) (C := R_SP) (T := F_SP) (N := 4) hx hb hts in_SP t_SP t_SP_ok hown (hts _ (List.mem_cons_of_mem _ w_106)) (hts _ (List.mem_cons_of_mem _ w_43)) (hts _ (List.mem_cons_of_mem _ w_4)) hK hP hD hS hA rfl (fun j hj => by rcases (show j = 0 ∨ j = 1 ∨ j = 2 ∨ j = 3 by omega) with rfl | rfl | rfl | rfl <;> rfl) (Nat.le_of_ble_eq_true rfl) (Nat.le_of_ble_eq_true rfl) d_PA_init_10 (fun q2 H hP hD hS => ?_)
  have hP : va_P (dC, dI) cls_ [(h0, .inr (3, [.null, .int 0])), (q2, .inr (0, [.null, .int 0, .int 0, .int 0]))] H := hP
  have hD : va_D A [(h0, .inr (3, [.null, .int 0])), (q2, .inr (0, [.null, .int 0, .int 0, .int 0]))] := hD
  refine lv_dup hx hb d_PA_init_13 rfl ?_
  refine lv_aload_n hx hb d_PA_init_14 rfl (lv_at hl 1 rfl) ?_
  have hPc := hP.sub (ws' := [(q2, .inr (0, [.null, .int 0, .int 0, .int 0]))]) [1] rfl
  have hDc := hD.sub (ws' := [(q2, .inr (0, [.null, .int 0, .int 0, .int 0]))]) [1] (by decide) rfl
  have hKc := hK.sub (tys' := []) [] rfl
  have hFc := va_free (wc := [(q2, .inr (0, [.null, .int 0, .int 0, .int 0]))]) hD hS hA [1] rfl
  refine va_callv (va_runI (As := [.ref qa]) (rest := [.ref q2, .ref h0]) ⟨hx, hb, hml, hown, hts⟩ (c_SP_init l dC dI q2 qa H.size) (cwI 1 hts (tw_in w_46) rfl rfl rfl (hts _ (List.mem_cons_of_mem _ w_4)) (hts _ (List.mem_cons_of_mem _ w_107)) (hts _ (List.mem_cons_of_mem _ w_45)) rfl (by decide +kernel) ⟨Nat.le_of_ble_eq_true rfl, Nat.le_of_ble_eq_true rfl⟩) ⟨fun a U g mk q => by obtain ⟨q0, q1, qP, qK, qD⟩ := q; exact ⟨q0, q1, qP, va_K.moved (u := U) (U := U.calling g mk a) (Vm.Alike.refl U.vm) qK, qD⟩, fun U hU hW => ⟨rfl, by rw [hU], by rw [hU]; exact hPc, va_K.moved hW.alike hKc, hDc.weaken (fun _ _ _ _ => trivial)⟩⟩ rfl rfl hl.1 rfl (lv_room (Nat.le_of_ble_eq_true rfl)) d_PA_init_15 ⟨Nat.le_of_ble_eq_true rfl, Nat.le_of_ble_eq_true rfl⟩) hS (fun q _ h => hFc q h) hFc (fun u t H1 locs ht hvm hw hB hz1 hk1 hS => ?_)
  obtain ⟨hP1, hK1, hD1⟩ := hB
  rw [ht] at hP1
  have hK1 := va_K.moved hvm.symm hK1
  obtain ⟨hP, hD⟩ := va_join (wr := [(h0, .inr (3, [.null, .int 0]))]) (w1 := [(q2, .inr (0, [.ref qa, .int 0, .int 0, .int 0]))]) hP hD [1] [0] rfl rfl (by decide) (by decide) hk1 hFc hP1 hD1
  have hK := (hK.sub (tys' := []) [] rfl).app hK1
  generalize H1 = H at hP hS ⊢
  have hP : va_P (dC, dI) cls_ [(h0, .inr (3, [.null, .int 0])), (q2, .inr (0, [.ref qa, .int 0, .int 0, .int 0]))] H := hP
  have hD : va_D A [(h0, .inr (3, [.null, .int 0])), (q2, .inr (0, [.ref qa, .int 0, .int 0, .int 0]))] := hD
  have hK : va_K (dC, dI) cls_ [] s := hK
  refine va_putF (D := (dC, dI)) (ci := 3) (v := .ref q2) (ty := .object "GlyphLines$Span") (C := R_PA) (T := F_PA) (N := 2) hx hb hts in_PA t_PA t_PA_ok n_PA hown hK hP hD hS 0 rfl rfl 0 (by decide) (hts _ (List.mem_cons_of_mem _ w_108)) (fun _ h9 => h9) rfl hin rfl (by decide +kernel) rfl rfl (Nat.le_of_ble_eq_true rfl) d_PA_init_18 (fun H locs hP hD hS => ?_)
  have hP : va_P (dC, dI) cls_ [(h0, .inr (3, [.ref q2, .int 0])), (q2, .inr (0, [.ref qa, .int 0, .int 0, .int 0]))] H := hP
  have hD : va_D A [(h0, .inr (3, [.ref q2, .int 0])), (q2, .inr (0, [.ref qa, .int 0, .int 0, .int 0]))] := hD
  refine W.widen (k := 1) (n := 4) (Nat.le_of_ble_eq_true rfl) (Nat.le_of_ble_eq_true rfl) ?_
  exact W.vret hx hb hr (fun t ht hW => ⟨⟨(), rfl, trivial, trivial⟩, hS.F ht⟩) hS.2.2 d_PA_init_21
set_option maxHeartbeats 4000000 in
set_option maxRecDepth 100000 in
/-- GlyphLines$Directory.<init> -/
theorem c_DI_init (l : Launch) (dC : Nat → ClassId) (dI : Nat → Nat → Nat) (h0 qa : Nat) (sz : Nat) : Met l y_DI_init s_DI_init ({ frames := 10, cells := 2, slots := 8, locals := 300 }) (va_Pc [.ref h0, .ref qa] (fun U => U.heap.size = sz ∧ va_P (dC, dI) cls_ [(h0, .inr (2, [.null, .null, .int 0]))] U.heap ∧ va_K (dC, dI) cls_ [] U ∧ va_D (fun _ => True) [(h0, .inr (2, [.null, .null, .int 0]))])) (va_Qv (fun _ : Unit => True) (fun (_ : Unit) (t : State) => ∃ q1 q2, va_P (dC, dI) cls_ [(h0, .inr (2, [.ref q1, .ref q2, .int 0])), (q1, .inr (0, [.ref qa, .int 0, .int 0, .int 0]))] t.heap ∧ va_K (dC, dI) cls_ [] t ∧ va_D (va_A [(h0, .inr (2, [.null, .null, .int 0]))] sz) [(h0, .inr (2, [.ref q1, .ref q2, .int 0])), (q1, .inr (0, [.ref qa, .int 0, .int 0, .int 0]))]) (va_A [(h0, .inr (2, [.null, .null, .int 0]))] sz)) 2 8 (va_A [(h0, .inr (2, [.null, .null, .int 0]))] sz) := by
  refine Met.ofW (cc := b_DI_init) (maxL := 2) (ret := none) (by decide) rfl ?_
  intro p e s m args below meth c s₁ B hml hv
  obtain ⟨rfl, hsz, hP, hK, hD0⟩ := hv
  have hx := B.exec
  have hb := B.bytes
  have hr := B.returns
  have hts := atoms_spec (ws := s_DI_init) B.pre
  have hown : s.vm.findClass R_DI = some m.cls := findClass_of_methodNamed B.named
  have hlocks := B.notSynchronized
  have hin : meth.name = "<init>" := (name_of_methodNamed B.named B.method).1
  subst hsz
  have hD := hD0.self (sz := s.heap.size)
  generalize hAe : va_A [(h0, .inr (2, [.null, .null, .int 0]))] s.heap.size = A at hD ⊢
  have hA : ∀ q : Nat, s.heap.size ≤ q → A q := fun q h => by rw [← hAe]; exact Or.inr h
  have hS : va_S A s.heap s.heap [] := va_S.rf
  have hP : va_P (dC, dI) cls_ [(h0, .inr (2, [.null, .null, .int 0]))] s.heap := hP
  have hl := lv_entry ([.ref h0, .ref qa]) (n := 2) (Nat.le_of_ble_eq_true rfl)
  rw [lg_entry_eq]
  generalize (lg_sl ([.ref h0, .ref qa]) ++ List.replicate (2 - (lg_sl ([.ref h0, .ref qa])).length) Slot.unset).toArray = ls at hl ⊢
  have hl : lv_has ls 2 [(0, .ref h0), (1, .ref qa)] := hl
  refine lv_aload_n hx hb d_DI_init_0 rfl (lv_at hl 0 rfl) ?_
  refine W.objInit hx hb hown (hts _ (List.mem_cons_of_mem _ w_41)) (hts _ (List.mem_cons_of_mem _ w_28)) (hts _ (List.mem_cons_of_mem _ w_29)) rfl (by rw [hml]; exact hl.1) rfl d_DI_init_1 (Nat.le_of_ble_eq_true rfl) (Nat.le_of_ble_eq_true rfl) ?_
  refine W.eq (g2 := F0 m 4 ls []) rfl ?_
  refine lv_aload_n hx hb d_DI_init_4 rfl (lv_at hl 0 rfl) ?_
  refine lv_iconst (v := 0) hx hb d_DI_init_5 (by decide) ?_
  refine va_put (D := (dC, dI)) (ci := 2) (v := .int 0) (ty := .int) (C := R_DI) (T := F_DI) (N := 3) hx hb hts in_DI t_DI t_DI_ok n_DI hown hK hP hD hS 0 rfl rfl 2 (by decide) (hts _ (List.mem_cons_of_mem _ w_71)) (fun _ h9 => h9) rfl  (by decide +kernel) rfl rfl (Nat.le_of_ble_eq_true rfl) d_DI_init_6 (fun H locs hP hD hS => ?_)
  have hP : va_P (dC, dI) cls_ [(h0, .inr (2, [.null, .null, .int 0]))] H := hP
  have hD : va_D A [(h0, .inr (2, [.null, .null, .int 0]))] := hD
  refine lv_aload_n hx hb d_DI_init_9 rfl (lv_at hl 0 rfl) ?_
  refine va_new (ci := 0) (fs := [.null, .int 0, .int 0, .int 0]) (C := R_SP) (T := F_SP) (N := 4) hx hb hts in_SP t_SP t_SP_ok hown (hts _ (List.mem_cons_of_mem _ w_42)) (hts _ (List.mem_cons_of_mem _ w_43)) (hts _ (List.mem_cons_of_mem _ w_4)) hK hP hD hS hA rfl (fun j hj => by rcases (show j = 0 ∨ j = 1 ∨ j = 2 ∨ j = 3 by omega) with rfl | rfl | rfl | rfl <;> rfl) (Nat.le_of_ble_eq_true rfl) (Nat.le_of_ble_eq_true rfl) d_DI_init_10 (fun q3 H hP hD hS => ?_)
  have hP : va_P (dC, dI) cls_ [(h0, .inr (2, [.null, .null, .int 0])), (q3, .inr (0, [.null, .int 0, .int 0, .int 0]))] H := hP
  have hD : va_D A [(h0, .inr (2, [.null, .null, .int 0])), (q3, .inr (0, [.null, .int 0, .int 0, .int 0]))] := hD
  refine lv_dup hx hb d_DI_init_13 rfl ?_
  refine lv_aload_n hx hb d_DI_init_14 rfl (lv_at hl 1 rfl) ?_
  have hPc := hP.sub (ws' := [(q3, .inr (0, [.null, .int 0, .int 0, .int 0]))]) [1] rfl
  have hDc := hD.sub (ws' := [(q3, .inr (0, [.null, .int 0, .int 0, .int 0]))]) [1] (by decide) rfl
  have hKc := hK.sub (tys' := []) [] rfl
  have hFc := va_free (wc := [(q3, .inr (0, [.null, .int 0, .int 0, .int 0]))]) hD hS hA [1] rfl
  refine va_callv (va_runI (As := [.ref qa]) (rest := [.ref q3, .ref h0]) ⟨hx, hb, hml, hown, hts⟩ (c_SP_init l dC dI q3 qa H.size) (cwI 1 hts (tw_in w_46) rfl rfl rfl (hts _ (List.mem_cons_of_mem _ w_4)) (hts _ (List.mem_cons_of_mem _ w_44)) (hts _ (List.mem_cons_of_mem _ w_45)) rfl (by decide +kernel) ⟨Nat.le_of_ble_eq_true rfl, Nat.le_of_ble_eq_true rfl⟩) ⟨fun a U g mk q => by obtain ⟨q0, q1, qP, qK, qD⟩ := q; exact ⟨q0, q1, qP, va_K.moved (u := U) (U := U.calling g mk a) (Vm.Alike.refl U.vm) qK, qD⟩, fun U hU hW => ⟨rfl, by rw [hU], by rw [hU]; exact hPc, va_K.moved hW.alike hKc, hDc.weaken (fun _ _ _ _ => trivial)⟩⟩ rfl rfl hl.1 rfl (lv_room (Nat.le_of_ble_eq_true rfl)) d_DI_init_15 ⟨Nat.le_of_ble_eq_true rfl, Nat.le_of_ble_eq_true rfl⟩) hS (fun q _ h => hFc q h) hFc (fun u t H1 locs ht hvm hw hB hz1 hk1 hS => ?_)
  obtain ⟨hP1, hK1, hD1⟩ := hB
  rw [ht] at hP1
  have hK1 := va_K.moved hvm.symm hK1
  obtain ⟨hP, hD⟩ := va_join (wr := [(h0, .inr (2, [.null, .null, .int 0]))]) (w1 := [(q3, .inr (0, [.ref qa, .int 0, .int 0, .int 0]))]) hP hD [1] [0] rfl rfl (by decide) (by decide) hk1 hFc hP1 hD1
  have hK := (hK.sub (tys' := []) [] rfl).app hK1
  generalize H1 = H at hP hS ⊢
  have hP : va_P (dC, dI) cls_ [(h0, .inr (2, [.null, .null, .int 0])), (q3, .inr (0, [.ref qa, .int 0, .int 0, .int 0]))] H := hP
  have hD : va_D A [(h0, .inr (2, [.null, .null, .int 0])), (q3, .inr (0, [.ref qa, .int 0, .int 0, .int 0]))] := hD
  have hK : va_K (dC, dI) cls_ [] s := hK
  refine va_putF (D := (dC, dI)) (ci := 2) (v := .ref q3) (ty := .object "GlyphLines$Span") (C := R_DI) (T := F_DI) (N := 3) hx hb hts in_DI t_DI t_DI_ok n_DI hown hK hP hD hS 0 rfl rfl 0 (by decide) (hts _ (List.mem_cons_of_mem _ w_69)) (fun _ h9 => h9) rfl hin rfl (by decide +kernel) rfl rfl (Nat.le_of_ble_eq_true rfl) d_DI_init_18 (fun H locs hP hD hS => ?_)
  have hP : va_P (dC, dI) cls_ [(h0, .inr (2, [.ref q3, .null, .int 0])), (q3, .inr (0, [.ref qa, .int 0, .int 0, .int 0]))] H := hP
  have hD : va_D A [(h0, .inr (2, [.ref q3, .null, .int 0])), (q3, .inr (0, [.ref qa, .int 0, .int 0, .int 0]))] := hD
  refine lv_aload_n hx hb d_DI_init_21 rfl (lv_at hl 0 rfl) ?_
  refine va_new (ci := 0) (fs := [.null, .int 0, .int 0, .int 0]) (C := R_SP) (T := F_SP) (N := 4) hx hb hts in_SP t_SP t_SP_ok hown (hts _ (List.mem_cons_of_mem _ w_42)) (hts _ (List.mem_cons_of_mem _ w_43)) (hts _ (List.mem_cons_of_mem _ w_4)) hK hP hD hS hA rfl (fun j hj => by rcases (show j = 0 ∨ j = 1 ∨ j = 2 ∨ j = 3 by omega) with rfl | rfl | rfl | rfl <;> rfl) (Nat.le_of_ble_eq_true rfl) (Nat.le_of_ble_eq_true rfl) d_DI_init_22 (fun q4 H hP hD hS => ?_)
  have hP : va_P (dC, dI) cls_ [(h0, .inr (2, [.ref q3, .null, .int 0])), (q3, .inr (0, [.ref qa, .int 0, .int 0, .int 0])), (q4, .inr (0, [.null, .int 0, .int 0, .int 0]))] H := hP
  have hD : va_D A [(h0, .inr (2, [.ref q3, .null, .int 0])), (q3, .inr (0, [.ref qa, .int 0, .int 0, .int 0])), (q4, .inr (0, [.null, .int 0, .int 0, .int 0]))] := hD
  refine lv_dup hx hb d_DI_init_25 rfl ?_
  refine lv_aload_n hx hb d_DI_init_26 rfl (lv_at hl 1 rfl) ?_
  have hPc := hP.sub (ws' := [(q4, .inr (0, [.null, .int 0, .int 0, .int 0]))]) [2] rfl
  have hDc := hD.sub (ws' := [(q4, .inr (0, [.null, .int 0, .int 0, .int 0]))]) [2] (by decide) rfl
  have hKc := hK.sub (tys' := []) [] rfl
  have hFc := va_free (wc := [(q4, .inr (0, [.null, .int 0, .int 0, .int 0]))]) hD hS hA [2] rfl
  refine va_callv (va_runI (As := [.ref qa]) (rest := [.ref q4, .ref h0]) ⟨hx, hb, hml, hown, hts⟩ (c_SP_init l dC dI q4 qa H.size) (cwI 1 hts (tw_in w_46) rfl rfl rfl (hts _ (List.mem_cons_of_mem _ w_4)) (hts _ (List.mem_cons_of_mem _ w_44)) (hts _ (List.mem_cons_of_mem _ w_45)) rfl (by decide +kernel) ⟨Nat.le_of_ble_eq_true rfl, Nat.le_of_ble_eq_true rfl⟩) ⟨fun a U g mk q => by obtain ⟨q0, q1, qP, qK, qD⟩ := q; exact ⟨q0, q1, qP, va_K.moved (u := U) (U := U.calling g mk a) (Vm.Alike.refl U.vm) qK, qD⟩, fun U hU hW => ⟨rfl, by rw [hU], by rw [hU]; exact hPc, va_K.moved hW.alike hKc, hDc.weaken (fun _ _ _ _ => trivial)⟩⟩ rfl rfl hl.1 rfl (lv_room (Nat.le_of_ble_eq_true rfl)) d_DI_init_27 ⟨Nat.le_of_ble_eq_true rfl, Nat.le_of_ble_eq_true rfl⟩) hS (fun q _ h => hFc q h) hFc (fun u t H1 locs ht hvm hw hB hz1 hk1 hS => ?_)
  obtain ⟨hP1, hK1, hD1⟩ := hB
  rw [ht] at hP1
  have hK1 := va_K.moved hvm.symm hK1
  obtain ⟨hP, hD⟩ := va_join (wr := [(h0, .inr (2, [.ref q3, .null, .int 0])), (q3, .inr (0, [.ref qa, .int 0, .int 0, .int 0]))]) (w1 := [(q4, .inr (0, [.ref qa, .int 0, .int 0, .int 0]))]) hP hD [2] [0, 1] rfl rfl (by decide) (by decide) hk1 hFc hP1 hD1
  have hK := (hK.sub (tys' := []) [] rfl).app hK1
  generalize H1 = H at hP hS ⊢
  have hP : va_P (dC, dI) cls_ [(h0, .inr (2, [.ref q3, .null, .int 0])), (q3, .inr (0, [.ref qa, .int 0, .int 0, .int 0])), (q4, .inr (0, [.ref qa, .int 0, .int 0, .int 0]))] H := hP
  have hD : va_D A [(h0, .inr (2, [.ref q3, .null, .int 0])), (q3, .inr (0, [.ref qa, .int 0, .int 0, .int 0])), (q4, .inr (0, [.ref qa, .int 0, .int 0, .int 0]))] := hD
  have hK : va_K (dC, dI) cls_ [] s := hK
  refine va_putF (D := (dC, dI)) (ci := 2) (v := .ref q4) (ty := .object "GlyphLines$Span") (C := R_DI) (T := F_DI) (N := 3) hx hb hts in_DI t_DI t_DI_ok n_DI hown hK hP hD hS 0 rfl rfl 1 (by decide) (hts _ (List.mem_cons_of_mem _ w_70)) (fun _ h9 => h9) rfl hin rfl (by decide +kernel) rfl rfl (Nat.le_of_ble_eq_true rfl) d_DI_init_30 (fun H locs hP hD hS => ?_)
  have hP : va_P (dC, dI) cls_ [(h0, .inr (2, [.ref q3, .ref q4, .int 0])), (q3, .inr (0, [.ref qa, .int 0, .int 0, .int 0])), (q4, .inr (0, [.ref qa, .int 0, .int 0, .int 0]))] H := hP
  have hD : va_D A [(h0, .inr (2, [.ref q3, .ref q4, .int 0])), (q3, .inr (0, [.ref qa, .int 0, .int 0, .int 0])), (q4, .inr (0, [.ref qa, .int 0, .int 0, .int 0]))] := hD
  refine W.widen (k := 2) (n := 8) (Nat.le_of_ble_eq_true rfl) (Nat.le_of_ble_eq_true rfl) ?_
  have hP9 := hP.sub (ws' := [(h0, .inr (2, [.ref q3, .ref q4, .int 0])), (q3, .inr (0, [.ref qa, .int 0, .int 0, .int 0]))]) [0, 1] rfl
  have hD9 := hD.sub (ws' := [(h0, .inr (2, [.ref q3, .ref q4, .int 0])), (q3, .inr (0, [.ref qa, .int 0, .int 0, .int 0]))]) [0, 1] (by decide) rfl
  have hK9 := hK.sub (tys' := []) [] rfl
  exact W.vret hx hb hr (fun t ht hW => ⟨⟨(), rfl, trivial, q3, q4, by rw [ht]; exact hP9, va_K.moved hW.alike hK9, hD9⟩, hS.F ht⟩) hS.2.2 d_DI_init_33
set_option maxHeartbeats 4000000 in
set_option maxRecDepth 100000 in
/-- GlyphLines$Font.<init> -/
theorem c_FO_init (l : Launch) (dC : Nat → ClassId) (dI : Nat → Nat → Nat) (h0 : Nat) (sz : Nat) : Met l y_FO_init s_FO_init ({ frames := 12, cells := 18, slots := 1263, locals := 400 }) (va_Pc [.ref h0] (fun U => U.heap.size = sz ∧ va_P (dC, dI) cls_ [(h0, .inr (4, [.null, .null, .null, .null, .null, .null, .null, .null, .null, .null, .null, .int 0, .int 0, .int 0, .int 0]))] U.heap ∧ va_K (dC, dI) cls_ [] U ∧ va_D (fun _ => True) [(h0, .inr (4, [.null, .null, .null, .null, .null, .null, .null, .null, .null, .null, .null, .int 0, .int 0, .int 0, .int 0]))] ∧ va_AO "GlyphLines$Span" U)) (va_Qv (fun _ : Unit => True) (fun (_ : Unit) (t : State) => ∃ f0 f1 f2 f3 f4 f5 f6 f7 f8 f9 f10 qw qt cA, va_P (dC, dI) cls_ [(h0, .inr (4, [.ref f0, .ref f1, .ref f2, .ref f3, .ref f4, .ref f5, .ref f6, .ref f7, .ref f8, .ref f9, .ref f10, .int 64, .int 0, .int 0, .int 0])), (f0, .inl (cA, 1200, .inl (fun _ => 0))), (f1, .inr (2, [.ref qw, .ref qt, .int 0])), (qw, .inr (0, [.ref f0, .int 0, .int 0, .int 0]))] t.heap ∧ va_K (dC, dI) cls_ [(cA, .int)] t ∧ va_D (va_A [(h0, .inr (4, [.null, .null, .null, .null, .null, .null, .null, .null, .null, .null, .null, .int 0, .int 0, .int 0, .int 0]))] sz) [(h0, .inr (4, [.ref f0, .ref f1, .ref f2, .ref f3, .ref f4, .ref f5, .ref f6, .ref f7, .ref f8, .ref f9, .ref f10, .int 64, .int 0, .int 0, .int 0])), (f0, .inl (cA, 1200, .inl (fun _ => 0))), (f1, .inr (2, [.ref qw, .ref qt, .int 0])), (qw, .inr (0, [.ref f0, .int 0, .int 0, .int 0]))]) (va_A [(h0, .inr (4, [.null, .null, .null, .null, .null, .null, .null, .null, .null, .null, .null, .int 0, .int 0, .int 0, .int 0]))] sz)) 18 1263 (va_A [(h0, .inr (4, [.null, .null, .null, .null, .null, .null, .null, .null, .null, .null, .null, .int 0, .int 0, .int 0, .int 0]))] sz) := by
  refine Met.ofW (cc := b_FO_init) (maxL := 1) (ret := none) (by decide) rfl ?_
  intro p e s m args below meth c s₁ B hml hv
  obtain ⟨rfl, hsz, hP, hK, hD0, hO⟩ := hv
  have hx := B.exec
  have hb := B.bytes
  have hr := B.returns
  have hts := atoms_spec (ws := s_FO_init) B.pre
  have hown : s.vm.findClass R_FO = some m.cls := findClass_of_methodNamed B.named
  have hlocks := B.notSynchronized
  have hin : meth.name = "<init>" := (name_of_methodNamed B.named B.method).1
  subst hsz
  have hD := hD0.self (sz := s.heap.size)
  generalize hAe : va_A [(h0, .inr (4, [.null, .null, .null, .null, .null, .null, .null, .null, .null, .null, .null, .int 0, .int 0, .int 0, .int 0]))] s.heap.size = A at hD ⊢
  have hA : ∀ q : Nat, s.heap.size ≤ q → A q := fun q h => by rw [← hAe]; exact Or.inr h
  have hS : va_S A s.heap s.heap [] := va_S.rf
  have hP : va_P (dC, dI) cls_ [(h0, .inr (4, [.null, .null, .null, .null, .null, .null, .null, .null, .null, .null, .null, .int 0, .int 0, .int 0, .int 0]))] s.heap := hP
  have hl := lv_entry ([.ref h0]) (n := 1) (Nat.le_of_ble_eq_true rfl)
  rw [lg_entry_eq]
  generalize (lg_sl ([.ref h0]) ++ List.replicate (1 - (lg_sl ([.ref h0])).length) Slot.unset).toArray = ls at hl ⊢
  have hl : lv_has ls 1 [(0, .ref h0)] := hl
  refine lv_aload_n hx hb d_FO_init_0 rfl (lv_at hl 0 rfl) ?_
  refine W.objInit hx hb hown (hts _ (List.mem_cons_of_mem _ w_35)) (hts _ (List.mem_cons_of_mem _ w_28)) (hts _ (List.mem_cons_of_mem _ w_29)) rfl (by rw [hml]; exact hl.1) rfl d_FO_init_1 (Nat.le_of_ble_eq_true rfl) (Nat.le_of_ble_eq_true rfl) ?_
  refine W.eq (g2 := F0 m 4 ls []) rfl ?_
  refine lv_aload_n hx hb d_FO_init_4 rfl (lv_at hl 0 rfl) ?_
  refine lv_sipush (v := 1200) hx hb d_FO_init_5 (by decide) ?_
  refine va_newa (a0 := (1200, .inl (fun _ => 0))) (ty := .int) (N' := 1200) hx hb (hts _ (List.mem_cons_of_mem _ w_68)) rfl hK hP hD hS hA (fun _ => rfl) (by decide +kernel) (by decide +kernel) (by decide +kernel) (Nat.le_of_ble_eq_true rfl) (Nat.le_of_ble_eq_true rfl) d_FO_init_8 (fun q5 cA6 H hK hP hD hS => ?_)
  have hP : va_P (dC, dI) cls_ [(h0, .inr (4, [.null, .null, .null, .null, .null, .null, .null, .null, .null, .null, .null, .int 0, .int 0, .int 0, .int 0])), (q5, .inl (cA6, 1200, .inl (fun _ => 0)))] H := hP
  have hD : va_D A [(h0, .inr (4, [.null, .null, .null, .null, .null, .null, .null, .null, .null, .null, .null, .int 0, .int 0, .int 0, .int 0])), (q5, .inl (cA6, 1200, .inl (fun _ => 0)))] := hD
  have hK : va_K (dC, dI) cls_ [(cA6, .int)] s := hK
  refine va_putF (D := (dC, dI)) (ci := 4) (v := .ref q5) (ty := .array .int) (C := R_FO) (T := F_FO) (N := 15) hx hb hts in_FO t_FO t_FO_ok n_FO hown hK hP hD hS 0 rfl rfl 0 (by decide) (hts _ (List.mem_cons_of_mem _ w_117)) (fun _ h9 => h9) rfl hin rfl (by decide +kernel) rfl rfl (Nat.le_of_ble_eq_true rfl) d_FO_init_10 (fun H locs hP hD hS => ?_)
  have hP : va_P (dC, dI) cls_ [(h0, .inr (4, [.ref q5, .null, .null, .null, .null, .null, .null, .null, .null, .null, .null, .int 0, .int 0, .int 0, .int 0])), (q5, .inl (cA6, 1200, .inl (fun _ => 0)))] H := hP
  have hD : va_D A [(h0, .inr (4, [.ref q5, .null, .null, .null, .null, .null, .null, .null, .null, .null, .null, .int 0, .int 0, .int 0, .int 0])), (q5, .inl (cA6, 1200, .inl (fun _ => 0)))] := hD
  refine lv_aload_n hx hb d_FO_init_13 rfl (lv_at hl 0 rfl) ?_
  refine va_new (ci := 2) (fs := [.null, .null, .int 0]) (C := R_DI) (T := F_DI) (N := 3) hx hb hts in_DI t_DI t_DI_ok hown (hts _ (List.mem_cons_of_mem _ w_36)) (hts _ (List.mem_cons_of_mem _ w_37)) (hts _ (List.mem_cons_of_mem _ w_3)) hK hP hD hS hA rfl (fun j hj => by rcases (show j = 0 ∨ j = 1 ∨ j = 2 by omega) with rfl | rfl | rfl <;> rfl) (Nat.le_of_ble_eq_true rfl) (Nat.le_of_ble_eq_true rfl) d_FO_init_14 (fun q7 H hP hD hS => ?_)
  have hP : va_P (dC, dI) cls_ [(h0, .inr (4, [.ref q5, .null, .null, .null, .null, .null, .null, .null, .null, .null, .null, .int 0, .int 0, .int 0, .int 0])), (q5, .inl (cA6, 1200, .inl (fun _ => 0))), (q7, .inr (2, [.null, .null, .int 0]))] H := hP
  have hD : va_D A [(h0, .inr (4, [.ref q5, .null, .null, .null, .null, .null, .null, .null, .null, .null, .null, .int 0, .int 0, .int 0, .int 0])), (q5, .inl (cA6, 1200, .inl (fun _ => 0))), (q7, .inr (2, [.null, .null, .int 0]))] := hD
  refine lv_dup hx hb d_FO_init_17 rfl ?_
  refine lv_aload_n hx hb d_FO_init_18 rfl (lv_at hl 0 rfl) ?_
  refine va_get (D := (dC, dI)) (ci := 4) (v := .ref q5) (C := R_FO) (T := F_FO) (N := 15) hx hb hts in_FO hown hK hP 0 rfl rfl 0 (by decide) (hts _ (List.mem_cons_of_mem _ w_117)) (fun _ h9 => h9) rfl d_FO_init_19 ?_
  have hPc := hP.sub (ws' := [(q7, .inr (2, [.null, .null, .int 0]))]) [2] rfl
  have hDc := hD.sub (ws' := [(q7, .inr (2, [.null, .null, .int 0]))]) [2] (by decide) rfl
  have hKc := hK.sub (tys' := []) [] rfl
  have hFc := va_free (wc := [(q7, .inr (2, [.null, .null, .int 0]))]) hD hS hA [2] rfl
  refine va_callv (va_runI (As := [.ref q5]) (rest := [.ref q7, .ref h0]) ⟨hx, hb, hml, hown, hts⟩ (c_DI_init l dC dI q7 q5 H.size) (cwI 1 hts (tw_in w_40) rfl rfl rfl (hts _ (List.mem_cons_of_mem _ w_3)) (hts _ (List.mem_cons_of_mem _ w_38)) (hts _ (List.mem_cons_of_mem _ w_39)) rfl (by decide +kernel) ⟨Nat.le_of_ble_eq_true rfl, Nat.le_of_ble_eq_true rfl⟩) ⟨fun a U g mk q => by obtain ⟨q0, q1, qP, qK, qD⟩ := q; exact ⟨q0, q1, qP, va_K.moved (u := U) (U := U.calling g mk a) (Vm.Alike.refl U.vm) qK, qD⟩, fun U hU hW => ⟨rfl, by rw [hU], by rw [hU]; exact hPc, va_K.moved hW.alike hKc, hDc.weaken (fun _ _ _ _ => trivial)⟩⟩ rfl rfl hl.1 rfl (lv_room (Nat.le_of_ble_eq_true rfl)) d_FO_init_22 ⟨Nat.le_of_ble_eq_true rfl, Nat.le_of_ble_eq_true rfl⟩) hS (fun q _ h => hFc q h) hFc (fun u t H1 locs ht hvm hw hB hz1 hk1 hS => ?_)
  obtain ⟨q8, q9, hP1, hK1, hD1⟩ := hB
  rw [ht] at hP1
  have hK1 := va_K.moved hvm.symm hK1
  obtain ⟨hP, hD⟩ := va_join (wr := [(h0, .inr (4, [.ref q5, .null, .null, .null, .null, .null, .null, .null, .null, .null, .null, .int 0, .int 0, .int 0, .int 0])), (q5, .inl (cA6, 1200, .inl (fun _ => 0)))]) (w1 := [(q7, .inr (2, [.ref q8, .ref q9, .int 0])), (q8, .inr (0, [.ref q5, .int 0, .int 0, .int 0]))]) hP hD [2] [0, 1] rfl rfl (by decide) (by decide) hk1 hFc hP1 hD1
  have hK := (hK.sub (tys' := [(cA6, .int)]) [0] rfl).app hK1
  generalize H1 = H at hP hS ⊢
  have hP : va_P (dC, dI) cls_ [(h0, .inr (4, [.ref q5, .null, .null, .null, .null, .null, .null, .null, .null, .null, .null, .int 0, .int 0, .int 0, .int 0])), (q5, .inl (cA6, 1200, .inl (fun _ => 0))), (q7, .inr (2, [.ref q8, .ref q9, .int 0])), (q8, .inr (0, [.ref q5, .int 0, .int 0, .int 0]))] H := hP
  have hD : va_D A [(h0, .inr (4, [.ref q5, .null, .null, .null, .null, .null, .null, .null, .null, .null, .null, .int 0, .int 0, .int 0, .int 0])), (q5, .inl (cA6, 1200, .inl (fun _ => 0))), (q7, .inr (2, [.ref q8, .ref q9, .int 0])), (q8, .inr (0, [.ref q5, .int 0, .int 0, .int 0]))] := hD
  have hK : va_K (dC, dI) cls_ [(cA6, .int)] s := hK
  refine va_putF (D := (dC, dI)) (ci := 4) (v := .ref q7) (ty := .object "GlyphLines$Directory") (C := R_FO) (T := F_FO) (N := 15) hx hb hts in_FO t_FO t_FO_ok n_FO hown hK hP hD hS 0 rfl rfl 1 (by decide) (hts _ (List.mem_cons_of_mem _ w_118)) (fun _ h9 => h9) rfl hin rfl (by decide +kernel) rfl rfl (Nat.le_of_ble_eq_true rfl) d_FO_init_25 (fun H locs hP hD hS => ?_)
  have hP : va_P (dC, dI) cls_ [(h0, .inr (4, [.ref q5, .ref q7, .null, .null, .null, .null, .null, .null, .null, .null, .null, .int 0, .int 0, .int 0, .int 0])), (q5, .inl (cA6, 1200, .inl (fun _ => 0))), (q7, .inr (2, [.ref q8, .ref q9, .int 0])), (q8, .inr (0, [.ref q5, .int 0, .int 0, .int 0]))] H := hP
  have hD : va_D A [(h0, .inr (4, [.ref q5, .ref q7, .null, .null, .null, .null, .null, .null, .null, .null, .null, .int 0, .int 0, .int 0, .int 0])), (q5, .inl (cA6, 1200, .inl (fun _ => 0))), (q7, .inr (2, [.ref q8, .ref q9, .int 0])), (q8, .inr (0, [.ref q5, .int 0, .int 0, .int 0]))] := hD
  refine lv_aload_n hx hb d_FO_init_28 rfl (lv_at hl 0 rfl) ?_
  refine va_new (ci := 0) (fs := [.null, .int 0, .int 0, .int 0]) (C := R_SP) (T := F_SP) (N := 4) hx hb hts in_SP t_SP t_SP_ok hown (hts _ (List.mem_cons_of_mem _ w_79)) (hts _ (List.mem_cons_of_mem _ w_43)) (hts _ (List.mem_cons_of_mem _ w_4)) hK hP hD hS hA rfl (fun j hj => by rcases (show j = 0 ∨ j = 1 ∨ j = 2 ∨ j = 3 by omega) with rfl | rfl | rfl | rfl <;> rfl) (Nat.le_of_ble_eq_true rfl) (Nat.le_of_ble_eq_true rfl) d_FO_init_29 (fun q10 H hP hD hS => ?_)
  have hP : va_P (dC, dI) cls_ [(h0, .inr (4, [.ref q5, .ref q7, .null, .null, .null, .null, .null, .null, .null, .null, .null, .int 0, .int 0, .int 0, .int 0])), (q5, .inl (cA6, 1200, .inl (fun _ => 0))), (q7, .inr (2, [.ref q8, .ref q9, .int 0])), (q8, .inr (0, [.ref q5, .int 0, .int 0, .int 0])), (q10, .inr (0, [.null, .int 0, .int 0, .int 0]))] H := hP
  have hD : va_D A [(h0, .inr (4, [.ref q5, .ref q7, .null, .null, .null, .null, .null, .null, .null, .null, .null, .int 0, .int 0, .int 0, .int 0])), (q5, .inl (cA6, 1200, .inl (fun _ => 0))), (q7, .inr (2, [.ref q8, .ref q9, .int 0])), (q8, .inr (0, [.ref q5, .int 0, .int 0, .int 0])), (q10, .inr (0, [.null, .int 0, .int 0, .int 0]))] := hD
  refine lv_dup hx hb d_FO_init_32 rfl ?_
  refine lv_aload_n hx hb d_FO_init_33 rfl (lv_at hl 0 rfl) ?_
  refine va_get (D := (dC, dI)) (ci := 4) (v := .ref q5) (C := R_FO) (T := F_FO) (N := 15) hx hb hts in_FO hown hK hP 0 rfl rfl 0 (by decide) (hts _ (List.mem_cons_of_mem _ w_117)) (fun _ h9 => h9) rfl d_FO_init_34 ?_
  have hPc := hP.sub (ws' := [(q10, .inr (0, [.null, .int 0, .int 0, .int 0]))]) [4] rfl
  have hDc := hD.sub (ws' := [(q10, .inr (0, [.null, .int 0, .int 0, .int 0]))]) [4] (by decide) rfl
  have hKc := hK.sub (tys' := []) [] rfl
  have hFc := va_free (wc := [(q10, .inr (0, [.null, .int 0, .int 0, .int 0]))]) hD hS hA [4] rfl
  refine va_callv (va_runI (As := [.ref q5]) (rest := [.ref q10, .ref h0]) ⟨hx, hb, hml, hown, hts⟩ (c_SP_init l dC dI q10 q5 H.size) (cwI 1 hts (tw_in w_46) rfl rfl rfl (hts _ (List.mem_cons_of_mem _ w_4)) (hts _ (List.mem_cons_of_mem _ w_80)) (hts _ (List.mem_cons_of_mem _ w_45)) rfl (by decide +kernel) ⟨Nat.le_of_ble_eq_true rfl, Nat.le_of_ble_eq_true rfl⟩) ⟨fun a U g mk q => by obtain ⟨q0, q1, qP, qK, qD⟩ := q; exact ⟨q0, q1, qP, va_K.moved (u := U) (U := U.calling g mk a) (Vm.Alike.refl U.vm) qK, qD⟩, fun U hU hW => ⟨rfl, by rw [hU], by rw [hU]; exact hPc, va_K.moved hW.alike hKc, hDc.weaken (fun _ _ _ _ => trivial)⟩⟩ rfl rfl hl.1 rfl (lv_room (Nat.le_of_ble_eq_true rfl)) d_FO_init_37 ⟨Nat.le_of_ble_eq_true rfl, Nat.le_of_ble_eq_true rfl⟩) hS (fun q _ h => hFc q h) hFc (fun u t H1 locs ht hvm hw hB hz1 hk1 hS => ?_)
  obtain ⟨hP1, hK1, hD1⟩ := hB
  rw [ht] at hP1
  have hK1 := va_K.moved hvm.symm hK1
  obtain ⟨hP, hD⟩ := va_join (wr := [(h0, .inr (4, [.ref q5, .ref q7, .null, .null, .null, .null, .null, .null, .null, .null, .null, .int 0, .int 0, .int 0, .int 0])), (q5, .inl (cA6, 1200, .inl (fun _ => 0))), (q7, .inr (2, [.ref q8, .ref q9, .int 0])), (q8, .inr (0, [.ref q5, .int 0, .int 0, .int 0]))]) (w1 := [(q10, .inr (0, [.ref q5, .int 0, .int 0, .int 0]))]) hP hD [4] [0, 1, 2, 3] rfl rfl (by decide) (by decide) hk1 hFc hP1 hD1
  have hK := (hK.sub (tys' := [(cA6, .int)]) [0] rfl).app hK1
  generalize H1 = H at hP hS ⊢
  have hP : va_P (dC, dI) cls_ [(h0, .inr (4, [.ref q5, .ref q7, .null, .null, .null, .null, .null, .null, .null, .null, .null, .int 0, .int 0, .int 0, .int 0])), (q5, .inl (cA6, 1200, .inl (fun _ => 0))), (q7, .inr (2, [.ref q8, .ref q9, .int 0])), (q8, .inr (0, [.ref q5, .int 0, .int 0, .int 0])), (q10, .inr (0, [.ref q5, .int 0, .int 0, .int 0]))] H := hP
  have hD : va_D A [(h0, .inr (4, [.ref q5, .ref q7, .null, .null, .null, .null, .null, .null, .null, .null, .null, .int 0, .int 0, .int 0, .int 0])), (q5, .inl (cA6, 1200, .inl (fun _ => 0))), (q7, .inr (2, [.ref q8, .ref q9, .int 0])), (q8, .inr (0, [.ref q5, .int 0, .int 0, .int 0])), (q10, .inr (0, [.ref q5, .int 0, .int 0, .int 0]))] := hD
  have hK : va_K (dC, dI) cls_ [(cA6, .int)] s := hK
  refine va_putF (D := (dC, dI)) (ci := 4) (v := .ref q10) (ty := .object "GlyphLines$Span") (C := R_FO) (T := F_FO) (N := 15) hx hb hts in_FO t_FO t_FO_ok n_FO hown hK hP hD hS 0 rfl rfl 2 (by decide) (hts _ (List.mem_cons_of_mem _ w_119)) (fun _ h9 => h9) rfl hin rfl (by decide +kernel) rfl rfl (Nat.le_of_ble_eq_true rfl) d_FO_init_40 (fun H locs hP hD hS => ?_)
  have hP : va_P (dC, dI) cls_ [(h0, .inr (4, [.ref q5, .ref q7, .ref q10, .null, .null, .null, .null, .null, .null, .null, .null, .int 0, .int 0, .int 0, .int 0])), (q5, .inl (cA6, 1200, .inl (fun _ => 0))), (q7, .inr (2, [.ref q8, .ref q9, .int 0])), (q8, .inr (0, [.ref q5, .int 0, .int 0, .int 0])), (q10, .inr (0, [.ref q5, .int 0, .int 0, .int 0]))] H := hP
  have hD : va_D A [(h0, .inr (4, [.ref q5, .ref q7, .ref q10, .null, .null, .null, .null, .null, .null, .null, .null, .int 0, .int 0, .int 0, .int 0])), (q5, .inl (cA6, 1200, .inl (fun _ => 0))), (q7, .inr (2, [.ref q8, .ref q9, .int 0])), (q8, .inr (0, [.ref q5, .int 0, .int 0, .int 0])), (q10, .inr (0, [.ref q5, .int 0, .int 0, .int 0]))] := hD
  refine lv_aload_n hx hb d_FO_init_43 rfl (lv_at hl 0 rfl) ?_
  refine va_new (ci := 0) (fs := [.null, .int 0, .int 0, .int 0]) (C := R_SP) (T := F_SP) (N := 4) hx hb hts in_SP t_SP t_SP_ok hown (hts _ (List.mem_cons_of_mem _ w_79)) (hts _ (List.mem_cons_of_mem _ w_43)) (hts _ (List.mem_cons_of_mem _ w_4)) hK hP hD hS hA rfl (fun j hj => by rcases (show j = 0 ∨ j = 1 ∨ j = 2 ∨ j = 3 by omega) with rfl | rfl | rfl | rfl <;> rfl) (Nat.le_of_ble_eq_true rfl) (Nat.le_of_ble_eq_true rfl) d_FO_init_44 (fun q11 H hP hD hS => ?_)
  have hP : va_P (dC, dI) cls_ [(h0, .inr (4, [.ref q5, .ref q7, .ref q10, .null, .null, .null, .null, .null, .null, .null, .null, .int 0, .int 0, .int 0, .int 0])), (q5, .inl (cA6, 1200, .inl (fun _ => 0))), (q7, .inr (2, [.ref q8, .ref q9, .int 0])), (q8, .inr (0, [.ref q5, .int 0, .int 0, .int 0])), (q10, .inr (0, [.ref q5, .int 0, .int 0, .int 0])), (q11, .inr (0, [.null, .int 0, .int 0, .int 0]))] H := hP
  have hD : va_D A [(h0, .inr (4, [.ref q5, .ref q7, .ref q10, .null, .null, .null, .null, .null, .null, .null, .null, .int 0, .int 0, .int 0, .int 0])), (q5, .inl (cA6, 1200, .inl (fun _ => 0))), (q7, .inr (2, [.ref q8, .ref q9, .int 0])), (q8, .inr (0, [.ref q5, .int 0, .int 0, .int 0])), (q10, .inr (0, [.ref q5, .int 0, .int 0, .int 0])), (q11, .inr (0, [.null, .int 0, .int 0, .int 0]))] := hD
  refine lv_dup hx hb d_FO_init_47 rfl ?_
  refine lv_aload_n hx hb d_FO_init_48 rfl (lv_at hl 0 rfl) ?_
  refine va_get (D := (dC, dI)) (ci := 4) (v := .ref q5) (C := R_FO) (T := F_FO) (N := 15) hx hb hts in_FO hown hK hP 0 rfl rfl 0 (by decide) (hts _ (List.mem_cons_of_mem _ w_117)) (fun _ h9 => h9) rfl d_FO_init_49 ?_
  have hPc := hP.sub (ws' := [(q11, .inr (0, [.null, .int 0, .int 0, .int 0]))]) [5] rfl
  have hDc := hD.sub (ws' := [(q11, .inr (0, [.null, .int 0, .int 0, .int 0]))]) [5] (by decide) rfl
  have hKc := hK.sub (tys' := []) [] rfl
  have hFc := va_free (wc := [(q11, .inr (0, [.null, .int 0, .int 0, .int 0]))]) hD hS hA [5] rfl
  refine va_callv (va_runI (As := [.ref q5]) (rest := [.ref q11, .ref h0]) ⟨hx, hb, hml, hown, hts⟩ (c_SP_init l dC dI q11 q5 H.size) (cwI 1 hts (tw_in w_46) rfl rfl rfl (hts _ (List.mem_cons_of_mem _ w_4)) (hts _ (List.mem_cons_of_mem _ w_80)) (hts _ (List.mem_cons_of_mem _ w_45)) rfl (by decide +kernel) ⟨Nat.le_of_ble_eq_true rfl, Nat.le_of_ble_eq_true rfl⟩) ⟨fun a U g mk q => by obtain ⟨q0, q1, qP, qK, qD⟩ := q; exact ⟨q0, q1, qP, va_K.moved (u := U) (U := U.calling g mk a) (Vm.Alike.refl U.vm) qK, qD⟩, fun U hU hW => ⟨rfl, by rw [hU], by rw [hU]; exact hPc, va_K.moved hW.alike hKc, hDc.weaken (fun _ _ _ _ => trivial)⟩⟩ rfl rfl hl.1 rfl (lv_room (Nat.le_of_ble_eq_true rfl)) d_FO_init_52 ⟨Nat.le_of_ble_eq_true rfl, Nat.le_of_ble_eq_true rfl⟩) hS (fun q _ h => hFc q h) hFc (fun u t H1 locs ht hvm hw hB hz1 hk1 hS => ?_)
  obtain ⟨hP1, hK1, hD1⟩ := hB
  rw [ht] at hP1
  have hK1 := va_K.moved hvm.symm hK1
  obtain ⟨hP, hD⟩ := va_join (wr := [(h0, .inr (4, [.ref q5, .ref q7, .ref q10, .null, .null, .null, .null, .null, .null, .null, .null, .int 0, .int 0, .int 0, .int 0])), (q5, .inl (cA6, 1200, .inl (fun _ => 0))), (q7, .inr (2, [.ref q8, .ref q9, .int 0])), (q8, .inr (0, [.ref q5, .int 0, .int 0, .int 0])), (q10, .inr (0, [.ref q5, .int 0, .int 0, .int 0]))]) (w1 := [(q11, .inr (0, [.ref q5, .int 0, .int 0, .int 0]))]) hP hD [5] [0, 1, 2, 3, 4] rfl rfl (by decide) (by decide) hk1 hFc hP1 hD1
  have hK := (hK.sub (tys' := [(cA6, .int)]) [0] rfl).app hK1
  generalize H1 = H at hP hS ⊢
  have hP : va_P (dC, dI) cls_ [(h0, .inr (4, [.ref q5, .ref q7, .ref q10, .null, .null, .null, .null, .null, .null, .null, .null, .int 0, .int 0, .int 0, .int 0])), (q5, .inl (cA6, 1200, .inl (fun _ => 0))), (q7, .inr (2, [.ref q8, .ref q9, .int 0])), (q8, .inr (0, [.ref q5, .int 0, .int 0, .int 0])), (q10, .inr (0, [.ref q5, .int 0, .int 0, .int 0])), (q11, .inr (0, [.ref q5, .int 0, .int 0, .int 0]))] H := hP
  have hD : va_D A [(h0, .inr (4, [.ref q5, .ref q7, .ref q10, .null, .null, .null, .null, .null, .null, .null, .null, .int 0, .int 0, .int 0, .int 0])), (q5, .inl (cA6, 1200, .inl (fun _ => 0))), (q7, .inr (2, [.ref q8, .ref q9, .int 0])), (q8, .inr (0, [.ref q5, .int 0, .int 0, .int 0])), (q10, .inr (0, [.ref q5, .int 0, .int 0, .int 0])), (q11, .inr (0, [.ref q5, .int 0, .int 0, .int 0]))] := hD
  have hK : va_K (dC, dI) cls_ [(cA6, .int)] s := hK
  refine va_putF (D := (dC, dI)) (ci := 4) (v := .ref q11) (ty := .object "GlyphLines$Span") (C := R_FO) (T := F_FO) (N := 15) hx hb hts in_FO t_FO t_FO_ok n_FO hown hK hP hD hS 0 rfl rfl 3 (by decide) (hts _ (List.mem_cons_of_mem _ w_120)) (fun _ h9 => h9) rfl hin rfl (by decide +kernel) rfl rfl (Nat.le_of_ble_eq_true rfl) d_FO_init_55 (fun H locs hP hD hS => ?_)
  have hP : va_P (dC, dI) cls_ [(h0, .inr (4, [.ref q5, .ref q7, .ref q10, .ref q11, .null, .null, .null, .null, .null, .null, .null, .int 0, .int 0, .int 0, .int 0])), (q5, .inl (cA6, 1200, .inl (fun _ => 0))), (q7, .inr (2, [.ref q8, .ref q9, .int 0])), (q8, .inr (0, [.ref q5, .int 0, .int 0, .int 0])), (q10, .inr (0, [.ref q5, .int 0, .int 0, .int 0])), (q11, .inr (0, [.ref q5, .int 0, .int 0, .int 0]))] H := hP
  have hD : va_D A [(h0, .inr (4, [.ref q5, .ref q7, .ref q10, .ref q11, .null, .null, .null, .null, .null, .null, .null, .int 0, .int 0, .int 0, .int 0])), (q5, .inl (cA6, 1200, .inl (fun _ => 0))), (q7, .inr (2, [.ref q8, .ref q9, .int 0])), (q8, .inr (0, [.ref q5, .int 0, .int 0, .int 0])), (q10, .inr (0, [.ref q5, .int 0, .int 0, .int 0])), (q11, .inr (0, [.ref q5, .int 0, .int 0, .int 0]))] := hD
  refine lv_aload_n hx hb d_FO_init_58 rfl (lv_at hl 0 rfl) ?_
  refine va_new (ci := 0) (fs := [.null, .int 0, .int 0, .int 0]) (C := R_SP) (T := F_SP) (N := 4) hx hb hts in_SP t_SP t_SP_ok hown (hts _ (List.mem_cons_of_mem _ w_79)) (hts _ (List.mem_cons_of_mem _ w_43)) (hts _ (List.mem_cons_of_mem _ w_4)) hK hP hD hS hA rfl (fun j hj => by rcases (show j = 0 ∨ j = 1 ∨ j = 2 ∨ j = 3 by omega) with rfl | rfl | rfl | rfl <;> rfl) (Nat.le_of_ble_eq_true rfl) (Nat.le_of_ble_eq_true rfl) d_FO_init_59 (fun q12 H hP hD hS => ?_)
  have hP : va_P (dC, dI) cls_ [(h0, .inr (4, [.ref q5, .ref q7, .ref q10, .ref q11, .null, .null, .null, .null, .null, .null, .null, .int 0, .int 0, .int 0, .int 0])), (q5, .inl (cA6, 1200, .inl (fun _ => 0))), (q7, .inr (2, [.ref q8, .ref q9, .int 0])), (q8, .inr (0, [.ref q5, .int 0, .int 0, .int 0])), (q10, .inr (0, [.ref q5, .int 0, .int 0, .int 0])), (q11, .inr (0, [.ref q5, .int 0, .int 0, .int 0])), (q12, .inr (0, [.null, .int 0, .int 0, .int 0]))] H := hP
  have hD : va_D A [(h0, .inr (4, [.ref q5, .ref q7, .ref q10, .ref q11, .null, .null, .null, .null, .null, .null, .null, .int 0, .int 0, .int 0, .int 0])), (q5, .inl (cA6, 1200, .inl (fun _ => 0))), (q7, .inr (2, [.ref q8, .ref q9, .int 0])), (q8, .inr (0, [.ref q5, .int 0, .int 0, .int 0])), (q10, .inr (0, [.ref q5, .int 0, .int 0, .int 0])), (q11, .inr (0, [.ref q5, .int 0, .int 0, .int 0])), (q12, .inr (0, [.null, .int 0, .int 0, .int 0]))] := hD
  refine lv_dup hx hb d_FO_init_62 rfl ?_
  refine lv_aload_n hx hb d_FO_init_63 rfl (lv_at hl 0 rfl) ?_
  refine va_get (D := (dC, dI)) (ci := 4) (v := .ref q5) (C := R_FO) (T := F_FO) (N := 15) hx hb hts in_FO hown hK hP 0 rfl rfl 0 (by decide) (hts _ (List.mem_cons_of_mem _ w_117)) (fun _ h9 => h9) rfl d_FO_init_64 ?_
  have hPc := hP.sub (ws' := [(q12, .inr (0, [.null, .int 0, .int 0, .int 0]))]) [6] rfl
  have hDc := hD.sub (ws' := [(q12, .inr (0, [.null, .int 0, .int 0, .int 0]))]) [6] (by decide) rfl
  have hKc := hK.sub (tys' := []) [] rfl
  have hFc := va_free (wc := [(q12, .inr (0, [.null, .int 0, .int 0, .int 0]))]) hD hS hA [6] rfl
  refine va_callv (va_runI (As := [.ref q5]) (rest := [.ref q12, .ref h0]) ⟨hx, hb, hml, hown, hts⟩ (c_SP_init l dC dI q12 q5 H.size) (cwI 1 hts (tw_in w_46) rfl rfl rfl (hts _ (List.mem_cons_of_mem _ w_4)) (hts _ (List.mem_cons_of_mem _ w_80)) (hts _ (List.mem_cons_of_mem _ w_45)) rfl (by decide +kernel) ⟨Nat.le_of_ble_eq_true rfl, Nat.le_of_ble_eq_true rfl⟩) ⟨fun a U g mk q => by obtain ⟨q0, q1, qP, qK, qD⟩ := q; exact ⟨q0, q1, qP, va_K.moved (u := U) (U := U.calling g mk a) (Vm.Alike.refl U.vm) qK, qD⟩, fun U hU hW => ⟨rfl, by rw [hU], by rw [hU]; exact hPc, va_K.moved hW.alike hKc, hDc.weaken (fun _ _ _ _ => trivial)⟩⟩ rfl rfl hl.1 rfl (lv_room (Nat.le_of_ble_eq_true rfl)) d_FO_init_67 ⟨Nat.le_of_ble_eq_true rfl, Nat.le_of_ble_eq_true rfl⟩) hS (fun q _ h => hFc q h) hFc (fun u t H1 locs ht hvm hw hB hz1 hk1 hS => ?_)
  obtain ⟨hP1, hK1, hD1⟩ := hB
  rw [ht] at hP1
  have hK1 := va_K.moved hvm.symm hK1
  obtain ⟨hP, hD⟩ := va_join (wr := [(h0, .inr (4, [.ref q5, .ref q7, .ref q10, .ref q11, .null, .null, .null, .null, .null, .null, .null, .int 0, .int 0, .int 0, .int 0])), (q5, .inl (cA6, 1200, .inl (fun _ => 0))), (q7, .inr (2, [.ref q8, .ref q9, .int 0])), (q8, .inr (0, [.ref q5, .int 0, .int 0, .int 0])), (q10, .inr (0, [.ref q5, .int 0, .int 0, .int 0])), (q11, .inr (0, [.ref q5, .int 0, .int 0, .int 0]))]) (w1 := [(q12, .inr (0, [.ref q5, .int 0, .int 0, .int 0]))]) hP hD [6] [0, 1, 2, 3, 4, 5] rfl rfl (by decide) (by decide) hk1 hFc hP1 hD1
  have hK := (hK.sub (tys' := [(cA6, .int)]) [0] rfl).app hK1
  generalize H1 = H at hP hS ⊢
  have hP : va_P (dC, dI) cls_ [(h0, .inr (4, [.ref q5, .ref q7, .ref q10, .ref q11, .null, .null, .null, .null, .null, .null, .null, .int 0, .int 0, .int 0, .int 0])), (q5, .inl (cA6, 1200, .inl (fun _ => 0))), (q7, .inr (2, [.ref q8, .ref q9, .int 0])), (q8, .inr (0, [.ref q5, .int 0, .int 0, .int 0])), (q10, .inr (0, [.ref q5, .int 0, .int 0, .int 0])), (q11, .inr (0, [.ref q5, .int 0, .int 0, .int 0])), (q12, .inr (0, [.ref q5, .int 0, .int 0, .int 0]))] H := hP
  have hD : va_D A [(h0, .inr (4, [.ref q5, .ref q7, .ref q10, .ref q11, .null, .null, .null, .null, .null, .null, .null, .int 0, .int 0, .int 0, .int 0])), (q5, .inl (cA6, 1200, .inl (fun _ => 0))), (q7, .inr (2, [.ref q8, .ref q9, .int 0])), (q8, .inr (0, [.ref q5, .int 0, .int 0, .int 0])), (q10, .inr (0, [.ref q5, .int 0, .int 0, .int 0])), (q11, .inr (0, [.ref q5, .int 0, .int 0, .int 0])), (q12, .inr (0, [.ref q5, .int 0, .int 0, .int 0]))] := hD
  have hK : va_K (dC, dI) cls_ [(cA6, .int)] s := hK
  refine va_putF (D := (dC, dI)) (ci := 4) (v := .ref q12) (ty := .object "GlyphLines$Span") (C := R_FO) (T := F_FO) (N := 15) hx hb hts in_FO t_FO t_FO_ok n_FO hown hK hP hD hS 0 rfl rfl 4 (by decide) (hts _ (List.mem_cons_of_mem _ w_121)) (fun _ h9 => h9) rfl hin rfl (by decide +kernel) rfl rfl (Nat.le_of_ble_eq_true rfl) d_FO_init_70 (fun H locs hP hD hS => ?_)
  have hP : va_P (dC, dI) cls_ [(h0, .inr (4, [.ref q5, .ref q7, .ref q10, .ref q11, .ref q12, .null, .null, .null, .null, .null, .null, .int 0, .int 0, .int 0, .int 0])), (q5, .inl (cA6, 1200, .inl (fun _ => 0))), (q7, .inr (2, [.ref q8, .ref q9, .int 0])), (q8, .inr (0, [.ref q5, .int 0, .int 0, .int 0])), (q10, .inr (0, [.ref q5, .int 0, .int 0, .int 0])), (q11, .inr (0, [.ref q5, .int 0, .int 0, .int 0])), (q12, .inr (0, [.ref q5, .int 0, .int 0, .int 0]))] H := hP
  have hD : va_D A [(h0, .inr (4, [.ref q5, .ref q7, .ref q10, .ref q11, .ref q12, .null, .null, .null, .null, .null, .null, .int 0, .int 0, .int 0, .int 0])), (q5, .inl (cA6, 1200, .inl (fun _ => 0))), (q7, .inr (2, [.ref q8, .ref q9, .int 0])), (q8, .inr (0, [.ref q5, .int 0, .int 0, .int 0])), (q10, .inr (0, [.ref q5, .int 0, .int 0, .int 0])), (q11, .inr (0, [.ref q5, .int 0, .int 0, .int 0])), (q12, .inr (0, [.ref q5, .int 0, .int 0, .int 0]))] := hD
  refine lv_aload_n hx hb d_FO_init_73 rfl (lv_at hl 0 rfl) ?_
  refine va_new (ci := 0) (fs := [.null, .int 0, .int 0, .int 0]) (C := R_SP) (T := F_SP) (N := 4) hx hb hts in_SP t_SP t_SP_ok hown (hts _ (List.mem_cons_of_mem _ w_79)) (hts _ (List.mem_cons_of_mem _ w_43)) (hts _ (List.mem_cons_of_mem _ w_4)) hK hP hD hS hA rfl (fun j hj => by rcases (show j = 0 ∨ j = 1 ∨ j = 2 ∨ j = 3 by omega) with rfl | rfl | rfl | rfl <;> rfl) (Nat.le_of_ble_eq_true rfl) (Nat.le_of_ble_eq_true rfl) d_FO_init_74 (fun q13 H hP hD hS => ?_)
  have hP : va_P (dC, dI) cls_ [(h0, .inr (4, [.ref q5, .ref q7, .ref q10, .ref q11, .ref q12, .null, .null, .null, .null, .null, .null, .int 0, .int 0, .int 0, .int 0])), (q5, .inl (cA6, 1200, .inl (fun _ => 0))), (q7, .inr (2, [.ref q8, .ref q9, .int 0])), (q8, .inr (0, [.ref q5, .int 0, .int 0, .int 0])), (q10, .inr (0, [.ref q5, .int 0, .int 0, .int 0])), (q11, .inr (0, [.ref q5, .int 0, .int 0, .int 0])), (q12, .inr (0, [.ref q5, .int 0, .int 0, .int 0])), (q13, .inr (0, [.null, .int 0, .int 0, .int 0]))] H := hP
  have hD : va_D A [(h0, .inr (4, [.ref q5, .ref q7, .ref q10, .ref q11, .ref q12, .null, .null, .null, .null, .null, .null, .int 0, .int 0, .int 0, .int 0])), (q5, .inl (cA6, 1200, .inl (fun _ => 0))), (q7, .inr (2, [.ref q8, .ref q9, .int 0])), (q8, .inr (0, [.ref q5, .int 0, .int 0, .int 0])), (q10, .inr (0, [.ref q5, .int 0, .int 0, .int 0])), (q11, .inr (0, [.ref q5, .int 0, .int 0, .int 0])), (q12, .inr (0, [.ref q5, .int 0, .int 0, .int 0])), (q13, .inr (0, [.null, .int 0, .int 0, .int 0]))] := hD
  refine lv_dup hx hb d_FO_init_77 rfl ?_
  refine lv_aload_n hx hb d_FO_init_78 rfl (lv_at hl 0 rfl) ?_
  refine va_get (D := (dC, dI)) (ci := 4) (v := .ref q5) (C := R_FO) (T := F_FO) (N := 15) hx hb hts in_FO hown hK hP 0 rfl rfl 0 (by decide) (hts _ (List.mem_cons_of_mem _ w_117)) (fun _ h9 => h9) rfl d_FO_init_79 ?_
  have hPc := hP.sub (ws' := [(q13, .inr (0, [.null, .int 0, .int 0, .int 0]))]) [7] rfl
  have hDc := hD.sub (ws' := [(q13, .inr (0, [.null, .int 0, .int 0, .int 0]))]) [7] (by decide) rfl
  have hKc := hK.sub (tys' := []) [] rfl
  have hFc := va_free (wc := [(q13, .inr (0, [.null, .int 0, .int 0, .int 0]))]) hD hS hA [7] rfl
  refine va_callv (va_runI (As := [.ref q5]) (rest := [.ref q13, .ref h0]) ⟨hx, hb, hml, hown, hts⟩ (c_SP_init l dC dI q13 q5 H.size) (cwI 1 hts (tw_in w_46) rfl rfl rfl (hts _ (List.mem_cons_of_mem _ w_4)) (hts _ (List.mem_cons_of_mem _ w_80)) (hts _ (List.mem_cons_of_mem _ w_45)) rfl (by decide +kernel) ⟨Nat.le_of_ble_eq_true rfl, Nat.le_of_ble_eq_true rfl⟩) ⟨fun a U g mk q => by obtain ⟨q0, q1, qP, qK, qD⟩ := q; exact ⟨q0, q1, qP, va_K.moved (u := U) (U := U.calling g mk a) (Vm.Alike.refl U.vm) qK, qD⟩, fun U hU hW => ⟨rfl, by rw [hU], by rw [hU]; exact hPc, va_K.moved hW.alike hKc, hDc.weaken (fun _ _ _ _ => trivial)⟩⟩ rfl rfl hl.1 rfl (lv_room (Nat.le_of_ble_eq_true rfl)) d_FO_init_82 ⟨Nat.le_of_ble_eq_true rfl, Nat.le_of_ble_eq_true rfl⟩) hS (fun q _ h => hFc q h) hFc (fun u t H1 locs ht hvm hw hB hz1 hk1 hS => ?_)
  obtain ⟨hP1, hK1, hD1⟩ := hB
  rw [ht] at hP1
  have hK1 := va_K.moved hvm.symm hK1
  obtain ⟨hP, hD⟩ := va_join (wr := [(h0, .inr (4, [.ref q5, .ref q7, .ref q10, .ref q11, .ref q12, .null, .null, .null, .null, .null, .null, .int 0, .int 0, .int 0, .int 0])), (q5, .inl (cA6, 1200, .inl (fun _ => 0))), (q7, .inr (2, [.ref q8, .ref q9, .int 0])), (q8, .inr (0, [.ref q5, .int 0, .int 0, .int 0])), (q10, .inr (0, [.ref q5, .int 0, .int 0, .int 0])), (q11, .inr (0, [.ref q5, .int 0, .int 0, .int 0])), (q12, .inr (0, [.ref q5, .int 0, .int 0, .int 0]))]) (w1 := [(q13, .inr (0, [.ref q5, .int 0, .int 0, .int 0]))]) hP hD [7] [0, 1, 2, 3, 4, 5, 6] rfl rfl (by decide) (by decide) hk1 hFc hP1 hD1
  have hK := (hK.sub (tys' := [(cA6, .int)]) [0] rfl).app hK1
  generalize H1 = H at hP hS ⊢
  have hP : va_P (dC, dI) cls_ [(h0, .inr (4, [.ref q5, .ref q7, .ref q10, .ref q11, .ref q12, .null, .null, .null, .null, .null, .null, .int 0, .int 0, .int 0, .int 0])), (q5, .inl (cA6, 1200, .inl (fun _ => 0))), (q7, .inr (2, [.ref q8, .ref q9, .int 0])), (q8, .inr (0, [.ref q5, .int 0, .int 0, .int 0])), (q10, .inr (0, [.ref q5, .int 0, .int 0, .int 0])), (q11, .inr (0, [.ref q5, .int 0, .int 0, .int 0])), (q12, .inr (0, [.ref q5, .int 0, .int 0, .int 0])), (q13, .inr (0, [.ref q5, .int 0, .int 0, .int 0]))] H := hP
  have hD : va_D A [(h0, .inr (4, [.ref q5, .ref q7, .ref q10, .ref q11, .ref q12, .null, .null, .null, .null, .null, .null, .int 0, .int 0, .int 0, .int 0])), (q5, .inl (cA6, 1200, .inl (fun _ => 0))), (q7, .inr (2, [.ref q8, .ref q9, .int 0])), (q8, .inr (0, [.ref q5, .int 0, .int 0, .int 0])), (q10, .inr (0, [.ref q5, .int 0, .int 0, .int 0])), (q11, .inr (0, [.ref q5, .int 0, .int 0, .int 0])), (q12, .inr (0, [.ref q5, .int 0, .int 0, .int 0])), (q13, .inr (0, [.ref q5, .int 0, .int 0, .int 0]))] := hD
  have hK : va_K (dC, dI) cls_ [(cA6, .int)] s := hK
  refine va_putF (D := (dC, dI)) (ci := 4) (v := .ref q13) (ty := .object "GlyphLines$Span") (C := R_FO) (T := F_FO) (N := 15) hx hb hts in_FO t_FO t_FO_ok n_FO hown hK hP hD hS 0 rfl rfl 5 (by decide) (hts _ (List.mem_cons_of_mem _ w_122)) (fun _ h9 => h9) rfl hin rfl (by decide +kernel) rfl rfl (Nat.le_of_ble_eq_true rfl) d_FO_init_85 (fun H locs hP hD hS => ?_)
  have hP : va_P (dC, dI) cls_ [(h0, .inr (4, [.ref q5, .ref q7, .ref q10, .ref q11, .ref q12, .ref q13, .null, .null, .null, .null, .null, .int 0, .int 0, .int 0, .int 0])), (q5, .inl (cA6, 1200, .inl (fun _ => 0))), (q7, .inr (2, [.ref q8, .ref q9, .int 0])), (q8, .inr (0, [.ref q5, .int 0, .int 0, .int 0])), (q10, .inr (0, [.ref q5, .int 0, .int 0, .int 0])), (q11, .inr (0, [.ref q5, .int 0, .int 0, .int 0])), (q12, .inr (0, [.ref q5, .int 0, .int 0, .int 0])), (q13, .inr (0, [.ref q5, .int 0, .int 0, .int 0]))] H := hP
  have hD : va_D A [(h0, .inr (4, [.ref q5, .ref q7, .ref q10, .ref q11, .ref q12, .ref q13, .null, .null, .null, .null, .null, .int 0, .int 0, .int 0, .int 0])), (q5, .inl (cA6, 1200, .inl (fun _ => 0))), (q7, .inr (2, [.ref q8, .ref q9, .int 0])), (q8, .inr (0, [.ref q5, .int 0, .int 0, .int 0])), (q10, .inr (0, [.ref q5, .int 0, .int 0, .int 0])), (q11, .inr (0, [.ref q5, .int 0, .int 0, .int 0])), (q12, .inr (0, [.ref q5, .int 0, .int 0, .int 0])), (q13, .inr (0, [.ref q5, .int 0, .int 0, .int 0]))] := hD
  refine lv_aload_n hx hb d_FO_init_88 rfl (lv_at hl 0 rfl) ?_
  refine va_new (ci := 0) (fs := [.null, .int 0, .int 0, .int 0]) (C := R_SP) (T := F_SP) (N := 4) hx hb hts in_SP t_SP t_SP_ok hown (hts _ (List.mem_cons_of_mem _ w_79)) (hts _ (List.mem_cons_of_mem _ w_43)) (hts _ (List.mem_cons_of_mem _ w_4)) hK hP hD hS hA rfl (fun j hj => by rcases (show j = 0 ∨ j = 1 ∨ j = 2 ∨ j = 3 by omega) with rfl | rfl | rfl | rfl <;> rfl) (Nat.le_of_ble_eq_true rfl) (Nat.le_of_ble_eq_true rfl) d_FO_init_89 (fun q14 H hP hD hS => ?_)
  have hP : va_P (dC, dI) cls_ [(h0, .inr (4, [.ref q5, .ref q7, .ref q10, .ref q11, .ref q12, .ref q13, .null, .null, .null, .null, .null, .int 0, .int 0, .int 0, .int 0])), (q5, .inl (cA6, 1200, .inl (fun _ => 0))), (q7, .inr (2, [.ref q8, .ref q9, .int 0])), (q8, .inr (0, [.ref q5, .int 0, .int 0, .int 0])), (q10, .inr (0, [.ref q5, .int 0, .int 0, .int 0])), (q11, .inr (0, [.ref q5, .int 0, .int 0, .int 0])), (q12, .inr (0, [.ref q5, .int 0, .int 0, .int 0])), (q13, .inr (0, [.ref q5, .int 0, .int 0, .int 0])), (q14, .inr (0, [.null, .int 0, .int 0, .int 0]))] H := hP
  have hD : va_D A [(h0, .inr (4, [.ref q5, .ref q7, .ref q10, .ref q11, .ref q12, .ref q13, .null, .null, .null, .null, .null, .int 0, .int 0, .int 0, .int 0])), (q5, .inl (cA6, 1200, .inl (fun _ => 0))), (q7, .inr (2, [.ref q8, .ref q9, .int 0])), (q8, .inr (0, [.ref q5, .int 0, .int 0, .int 0])), (q10, .inr (0, [.ref q5, .int 0, .int 0, .int 0])), (q11, .inr (0, [.ref q5, .int 0, .int 0, .int 0])), (q12, .inr (0, [.ref q5, .int 0, .int 0, .int 0])), (q13, .inr (0, [.ref q5, .int 0, .int 0, .int 0])), (q14, .inr (0, [.null, .int 0, .int 0, .int 0]))] := hD
  refine lv_dup hx hb d_FO_init_92 rfl ?_
  refine lv_aload_n hx hb d_FO_init_93 rfl (lv_at hl 0 rfl) ?_
  refine va_get (D := (dC, dI)) (ci := 4) (v := .ref q5) (C := R_FO) (T := F_FO) (N := 15) hx hb hts in_FO hown hK hP 0 rfl rfl 0 (by decide) (hts _ (List.mem_cons_of_mem _ w_117)) (fun _ h9 => h9) rfl d_FO_init_94 ?_
  have hPc := hP.sub (ws' := [(q14, .inr (0, [.null, .int 0, .int 0, .int 0]))]) [8] rfl
  have hDc := hD.sub (ws' := [(q14, .inr (0, [.null, .int 0, .int 0, .int 0]))]) [8] (by decide) rfl
  have hKc := hK.sub (tys' := []) [] rfl
  have hFc := va_free (wc := [(q14, .inr (0, [.null, .int 0, .int 0, .int 0]))]) hD hS hA [8] rfl
  refine va_callv (va_runI (As := [.ref q5]) (rest := [.ref q14, .ref h0]) ⟨hx, hb, hml, hown, hts⟩ (c_SP_init l dC dI q14 q5 H.size) (cwI 1 hts (tw_in w_46) rfl rfl rfl (hts _ (List.mem_cons_of_mem _ w_4)) (hts _ (List.mem_cons_of_mem _ w_80)) (hts _ (List.mem_cons_of_mem _ w_45)) rfl (by decide +kernel) ⟨Nat.le_of_ble_eq_true rfl, Nat.le_of_ble_eq_true rfl⟩) ⟨fun a U g mk q => by obtain ⟨q0, q1, qP, qK, qD⟩ := q; exact ⟨q0, q1, qP, va_K.moved (u := U) (U := U.calling g mk a) (Vm.Alike.refl U.vm) qK, qD⟩, fun U hU hW => ⟨rfl, by rw [hU], by rw [hU]; exact hPc, va_K.moved hW.alike hKc, hDc.weaken (fun _ _ _ _ => trivial)⟩⟩ rfl rfl hl.1 rfl (lv_room (Nat.le_of_ble_eq_true rfl)) d_FO_init_97 ⟨Nat.le_of_ble_eq_true rfl, Nat.le_of_ble_eq_true rfl⟩) hS (fun q _ h => hFc q h) hFc (fun u t H1 locs ht hvm hw hB hz1 hk1 hS => ?_)
  obtain ⟨hP1, hK1, hD1⟩ := hB
  rw [ht] at hP1
  have hK1 := va_K.moved hvm.symm hK1
  obtain ⟨hP, hD⟩ := va_join (wr := [(h0, .inr (4, [.ref q5, .ref q7, .ref q10, .ref q11, .ref q12, .ref q13, .null, .null, .null, .null, .null, .int 0, .int 0, .int 0, .int 0])), (q5, .inl (cA6, 1200, .inl (fun _ => 0))), (q7, .inr (2, [.ref q8, .ref q9, .int 0])), (q8, .inr (0, [.ref q5, .int 0, .int 0, .int 0])), (q10, .inr (0, [.ref q5, .int 0, .int 0, .int 0])), (q11, .inr (0, [.ref q5, .int 0, .int 0, .int 0])), (q12, .inr (0, [.ref q5, .int 0, .int 0, .int 0])), (q13, .inr (0, [.ref q5, .int 0, .int 0, .int 0]))]) (w1 := [(q14, .inr (0, [.ref q5, .int 0, .int 0, .int 0]))]) hP hD [8] [0, 1, 2, 3, 4, 5, 6, 7] rfl rfl (by decide) (by decide) hk1 hFc hP1 hD1
  have hK := (hK.sub (tys' := [(cA6, .int)]) [0] rfl).app hK1
  generalize H1 = H at hP hS ⊢
  have hP : va_P (dC, dI) cls_ [(h0, .inr (4, [.ref q5, .ref q7, .ref q10, .ref q11, .ref q12, .ref q13, .null, .null, .null, .null, .null, .int 0, .int 0, .int 0, .int 0])), (q5, .inl (cA6, 1200, .inl (fun _ => 0))), (q7, .inr (2, [.ref q8, .ref q9, .int 0])), (q8, .inr (0, [.ref q5, .int 0, .int 0, .int 0])), (q10, .inr (0, [.ref q5, .int 0, .int 0, .int 0])), (q11, .inr (0, [.ref q5, .int 0, .int 0, .int 0])), (q12, .inr (0, [.ref q5, .int 0, .int 0, .int 0])), (q13, .inr (0, [.ref q5, .int 0, .int 0, .int 0])), (q14, .inr (0, [.ref q5, .int 0, .int 0, .int 0]))] H := hP
  have hD : va_D A [(h0, .inr (4, [.ref q5, .ref q7, .ref q10, .ref q11, .ref q12, .ref q13, .null, .null, .null, .null, .null, .int 0, .int 0, .int 0, .int 0])), (q5, .inl (cA6, 1200, .inl (fun _ => 0))), (q7, .inr (2, [.ref q8, .ref q9, .int 0])), (q8, .inr (0, [.ref q5, .int 0, .int 0, .int 0])), (q10, .inr (0, [.ref q5, .int 0, .int 0, .int 0])), (q11, .inr (0, [.ref q5, .int 0, .int 0, .int 0])), (q12, .inr (0, [.ref q5, .int 0, .int 0, .int 0])), (q13, .inr (0, [.ref q5, .int 0, .int 0, .int 0])), (q14, .inr (0, [.ref q5, .int 0, .int 0, .int 0]))] := hD
  have hK : va_K (dC, dI) cls_ [(cA6, .int)] s := hK
  refine va_putF (D := (dC, dI)) (ci := 4) (v := .ref q14) (ty := .object "GlyphLines$Span") (C := R_FO) (T := F_FO) (N := 15) hx hb hts in_FO t_FO t_FO_ok n_FO hown hK hP hD hS 0 rfl rfl 6 (by decide) (hts _ (List.mem_cons_of_mem _ w_123)) (fun _ h9 => h9) rfl hin rfl (by decide +kernel) rfl rfl (Nat.le_of_ble_eq_true rfl) d_FO_init_100 (fun H locs hP hD hS => ?_)
  have hP : va_P (dC, dI) cls_ [(h0, .inr (4, [.ref q5, .ref q7, .ref q10, .ref q11, .ref q12, .ref q13, .ref q14, .null, .null, .null, .null, .int 0, .int 0, .int 0, .int 0])), (q5, .inl (cA6, 1200, .inl (fun _ => 0))), (q7, .inr (2, [.ref q8, .ref q9, .int 0])), (q8, .inr (0, [.ref q5, .int 0, .int 0, .int 0])), (q10, .inr (0, [.ref q5, .int 0, .int 0, .int 0])), (q11, .inr (0, [.ref q5, .int 0, .int 0, .int 0])), (q12, .inr (0, [.ref q5, .int 0, .int 0, .int 0])), (q13, .inr (0, [.ref q5, .int 0, .int 0, .int 0])), (q14, .inr (0, [.ref q5, .int 0, .int 0, .int 0]))] H := hP
  have hD : va_D A [(h0, .inr (4, [.ref q5, .ref q7, .ref q10, .ref q11, .ref q12, .ref q13, .ref q14, .null, .null, .null, .null, .int 0, .int 0, .int 0, .int 0])), (q5, .inl (cA6, 1200, .inl (fun _ => 0))), (q7, .inr (2, [.ref q8, .ref q9, .int 0])), (q8, .inr (0, [.ref q5, .int 0, .int 0, .int 0])), (q10, .inr (0, [.ref q5, .int 0, .int 0, .int 0])), (q11, .inr (0, [.ref q5, .int 0, .int 0, .int 0])), (q12, .inr (0, [.ref q5, .int 0, .int 0, .int 0])), (q13, .inr (0, [.ref q5, .int 0, .int 0, .int 0])), (q14, .inr (0, [.ref q5, .int 0, .int 0, .int 0]))] := hD
  refine lv_aload_n hx hb d_FO_init_103 rfl (lv_at hl 0 rfl) ?_
  refine va_new (ci := 0) (fs := [.null, .int 0, .int 0, .int 0]) (C := R_SP) (T := F_SP) (N := 4) hx hb hts in_SP t_SP t_SP_ok hown (hts _ (List.mem_cons_of_mem _ w_79)) (hts _ (List.mem_cons_of_mem _ w_43)) (hts _ (List.mem_cons_of_mem _ w_4)) hK hP hD hS hA rfl (fun j hj => by rcases (show j = 0 ∨ j = 1 ∨ j = 2 ∨ j = 3 by omega) with rfl | rfl | rfl | rfl <;> rfl) (Nat.le_of_ble_eq_true rfl) (Nat.le_of_ble_eq_true rfl) d_FO_init_104 (fun q15 H hP hD hS => ?_)
  have hP : va_P (dC, dI) cls_ [(h0, .inr (4, [.ref q5, .ref q7, .ref q10, .ref q11, .ref q12, .ref q13, .ref q14, .null, .null, .null, .null, .int 0, .int 0, .int 0, .int 0])), (q5, .inl (cA6, 1200, .inl (fun _ => 0))), (q7, .inr (2, [.ref q8, .ref q9, .int 0])), (q8, .inr (0, [.ref q5, .int 0, .int 0, .int 0])), (q10, .inr (0, [.ref q5, .int 0, .int 0, .int 0])), (q11, .inr (0, [.ref q5, .int 0, .int 0, .int 0])), (q12, .inr (0, [.ref q5, .int 0, .int 0, .int 0])), (q13, .inr (0, [.ref q5, .int 0, .int 0, .int 0])), (q14, .inr (0, [.ref q5, .int 0, .int 0, .int 0])), (q15, .inr (0, [.null, .int 0, .int 0, .int 0]))] H := hP
  have hD : va_D A [(h0, .inr (4, [.ref q5, .ref q7, .ref q10, .ref q11, .ref q12, .ref q13, .ref q14, .null, .null, .null, .null, .int 0, .int 0, .int 0, .int 0])), (q5, .inl (cA6, 1200, .inl (fun _ => 0))), (q7, .inr (2, [.ref q8, .ref q9, .int 0])), (q8, .inr (0, [.ref q5, .int 0, .int 0, .int 0])), (q10, .inr (0, [.ref q5, .int 0, .int 0, .int 0])), (q11, .inr (0, [.ref q5, .int 0, .int 0, .int 0])), (q12, .inr (0, [.ref q5, .int 0, .int 0, .int 0])), (q13, .inr (0, [.ref q5, .int 0, .int 0, .int 0])), (q14, .inr (0, [.ref q5, .int 0, .int 0, .int 0])), (q15, .inr (0, [.null, .int 0, .int 0, .int 0]))] := hD
  refine lv_dup hx hb d_FO_init_107 rfl ?_
  refine lv_aload_n hx hb d_FO_init_108 rfl (lv_at hl 0 rfl) ?_
  refine va_get (D := (dC, dI)) (ci := 4) (v := .ref q5) (C := R_FO) (T := F_FO) (N := 15) hx hb hts in_FO hown hK hP 0 rfl rfl 0 (by decide) (hts _ (List.mem_cons_of_mem _ w_117)) (fun _ h9 => h9) rfl d_FO_init_109 ?_
  have hPc := hP.sub (ws' := [(q15, .inr (0, [.null, .int 0, .int 0, .int 0]))]) [9] rfl
  have hDc := hD.sub (ws' := [(q15, .inr (0, [.null, .int 0, .int 0, .int 0]))]) [9] (by decide) rfl
  have hKc := hK.sub (tys' := []) [] rfl
  have hFc := va_free (wc := [(q15, .inr (0, [.null, .int 0, .int 0, .int 0]))]) hD hS hA [9] rfl
  refine va_callv (va_runI (As := [.ref q5]) (rest := [.ref q15, .ref h0]) ⟨hx, hb, hml, hown, hts⟩ (c_SP_init l dC dI q15 q5 H.size) (cwI 1 hts (tw_in w_46) rfl rfl rfl (hts _ (List.mem_cons_of_mem _ w_4)) (hts _ (List.mem_cons_of_mem _ w_80)) (hts _ (List.mem_cons_of_mem _ w_45)) rfl (by decide +kernel) ⟨Nat.le_of_ble_eq_true rfl, Nat.le_of_ble_eq_true rfl⟩) ⟨fun a U g mk q => by obtain ⟨q0, q1, qP, qK, qD⟩ := q; exact ⟨q0, q1, qP, va_K.moved (u := U) (U := U.calling g mk a) (Vm.Alike.refl U.vm) qK, qD⟩, fun U hU hW => ⟨rfl, by rw [hU], by rw [hU]; exact hPc, va_K.moved hW.alike hKc, hDc.weaken (fun _ _ _ _ => trivial)⟩⟩ rfl rfl hl.1 rfl (lv_room (Nat.le_of_ble_eq_true rfl)) d_FO_init_112 ⟨Nat.le_of_ble_eq_true rfl, Nat.le_of_ble_eq_true rfl⟩) hS (fun q _ h => hFc q h) hFc (fun u t H1 locs ht hvm hw hB hz1 hk1 hS => ?_)
  obtain ⟨hP1, hK1, hD1⟩ := hB
  rw [ht] at hP1
  have hK1 := va_K.moved hvm.symm hK1
  obtain ⟨hP, hD⟩ := va_join (wr := [(h0, .inr (4, [.ref q5, .ref q7, .ref q10, .ref q11, .ref q12, .ref q13, .ref q14, .null, .null, .null, .null, .int 0, .int 0, .int 0, .int 0])), (q5, .inl (cA6, 1200, .inl (fun _ => 0))), (q7, .inr (2, [.ref q8, .ref q9, .int 0])), (q8, .inr (0, [.ref q5, .int 0, .int 0, .int 0])), (q10, .inr (0, [.ref q5, .int 0, .int 0, .int 0])), (q11, .inr (0, [.ref q5, .int 0, .int 0, .int 0])), (q12, .inr (0, [.ref q5, .int 0, .int 0, .int 0])), (q13, .inr (0, [.ref q5, .int 0, .int 0, .int 0])), (q14, .inr (0, [.ref q5, .int 0, .int 0, .int 0]))]) (w1 := [(q15, .inr (0, [.ref q5, .int 0, .int 0, .int 0]))]) hP hD [9] [0, 1, 2, 3, 4, 5, 6, 7, 8] rfl rfl (by decide) (by decide) hk1 hFc hP1 hD1
  have hK := (hK.sub (tys' := [(cA6, .int)]) [0] rfl).app hK1
  generalize H1 = H at hP hS ⊢
  have hP : va_P (dC, dI) cls_ [(h0, .inr (4, [.ref q5, .ref q7, .ref q10, .ref q11, .ref q12, .ref q13, .ref q14, .null, .null, .null, .null, .int 0, .int 0, .int 0, .int 0])), (q5, .inl (cA6, 1200, .inl (fun _ => 0))), (q7, .inr (2, [.ref q8, .ref q9, .int 0])), (q8, .inr (0, [.ref q5, .int 0, .int 0, .int 0])), (q10, .inr (0, [.ref q5, .int 0, .int 0, .int 0])), (q11, .inr (0, [.ref q5, .int 0, .int 0, .int 0])), (q12, .inr (0, [.ref q5, .int 0, .int 0, .int 0])), (q13, .inr (0, [.ref q5, .int 0, .int 0, .int 0])), (q14, .inr (0, [.ref q5, .int 0, .int 0, .int 0])), (q15, .inr (0, [.ref q5, .int 0, .int 0, .int 0]))] H := hP
  have hD : va_D A [(h0, .inr (4, [.ref q5, .ref q7, .ref q10, .ref q11, .ref q12, .ref q13, .ref q14, .null, .null, .null, .null, .int 0, .int 0, .int 0, .int 0])), (q5, .inl (cA6, 1200, .inl (fun _ => 0))), (q7, .inr (2, [.ref q8, .ref q9, .int 0])), (q8, .inr (0, [.ref q5, .int 0, .int 0, .int 0])), (q10, .inr (0, [.ref q5, .int 0, .int 0, .int 0])), (q11, .inr (0, [.ref q5, .int 0, .int 0, .int 0])), (q12, .inr (0, [.ref q5, .int 0, .int 0, .int 0])), (q13, .inr (0, [.ref q5, .int 0, .int 0, .int 0])), (q14, .inr (0, [.ref q5, .int 0, .int 0, .int 0])), (q15, .inr (0, [.ref q5, .int 0, .int 0, .int 0]))] := hD
  have hK : va_K (dC, dI) cls_ [(cA6, .int)] s := hK
  refine va_putF (D := (dC, dI)) (ci := 4) (v := .ref q15) (ty := .object "GlyphLines$Span") (C := R_FO) (T := F_FO) (N := 15) hx hb hts in_FO t_FO t_FO_ok n_FO hown hK hP hD hS 0 rfl rfl 7 (by decide) (hts _ (List.mem_cons_of_mem _ w_124)) (fun _ h9 => h9) rfl hin rfl (by decide +kernel) rfl rfl (Nat.le_of_ble_eq_true rfl) d_FO_init_115 (fun H locs hP hD hS => ?_)
  have hP : va_P (dC, dI) cls_ [(h0, .inr (4, [.ref q5, .ref q7, .ref q10, .ref q11, .ref q12, .ref q13, .ref q14, .ref q15, .null, .null, .null, .int 0, .int 0, .int 0, .int 0])), (q5, .inl (cA6, 1200, .inl (fun _ => 0))), (q7, .inr (2, [.ref q8, .ref q9, .int 0])), (q8, .inr (0, [.ref q5, .int 0, .int 0, .int 0])), (q10, .inr (0, [.ref q5, .int 0, .int 0, .int 0])), (q11, .inr (0, [.ref q5, .int 0, .int 0, .int 0])), (q12, .inr (0, [.ref q5, .int 0, .int 0, .int 0])), (q13, .inr (0, [.ref q5, .int 0, .int 0, .int 0])), (q14, .inr (0, [.ref q5, .int 0, .int 0, .int 0])), (q15, .inr (0, [.ref q5, .int 0, .int 0, .int 0]))] H := hP
  have hD : va_D A [(h0, .inr (4, [.ref q5, .ref q7, .ref q10, .ref q11, .ref q12, .ref q13, .ref q14, .ref q15, .null, .null, .null, .int 0, .int 0, .int 0, .int 0])), (q5, .inl (cA6, 1200, .inl (fun _ => 0))), (q7, .inr (2, [.ref q8, .ref q9, .int 0])), (q8, .inr (0, [.ref q5, .int 0, .int 0, .int 0])), (q10, .inr (0, [.ref q5, .int 0, .int 0, .int 0])), (q11, .inr (0, [.ref q5, .int 0, .int 0, .int 0])), (q12, .inr (0, [.ref q5, .int 0, .int 0, .int 0])), (q13, .inr (0, [.ref q5, .int 0, .int 0, .int 0])), (q14, .inr (0, [.ref q5, .int 0, .int 0, .int 0])), (q15, .inr (0, [.ref q5, .int 0, .int 0, .int 0]))] := hD
  refine lv_aload_n hx hb d_FO_init_118 rfl (lv_at hl 0 rfl) ?_
  refine va_new (ci := 1) (fs := [.null, .int 0, .int 0]) (C := R_CM) (T := F_CM) (N := 3) hx hb hts in_CM t_CM t_CM_ok hown (hts _ (List.mem_cons_of_mem _ w_81)) (hts _ (List.mem_cons_of_mem _ w_82)) (hts _ (List.mem_cons_of_mem _ w_5)) hK hP hD hS hA rfl (fun j hj => by rcases (show j = 0 ∨ j = 1 ∨ j = 2 by omega) with rfl | rfl | rfl <;> rfl) (Nat.le_of_ble_eq_true rfl) (Nat.le_of_ble_eq_true rfl) d_FO_init_119 (fun q16 H hP hD hS => ?_)
  have hP : va_P (dC, dI) cls_ [(h0, .inr (4, [.ref q5, .ref q7, .ref q10, .ref q11, .ref q12, .ref q13, .ref q14, .ref q15, .null, .null, .null, .int 0, .int 0, .int 0, .int 0])), (q5, .inl (cA6, 1200, .inl (fun _ => 0))), (q7, .inr (2, [.ref q8, .ref q9, .int 0])), (q8, .inr (0, [.ref q5, .int 0, .int 0, .int 0])), (q10, .inr (0, [.ref q5, .int 0, .int 0, .int 0])), (q11, .inr (0, [.ref q5, .int 0, .int 0, .int 0])), (q12, .inr (0, [.ref q5, .int 0, .int 0, .int 0])), (q13, .inr (0, [.ref q5, .int 0, .int 0, .int 0])), (q14, .inr (0, [.ref q5, .int 0, .int 0, .int 0])), (q15, .inr (0, [.ref q5, .int 0, .int 0, .int 0])), (q16, .inr (1, [.null, .int 0, .int 0]))] H := hP
  have hD : va_D A [(h0, .inr (4, [.ref q5, .ref q7, .ref q10, .ref q11, .ref q12, .ref q13, .ref q14, .ref q15, .null, .null, .null, .int 0, .int 0, .int 0, .int 0])), (q5, .inl (cA6, 1200, .inl (fun _ => 0))), (q7, .inr (2, [.ref q8, .ref q9, .int 0])), (q8, .inr (0, [.ref q5, .int 0, .int 0, .int 0])), (q10, .inr (0, [.ref q5, .int 0, .int 0, .int 0])), (q11, .inr (0, [.ref q5, .int 0, .int 0, .int 0])), (q12, .inr (0, [.ref q5, .int 0, .int 0, .int 0])), (q13, .inr (0, [.ref q5, .int 0, .int 0, .int 0])), (q14, .inr (0, [.ref q5, .int 0, .int 0, .int 0])), (q15, .inr (0, [.ref q5, .int 0, .int 0, .int 0])), (q16, .inr (1, [.null, .int 0, .int 0]))] := hD
  refine lv_dup hx hb d_FO_init_122 rfl ?_
  refine lv_aload_n hx hb d_FO_init_123 rfl (lv_at hl 0 rfl) ?_
  refine va_get (D := (dC, dI)) (ci := 4) (v := .ref q5) (C := R_FO) (T := F_FO) (N := 15) hx hb hts in_FO hown hK hP 0 rfl rfl 0 (by decide) (hts _ (List.mem_cons_of_mem _ w_117)) (fun _ h9 => h9) rfl d_FO_init_124 ?_
  have hPc := hP.sub (ws' := [(q16, .inr (1, [.null, .int 0, .int 0]))]) [10] rfl
  have hDc := hD.sub (ws' := [(q16, .inr (1, [.null, .int 0, .int 0]))]) [10] (by decide) rfl
  have hKc := hK.sub (tys' := []) [] rfl
  have hFc := va_free (wc := [(q16, .inr (1, [.null, .int 0, .int 0]))]) hD hS hA [10] rfl
  refine va_callv (va_runI (As := [.ref q5]) (rest := [.ref q16, .ref h0]) ⟨hx, hb, hml, hown, hts⟩ (c_CM_init l dC dI q16 q5 H.size) (cwI 1 hts (tw_in w_85) rfl rfl rfl (hts _ (List.mem_cons_of_mem _ w_5)) (hts _ (List.mem_cons_of_mem _ w_83)) (hts _ (List.mem_cons_of_mem _ w_84)) rfl (by decide +kernel) ⟨Nat.le_of_ble_eq_true rfl, Nat.le_of_ble_eq_true rfl⟩) ⟨fun a U g mk q => by obtain ⟨q0, q1, qP, qK, qD⟩ := q; exact ⟨q0, q1, qP, va_K.moved (u := U) (U := U.calling g mk a) (Vm.Alike.refl U.vm) qK, qD⟩, fun U hU hW => ⟨rfl, by rw [hU], by rw [hU]; exact hPc, va_K.moved hW.alike hKc, hDc.weaken (fun _ _ _ _ => trivial)⟩⟩ rfl rfl hl.1 rfl (lv_room (Nat.le_of_ble_eq_true rfl)) d_FO_init_127 ⟨Nat.le_of_ble_eq_true rfl, Nat.le_of_ble_eq_true rfl⟩) hS (fun q _ h => hFc q h) hFc (fun u t H1 locs ht hvm hw hB hz1 hk1 hS => ?_)
  have hP1 : va_P (dC, dI) cls_ [] H1 := fun k q h => by simp at h
  have hD1 : va_D (va_A [(q16, .inr (1, [.null, .int 0, .int 0]))] H.size) [] := ⟨fun i j p q h => by simp at h, fun k q h => by simp at h⟩
  obtain ⟨hP, hD⟩ := va_join (wr := [(h0, .inr (4, [.ref q5, .ref q7, .ref q10, .ref q11, .ref q12, .ref q13, .ref q14, .ref q15, .null, .null, .null, .int 0, .int 0, .int 0, .int 0])), (q5, .inl (cA6, 1200, .inl (fun _ => 0))), (q7, .inr (2, [.ref q8, .ref q9, .int 0])), (q8, .inr (0, [.ref q5, .int 0, .int 0, .int 0])), (q10, .inr (0, [.ref q5, .int 0, .int 0, .int 0])), (q11, .inr (0, [.ref q5, .int 0, .int 0, .int 0])), (q12, .inr (0, [.ref q5, .int 0, .int 0, .int 0])), (q13, .inr (0, [.ref q5, .int 0, .int 0, .int 0])), (q14, .inr (0, [.ref q5, .int 0, .int 0, .int 0])), (q15, .inr (0, [.ref q5, .int 0, .int 0, .int 0]))]) (w1 := []) hP hD [10] [0, 1, 2, 3, 4, 5, 6, 7, 8, 9] rfl rfl (by decide) (by decide) hk1 hFc hP1 hD1
  generalize H1 = H at hP hS ⊢
  have hP : va_P (dC, dI) cls_ [(h0, .inr (4, [.ref q5, .ref q7, .ref q10, .ref q11, .ref q12, .ref q13, .ref q14, .ref q15, .null, .null, .null, .int 0, .int 0, .int 0, .int 0])), (q5, .inl (cA6, 1200, .inl (fun _ => 0))), (q7, .inr (2, [.ref q8, .ref q9, .int 0])), (q8, .inr (0, [.ref q5, .int 0, .int 0, .int 0])), (q10, .inr (0, [.ref q5, .int 0, .int 0, .int 0])), (q11, .inr (0, [.ref q5, .int 0, .int 0, .int 0])), (q12, .inr (0, [.ref q5, .int 0, .int 0, .int 0])), (q13, .inr (0, [.ref q5, .int 0, .int 0, .int 0])), (q14, .inr (0, [.ref q5, .int 0, .int 0, .int 0])), (q15, .inr (0, [.ref q5, .int 0, .int 0, .int 0]))] H := hP
  have hD : va_D A [(h0, .inr (4, [.ref q5, .ref q7, .ref q10, .ref q11, .ref q12, .ref q13, .ref q14, .ref q15, .null, .null, .null, .int 0, .int 0, .int 0, .int 0])), (q5, .inl (cA6, 1200, .inl (fun _ => 0))), (q7, .inr (2, [.ref q8, .ref q9, .int 0])), (q8, .inr (0, [.ref q5, .int 0, .int 0, .int 0])), (q10, .inr (0, [.ref q5, .int 0, .int 0, .int 0])), (q11, .inr (0, [.ref q5, .int 0, .int 0, .int 0])), (q12, .inr (0, [.ref q5, .int 0, .int 0, .int 0])), (q13, .inr (0, [.ref q5, .int 0, .int 0, .int 0])), (q14, .inr (0, [.ref q5, .int 0, .int 0, .int 0])), (q15, .inr (0, [.ref q5, .int 0, .int 0, .int 0]))] := hD
  refine va_putF (D := (dC, dI)) (ci := 4) (v := .ref q16) (ty := .object "GlyphLines$CharacterMap") (C := R_FO) (T := F_FO) (N := 15) hx hb hts in_FO t_FO t_FO_ok n_FO hown hK hP hD hS 0 rfl rfl 8 (by decide) (hts _ (List.mem_cons_of_mem _ w_125)) (fun _ h9 => h9) rfl hin rfl (by decide +kernel) rfl rfl (Nat.le_of_ble_eq_true rfl) d_FO_init_130 (fun H locs hP hD hS => ?_)
  have hP : va_P (dC, dI) cls_ [(h0, .inr (4, [.ref q5, .ref q7, .ref q10, .ref q11, .ref q12, .ref q13, .ref q14, .ref q15, .ref q16, .null, .null, .int 0, .int 0, .int 0, .int 0])), (q5, .inl (cA6, 1200, .inl (fun _ => 0))), (q7, .inr (2, [.ref q8, .ref q9, .int 0])), (q8, .inr (0, [.ref q5, .int 0, .int 0, .int 0])), (q10, .inr (0, [.ref q5, .int 0, .int 0, .int 0])), (q11, .inr (0, [.ref q5, .int 0, .int 0, .int 0])), (q12, .inr (0, [.ref q5, .int 0, .int 0, .int 0])), (q13, .inr (0, [.ref q5, .int 0, .int 0, .int 0])), (q14, .inr (0, [.ref q5, .int 0, .int 0, .int 0])), (q15, .inr (0, [.ref q5, .int 0, .int 0, .int 0]))] H := hP
  have hD : va_D A [(h0, .inr (4, [.ref q5, .ref q7, .ref q10, .ref q11, .ref q12, .ref q13, .ref q14, .ref q15, .ref q16, .null, .null, .int 0, .int 0, .int 0, .int 0])), (q5, .inl (cA6, 1200, .inl (fun _ => 0))), (q7, .inr (2, [.ref q8, .ref q9, .int 0])), (q8, .inr (0, [.ref q5, .int 0, .int 0, .int 0])), (q10, .inr (0, [.ref q5, .int 0, .int 0, .int 0])), (q11, .inr (0, [.ref q5, .int 0, .int 0, .int 0])), (q12, .inr (0, [.ref q5, .int 0, .int 0, .int 0])), (q13, .inr (0, [.ref q5, .int 0, .int 0, .int 0])), (q14, .inr (0, [.ref q5, .int 0, .int 0, .int 0])), (q15, .inr (0, [.ref q5, .int 0, .int 0, .int 0]))] := hD
  refine lv_aload_n hx hb d_FO_init_133 rfl (lv_at hl 0 rfl) ?_
  refine va_new (ci := 3) (fs := [.null, .int 0]) (C := R_PA) (T := F_PA) (N := 2) hx hb hts in_PA t_PA t_PA_ok hown (hts _ (List.mem_cons_of_mem _ w_100)) (hts _ (List.mem_cons_of_mem _ w_101)) (hts _ (List.mem_cons_of_mem _ w_6)) hK hP hD hS hA rfl (fun j hj => by rcases (show j = 0 ∨ j = 1 by omega) with rfl | rfl <;> rfl) (Nat.le_of_ble_eq_true rfl) (Nat.le_of_ble_eq_true rfl) d_FO_init_134 (fun q17 H hP hD hS => ?_)
  have hP : va_P (dC, dI) cls_ [(h0, .inr (4, [.ref q5, .ref q7, .ref q10, .ref q11, .ref q12, .ref q13, .ref q14, .ref q15, .ref q16, .null, .null, .int 0, .int 0, .int 0, .int 0])), (q5, .inl (cA6, 1200, .inl (fun _ => 0))), (q7, .inr (2, [.ref q8, .ref q9, .int 0])), (q8, .inr (0, [.ref q5, .int 0, .int 0, .int 0])), (q10, .inr (0, [.ref q5, .int 0, .int 0, .int 0])), (q11, .inr (0, [.ref q5, .int 0, .int 0, .int 0])), (q12, .inr (0, [.ref q5, .int 0, .int 0, .int 0])), (q13, .inr (0, [.ref q5, .int 0, .int 0, .int 0])), (q14, .inr (0, [.ref q5, .int 0, .int 0, .int 0])), (q15, .inr (0, [.ref q5, .int 0, .int 0, .int 0])), (q17, .inr (3, [.null, .int 0]))] H := hP
  have hD : va_D A [(h0, .inr (4, [.ref q5, .ref q7, .ref q10, .ref q11, .ref q12, .ref q13, .ref q14, .ref q15, .ref q16, .null, .null, .int 0, .int 0, .int 0, .int 0])), (q5, .inl (cA6, 1200, .inl (fun _ => 0))), (q7, .inr (2, [.ref q8, .ref q9, .int 0])), (q8, .inr (0, [.ref q5, .int 0, .int 0, .int 0])), (q10, .inr (0, [.ref q5, .int 0, .int 0, .int 0])), (q11, .inr (0, [.ref q5, .int 0, .int 0, .int 0])), (q12, .inr (0, [.ref q5, .int 0, .int 0, .int 0])), (q13, .inr (0, [.ref q5, .int 0, .int 0, .int 0])), (q14, .inr (0, [.ref q5, .int 0, .int 0, .int 0])), (q15, .inr (0, [.ref q5, .int 0, .int 0, .int 0])), (q17, .inr (3, [.null, .int 0]))] := hD
  refine lv_dup hx hb d_FO_init_137 rfl ?_
  refine lv_aload_n hx hb d_FO_init_138 rfl (lv_at hl 0 rfl) ?_
  refine va_get (D := (dC, dI)) (ci := 4) (v := .ref q5) (C := R_FO) (T := F_FO) (N := 15) hx hb hts in_FO hown hK hP 0 rfl rfl 0 (by decide) (hts _ (List.mem_cons_of_mem _ w_117)) (fun _ h9 => h9) rfl d_FO_init_139 ?_
  have hPc := hP.sub (ws' := [(q17, .inr (3, [.null, .int 0]))]) [10] rfl
  have hDc := hD.sub (ws' := [(q17, .inr (3, [.null, .int 0]))]) [10] (by decide) rfl
  have hKc := hK.sub (tys' := []) [] rfl
  have hFc := va_free (wc := [(q17, .inr (3, [.null, .int 0]))]) hD hS hA [10] rfl
  refine va_callv (va_runI (As := [.ref q5]) (rest := [.ref q17, .ref h0]) ⟨hx, hb, hml, hown, hts⟩ (c_PA_init l dC dI q17 q5 H.size) (cwI 1 hts (tw_in w_104) rfl rfl rfl (hts _ (List.mem_cons_of_mem _ w_6)) (hts _ (List.mem_cons_of_mem _ w_102)) (hts _ (List.mem_cons_of_mem _ w_103)) rfl (by decide +kernel) ⟨Nat.le_of_ble_eq_true rfl, Nat.le_of_ble_eq_true rfl⟩) ⟨fun a U g mk q => by obtain ⟨q0, q1, qP, qK, qD⟩ := q; exact ⟨q0, q1, qP, va_K.moved (u := U) (U := U.calling g mk a) (Vm.Alike.refl U.vm) qK, qD⟩, fun U hU hW => ⟨rfl, by rw [hU], by rw [hU]; exact hPc, va_K.moved hW.alike hKc, hDc.weaken (fun _ _ _ _ => trivial)⟩⟩ rfl rfl hl.1 rfl (lv_room (Nat.le_of_ble_eq_true rfl)) d_FO_init_142 ⟨Nat.le_of_ble_eq_true rfl, Nat.le_of_ble_eq_true rfl⟩) hS (fun q _ h => hFc q h) hFc (fun u t H1 locs ht hvm hw hB hz1 hk1 hS => ?_)
  have hP1 : va_P (dC, dI) cls_ [] H1 := fun k q h => by simp at h
  have hD1 : va_D (va_A [(q17, .inr (3, [.null, .int 0]))] H.size) [] := ⟨fun i j p q h => by simp at h, fun k q h => by simp at h⟩
  obtain ⟨hP, hD⟩ := va_join (wr := [(h0, .inr (4, [.ref q5, .ref q7, .ref q10, .ref q11, .ref q12, .ref q13, .ref q14, .ref q15, .ref q16, .null, .null, .int 0, .int 0, .int 0, .int 0])), (q5, .inl (cA6, 1200, .inl (fun _ => 0))), (q7, .inr (2, [.ref q8, .ref q9, .int 0])), (q8, .inr (0, [.ref q5, .int 0, .int 0, .int 0])), (q10, .inr (0, [.ref q5, .int 0, .int 0, .int 0])), (q11, .inr (0, [.ref q5, .int 0, .int 0, .int 0])), (q12, .inr (0, [.ref q5, .int 0, .int 0, .int 0])), (q13, .inr (0, [.ref q5, .int 0, .int 0, .int 0])), (q14, .inr (0, [.ref q5, .int 0, .int 0, .int 0])), (q15, .inr (0, [.ref q5, .int 0, .int 0, .int 0]))]) (w1 := []) hP hD [10] [0, 1, 2, 3, 4, 5, 6, 7, 8, 9] rfl rfl (by decide) (by decide) hk1 hFc hP1 hD1
  generalize H1 = H at hP hS ⊢
  have hP : va_P (dC, dI) cls_ [(h0, .inr (4, [.ref q5, .ref q7, .ref q10, .ref q11, .ref q12, .ref q13, .ref q14, .ref q15, .ref q16, .null, .null, .int 0, .int 0, .int 0, .int 0])), (q5, .inl (cA6, 1200, .inl (fun _ => 0))), (q7, .inr (2, [.ref q8, .ref q9, .int 0])), (q8, .inr (0, [.ref q5, .int 0, .int 0, .int 0])), (q10, .inr (0, [.ref q5, .int 0, .int 0, .int 0])), (q11, .inr (0, [.ref q5, .int 0, .int 0, .int 0])), (q12, .inr (0, [.ref q5, .int 0, .int 0, .int 0])), (q13, .inr (0, [.ref q5, .int 0, .int 0, .int 0])), (q14, .inr (0, [.ref q5, .int 0, .int 0, .int 0])), (q15, .inr (0, [.ref q5, .int 0, .int 0, .int 0]))] H := hP
  have hD : va_D A [(h0, .inr (4, [.ref q5, .ref q7, .ref q10, .ref q11, .ref q12, .ref q13, .ref q14, .ref q15, .ref q16, .null, .null, .int 0, .int 0, .int 0, .int 0])), (q5, .inl (cA6, 1200, .inl (fun _ => 0))), (q7, .inr (2, [.ref q8, .ref q9, .int 0])), (q8, .inr (0, [.ref q5, .int 0, .int 0, .int 0])), (q10, .inr (0, [.ref q5, .int 0, .int 0, .int 0])), (q11, .inr (0, [.ref q5, .int 0, .int 0, .int 0])), (q12, .inr (0, [.ref q5, .int 0, .int 0, .int 0])), (q13, .inr (0, [.ref q5, .int 0, .int 0, .int 0])), (q14, .inr (0, [.ref q5, .int 0, .int 0, .int 0])), (q15, .inr (0, [.ref q5, .int 0, .int 0, .int 0]))] := hD
  refine va_putF (D := (dC, dI)) (ci := 4) (v := .ref q17) (ty := .object "GlyphLines$Pairs") (C := R_FO) (T := F_FO) (N := 15) hx hb hts in_FO t_FO t_FO_ok n_FO hown hK hP hD hS 0 rfl rfl 9 (by decide) (hts _ (List.mem_cons_of_mem _ w_126)) (fun _ h9 => h9) rfl hin rfl (by decide +kernel) rfl rfl (Nat.le_of_ble_eq_true rfl) d_FO_init_145 (fun H locs hP hD hS => ?_)
  have hP : va_P (dC, dI) cls_ [(h0, .inr (4, [.ref q5, .ref q7, .ref q10, .ref q11, .ref q12, .ref q13, .ref q14, .ref q15, .ref q16, .ref q17, .null, .int 0, .int 0, .int 0, .int 0])), (q5, .inl (cA6, 1200, .inl (fun _ => 0))), (q7, .inr (2, [.ref q8, .ref q9, .int 0])), (q8, .inr (0, [.ref q5, .int 0, .int 0, .int 0])), (q10, .inr (0, [.ref q5, .int 0, .int 0, .int 0])), (q11, .inr (0, [.ref q5, .int 0, .int 0, .int 0])), (q12, .inr (0, [.ref q5, .int 0, .int 0, .int 0])), (q13, .inr (0, [.ref q5, .int 0, .int 0, .int 0])), (q14, .inr (0, [.ref q5, .int 0, .int 0, .int 0])), (q15, .inr (0, [.ref q5, .int 0, .int 0, .int 0]))] H := hP
  have hD : va_D A [(h0, .inr (4, [.ref q5, .ref q7, .ref q10, .ref q11, .ref q12, .ref q13, .ref q14, .ref q15, .ref q16, .ref q17, .null, .int 0, .int 0, .int 0, .int 0])), (q5, .inl (cA6, 1200, .inl (fun _ => 0))), (q7, .inr (2, [.ref q8, .ref q9, .int 0])), (q8, .inr (0, [.ref q5, .int 0, .int 0, .int 0])), (q10, .inr (0, [.ref q5, .int 0, .int 0, .int 0])), (q11, .inr (0, [.ref q5, .int 0, .int 0, .int 0])), (q12, .inr (0, [.ref q5, .int 0, .int 0, .int 0])), (q13, .inr (0, [.ref q5, .int 0, .int 0, .int 0])), (q14, .inr (0, [.ref q5, .int 0, .int 0, .int 0])), (q15, .inr (0, [.ref q5, .int 0, .int 0, .int 0]))] := hD
  refine lv_aload_n hx hb d_FO_init_148 rfl (lv_at hl 0 rfl) ?_
  refine lv_iconst (v := 3) hx hb d_FO_init_149 (by decide) ?_
  refine va_newq (N' := 3) (C := "GlyphLines$Span") hx hb hown (hts _ (List.mem_cons_of_mem _ w_79)) hO hK hP hD hS hA (by decide +kernel) (by decide +kernel) (by decide +kernel) (Nat.le_of_ble_eq_true rfl) (Nat.le_of_ble_eq_true rfl) d_FO_init_150 (fun q18 cA19 H hK hP hD hS => ?_)
  have hP : va_P (dC, dI) cls_ [(h0, .inr (4, [.ref q5, .ref q7, .ref q10, .ref q11, .ref q12, .ref q13, .ref q14, .ref q15, .ref q16, .ref q17, .null, .int 0, .int 0, .int 0, .int 0])), (q5, .inl (cA6, 1200, .inl (fun _ => 0))), (q7, .inr (2, [.ref q8, .ref q9, .int 0])), (q8, .inr (0, [.ref q5, .int 0, .int 0, .int 0])), (q10, .inr (0, [.ref q5, .int 0, .int 0, .int 0])), (q11, .inr (0, [.ref q5, .int 0, .int 0, .int 0])), (q12, .inr (0, [.ref q5, .int 0, .int 0, .int 0])), (q13, .inr (0, [.ref q5, .int 0, .int 0, .int 0])), (q14, .inr (0, [.ref q5, .int 0, .int 0, .int 0])), (q15, .inr (0, [.ref q5, .int 0, .int 0, .int 0])), (q18, .inl (cA19, 3, .inr (.inr (.inr (.inr (fun _ => none))))))] H := hP
  have hD : va_D A [(h0, .inr (4, [.ref q5, .ref q7, .ref q10, .ref q11, .ref q12, .ref q13, .ref q14, .ref q15, .ref q16, .ref q17, .null, .int 0, .int 0, .int 0, .int 0])), (q5, .inl (cA6, 1200, .inl (fun _ => 0))), (q7, .inr (2, [.ref q8, .ref q9, .int 0])), (q8, .inr (0, [.ref q5, .int 0, .int 0, .int 0])), (q10, .inr (0, [.ref q5, .int 0, .int 0, .int 0])), (q11, .inr (0, [.ref q5, .int 0, .int 0, .int 0])), (q12, .inr (0, [.ref q5, .int 0, .int 0, .int 0])), (q13, .inr (0, [.ref q5, .int 0, .int 0, .int 0])), (q14, .inr (0, [.ref q5, .int 0, .int 0, .int 0])), (q15, .inr (0, [.ref q5, .int 0, .int 0, .int 0])), (q18, .inl (cA19, 3, .inr (.inr (.inr (.inr (fun _ => none))))))] := hD
  have hK : va_K (dC, dI) cls_ [(cA6, .int), (cA19, .object "GlyphLines$Span")] s := hK
  refine lv_dup hx hb d_FO_init_153 rfl ?_
  refine lv_iconst (v := 0) hx hb d_FO_init_154 (by decide) ?_
  refine va_new (ci := 0) (fs := [.null, .int 0, .int 0, .int 0]) (C := R_SP) (T := F_SP) (N := 4) hx hb hts in_SP t_SP t_SP_ok hown (hts _ (List.mem_cons_of_mem _ w_79)) (hts _ (List.mem_cons_of_mem _ w_43)) (hts _ (List.mem_cons_of_mem _ w_4)) hK hP hD hS hA rfl (fun j hj => by rcases (show j = 0 ∨ j = 1 ∨ j = 2 ∨ j = 3 by omega) with rfl | rfl | rfl | rfl <;> rfl) (Nat.le_of_ble_eq_true rfl) (Nat.le_of_ble_eq_true rfl) d_FO_init_155 (fun q20 H hP hD hS => ?_)
  have hP : va_P (dC, dI) cls_ [(h0, .inr (4, [.ref q5, .ref q7, .ref q10, .ref q11, .ref q12, .ref q13, .ref q14, .ref q15, .ref q16, .ref q17, .null, .int 0, .int 0, .int 0, .int 0])), (q5, .inl (cA6, 1200, .inl (fun _ => 0))), (q7, .inr (2, [.ref q8, .ref q9, .int 0])), (q8, .inr (0, [.ref q5, .int 0, .int 0, .int 0])), (q10, .inr (0, [.ref q5, .int 0, .int 0, .int 0])), (q11, .inr (0, [.ref q5, .int 0, .int 0, .int 0])), (q12, .inr (0, [.ref q5, .int 0, .int 0, .int 0])), (q13, .inr (0, [.ref q5, .int 0, .int 0, .int 0])), (q14, .inr (0, [.ref q5, .int 0, .int 0, .int 0])), (q15, .inr (0, [.ref q5, .int 0, .int 0, .int 0])), (q18, .inl (cA19, 3, .inr (.inr (.inr (.inr (fun _ => none)))))), (q20, .inr (0, [.null, .int 0, .int 0, .int 0]))] H := hP
  have hD : va_D A [(h0, .inr (4, [.ref q5, .ref q7, .ref q10, .ref q11, .ref q12, .ref q13, .ref q14, .ref q15, .ref q16, .ref q17, .null, .int 0, .int 0, .int 0, .int 0])), (q5, .inl (cA6, 1200, .inl (fun _ => 0))), (q7, .inr (2, [.ref q8, .ref q9, .int 0])), (q8, .inr (0, [.ref q5, .int 0, .int 0, .int 0])), (q10, .inr (0, [.ref q5, .int 0, .int 0, .int 0])), (q11, .inr (0, [.ref q5, .int 0, .int 0, .int 0])), (q12, .inr (0, [.ref q5, .int 0, .int 0, .int 0])), (q13, .inr (0, [.ref q5, .int 0, .int 0, .int 0])), (q14, .inr (0, [.ref q5, .int 0, .int 0, .int 0])), (q15, .inr (0, [.ref q5, .int 0, .int 0, .int 0])), (q18, .inl (cA19, 3, .inr (.inr (.inr (.inr (fun _ => none)))))), (q20, .inr (0, [.null, .int 0, .int 0, .int 0]))] := hD
  refine lv_dup hx hb d_FO_init_158 rfl ?_
  refine lv_aload_n hx hb d_FO_init_159 rfl (lv_at hl 0 rfl) ?_
  refine va_get (D := (dC, dI)) (ci := 4) (v := .ref q5) (C := R_FO) (T := F_FO) (N := 15) hx hb hts in_FO hown hK hP 0 rfl rfl 0 (by decide) (hts _ (List.mem_cons_of_mem _ w_117)) (fun _ h9 => h9) rfl d_FO_init_160 ?_
  have hPc := hP.sub (ws' := [(q20, .inr (0, [.null, .int 0, .int 0, .int 0]))]) [11] rfl
  have hDc := hD.sub (ws' := [(q20, .inr (0, [.null, .int 0, .int 0, .int 0]))]) [11] (by decide) rfl
  have hKc := hK.sub (tys' := []) [] rfl
  have hFc := va_free (wc := [(q20, .inr (0, [.null, .int 0, .int 0, .int 0]))]) hD hS hA [11] rfl
  refine va_callv (va_runI (As := [.ref q5]) (rest := [.ref q20, .int 0, .ref q18, .ref q18, .ref h0]) ⟨hx, hb, hml, hown, hts⟩ (c_SP_init l dC dI q20 q5 H.size) (cwI 1 hts (tw_in w_46) rfl rfl rfl (hts _ (List.mem_cons_of_mem _ w_4)) (hts _ (List.mem_cons_of_mem _ w_80)) (hts _ (List.mem_cons_of_mem _ w_45)) rfl (by decide +kernel) ⟨Nat.le_of_ble_eq_true rfl, Nat.le_of_ble_eq_true rfl⟩) ⟨fun a U g mk q => by obtain ⟨q0, q1, qP, qK, qD⟩ := q; exact ⟨q0, q1, qP, va_K.moved (u := U) (U := U.calling g mk a) (Vm.Alike.refl U.vm) qK, qD⟩, fun U hU hW => ⟨rfl, by rw [hU], by rw [hU]; exact hPc, va_K.moved hW.alike hKc, hDc.weaken (fun _ _ _ _ => trivial)⟩⟩ rfl rfl hl.1 rfl (lv_room (Nat.le_of_ble_eq_true rfl)) d_FO_init_163 ⟨Nat.le_of_ble_eq_true rfl, Nat.le_of_ble_eq_true rfl⟩) hS (fun q _ h => hFc q h) hFc (fun u t H1 locs ht hvm hw hB hz1 hk1 hS => ?_)
  obtain ⟨hP1, hK1, hD1⟩ := hB
  rw [ht] at hP1
  have hK1 := va_K.moved hvm.symm hK1
  obtain ⟨hP, hD⟩ := va_join (wr := [(h0, .inr (4, [.ref q5, .ref q7, .ref q10, .ref q11, .ref q12, .ref q13, .ref q14, .ref q15, .ref q16, .ref q17, .null, .int 0, .int 0, .int 0, .int 0])), (q5, .inl (cA6, 1200, .inl (fun _ => 0))), (q7, .inr (2, [.ref q8, .ref q9, .int 0])), (q8, .inr (0, [.ref q5, .int 0, .int 0, .int 0])), (q10, .inr (0, [.ref q5, .int 0, .int 0, .int 0])), (q11, .inr (0, [.ref q5, .int 0, .int 0, .int 0])), (q12, .inr (0, [.ref q5, .int 0, .int 0, .int 0])), (q13, .inr (0, [.ref q5, .int 0, .int 0, .int 0])), (q14, .inr (0, [.ref q5, .int 0, .int 0, .int 0])), (q15, .inr (0, [.ref q5, .int 0, .int 0, .int 0])), (q18, .inl (cA19, 3, .inr (.inr (.inr (.inr (fun _ => none))))))]) (w1 := [(q20, .inr (0, [.ref q5, .int 0, .int 0, .int 0]))]) hP hD [11] [0, 1, 2, 3, 4, 5, 6, 7, 8, 9, 10] rfl rfl (by decide) (by decide) hk1 hFc hP1 hD1
  have hK := (hK.sub (tys' := [(cA6, .int), (cA19, .object "GlyphLines$Span")]) [0, 1] rfl).app hK1
  generalize H1 = H at hP hS ⊢
  have hP : va_P (dC, dI) cls_ [(h0, .inr (4, [.ref q5, .ref q7, .ref q10, .ref q11, .ref q12, .ref q13, .ref q14, .ref q15, .ref q16, .ref q17, .null, .int 0, .int 0, .int 0, .int 0])), (q5, .inl (cA6, 1200, .inl (fun _ => 0))), (q7, .inr (2, [.ref q8, .ref q9, .int 0])), (q8, .inr (0, [.ref q5, .int 0, .int 0, .int 0])), (q10, .inr (0, [.ref q5, .int 0, .int 0, .int 0])), (q11, .inr (0, [.ref q5, .int 0, .int 0, .int 0])), (q12, .inr (0, [.ref q5, .int 0, .int 0, .int 0])), (q13, .inr (0, [.ref q5, .int 0, .int 0, .int 0])), (q14, .inr (0, [.ref q5, .int 0, .int 0, .int 0])), (q15, .inr (0, [.ref q5, .int 0, .int 0, .int 0])), (q18, .inl (cA19, 3, .inr (.inr (.inr (.inr (fun _ => none)))))), (q20, .inr (0, [.ref q5, .int 0, .int 0, .int 0]))] H := hP
  have hD : va_D A [(h0, .inr (4, [.ref q5, .ref q7, .ref q10, .ref q11, .ref q12, .ref q13, .ref q14, .ref q15, .ref q16, .ref q17, .null, .int 0, .int 0, .int 0, .int 0])), (q5, .inl (cA6, 1200, .inl (fun _ => 0))), (q7, .inr (2, [.ref q8, .ref q9, .int 0])), (q8, .inr (0, [.ref q5, .int 0, .int 0, .int 0])), (q10, .inr (0, [.ref q5, .int 0, .int 0, .int 0])), (q11, .inr (0, [.ref q5, .int 0, .int 0, .int 0])), (q12, .inr (0, [.ref q5, .int 0, .int 0, .int 0])), (q13, .inr (0, [.ref q5, .int 0, .int 0, .int 0])), (q14, .inr (0, [.ref q5, .int 0, .int 0, .int 0])), (q15, .inr (0, [.ref q5, .int 0, .int 0, .int 0])), (q18, .inl (cA19, 3, .inr (.inr (.inr (.inr (fun _ => none)))))), (q20, .inr (0, [.ref q5, .int 0, .int 0, .int 0]))] := hD
  have hK : va_K (dC, dI) cls_ [(cA6, .int), (cA19, .object "GlyphLines$Span")] s := hK
  refine va_astq hx hb hK hP hD hS 10 1 11 0 rfl rfl rfl rfl (pk_in 0 3 (by decide) (by decide +kernel) (by decide)) d_FO_init_166 (fun H locs hP hD hS => ?_)
  have hP : va_P (dC, dI) cls_ [(h0, .inr (4, [.ref q5, .ref q7, .ref q10, .ref q11, .ref q12, .ref q13, .ref q14, .ref q15, .ref q16, .ref q17, .null, .int 0, .int 0, .int 0, .int 0])), (q5, .inl (cA6, 1200, .inl (fun _ => 0))), (q7, .inr (2, [.ref q8, .ref q9, .int 0])), (q8, .inr (0, [.ref q5, .int 0, .int 0, .int 0])), (q10, .inr (0, [.ref q5, .int 0, .int 0, .int 0])), (q11, .inr (0, [.ref q5, .int 0, .int 0, .int 0])), (q12, .inr (0, [.ref q5, .int 0, .int 0, .int 0])), (q13, .inr (0, [.ref q5, .int 0, .int 0, .int 0])), (q14, .inr (0, [.ref q5, .int 0, .int 0, .int 0])), (q15, .inr (0, [.ref q5, .int 0, .int 0, .int 0])), (q18, .inl (cA19, 3, .inr (.inr (.inr (.inr (va_up (fun _ => none) (Int32.toNatClampNeg 0) (some q20))))))), (q20, .inr (0, [.ref q5, .int 0, .int 0, .int 0]))] H := hP
  have hD : va_D A [(h0, .inr (4, [.ref q5, .ref q7, .ref q10, .ref q11, .ref q12, .ref q13, .ref q14, .ref q15, .ref q16, .ref q17, .null, .int 0, .int 0, .int 0, .int 0])), (q5, .inl (cA6, 1200, .inl (fun _ => 0))), (q7, .inr (2, [.ref q8, .ref q9, .int 0])), (q8, .inr (0, [.ref q5, .int 0, .int 0, .int 0])), (q10, .inr (0, [.ref q5, .int 0, .int 0, .int 0])), (q11, .inr (0, [.ref q5, .int 0, .int 0, .int 0])), (q12, .inr (0, [.ref q5, .int 0, .int 0, .int 0])), (q13, .inr (0, [.ref q5, .int 0, .int 0, .int 0])), (q14, .inr (0, [.ref q5, .int 0, .int 0, .int 0])), (q15, .inr (0, [.ref q5, .int 0, .int 0, .int 0])), (q18, .inl (cA19, 3, .inr (.inr (.inr (.inr (va_up (fun _ => none) (Int32.toNatClampNeg 0) (some q20))))))), (q20, .inr (0, [.ref q5, .int 0, .int 0, .int 0]))] := hD
  refine lv_dup hx hb d_FO_init_167 rfl ?_
  refine lv_iconst (v := 1) hx hb d_FO_init_168 (by decide) ?_
  refine va_new (ci := 0) (fs := [.null, .int 0, .int 0, .int 0]) (C := R_SP) (T := F_SP) (N := 4) hx hb hts in_SP t_SP t_SP_ok hown (hts _ (List.mem_cons_of_mem _ w_79)) (hts _ (List.mem_cons_of_mem _ w_43)) (hts _ (List.mem_cons_of_mem _ w_4)) hK hP hD hS hA rfl (fun j hj => by rcases (show j = 0 ∨ j = 1 ∨ j = 2 ∨ j = 3 by omega) with rfl | rfl | rfl | rfl <;> rfl) (Nat.le_of_ble_eq_true rfl) (Nat.le_of_ble_eq_true rfl) d_FO_init_169 (fun q21 H hP hD hS => ?_)
  have hP : va_P (dC, dI) cls_ [(h0, .inr (4, [.ref q5, .ref q7, .ref q10, .ref q11, .ref q12, .ref q13, .ref q14, .ref q15, .ref q16, .ref q17, .null, .int 0, .int 0, .int 0, .int 0])), (q5, .inl (cA6, 1200, .inl (fun _ => 0))), (q7, .inr (2, [.ref q8, .ref q9, .int 0])), (q8, .inr (0, [.ref q5, .int 0, .int 0, .int 0])), (q10, .inr (0, [.ref q5, .int 0, .int 0, .int 0])), (q11, .inr (0, [.ref q5, .int 0, .int 0, .int 0])), (q12, .inr (0, [.ref q5, .int 0, .int 0, .int 0])), (q13, .inr (0, [.ref q5, .int 0, .int 0, .int 0])), (q14, .inr (0, [.ref q5, .int 0, .int 0, .int 0])), (q15, .inr (0, [.ref q5, .int 0, .int 0, .int 0])), (q18, .inl (cA19, 3, .inr (.inr (.inr (.inr (va_up (fun _ => none) (Int32.toNatClampNeg 0) (some q20))))))), (q20, .inr (0, [.ref q5, .int 0, .int 0, .int 0])), (q21, .inr (0, [.null, .int 0, .int 0, .int 0]))] H := hP
  have hD : va_D A [(h0, .inr (4, [.ref q5, .ref q7, .ref q10, .ref q11, .ref q12, .ref q13, .ref q14, .ref q15, .ref q16, .ref q17, .null, .int 0, .int 0, .int 0, .int 0])), (q5, .inl (cA6, 1200, .inl (fun _ => 0))), (q7, .inr (2, [.ref q8, .ref q9, .int 0])), (q8, .inr (0, [.ref q5, .int 0, .int 0, .int 0])), (q10, .inr (0, [.ref q5, .int 0, .int 0, .int 0])), (q11, .inr (0, [.ref q5, .int 0, .int 0, .int 0])), (q12, .inr (0, [.ref q5, .int 0, .int 0, .int 0])), (q13, .inr (0, [.ref q5, .int 0, .int 0, .int 0])), (q14, .inr (0, [.ref q5, .int 0, .int 0, .int 0])), (q15, .inr (0, [.ref q5, .int 0, .int 0, .int 0])), (q18, .inl (cA19, 3, .inr (.inr (.inr (.inr (va_up (fun _ => none) (Int32.toNatClampNeg 0) (some q20))))))), (q20, .inr (0, [.ref q5, .int 0, .int 0, .int 0])), (q21, .inr (0, [.null, .int 0, .int 0, .int 0]))] := hD
  refine lv_dup hx hb d_FO_init_172 rfl ?_
  refine lv_aload_n hx hb d_FO_init_173 rfl (lv_at hl 0 rfl) ?_
  refine va_get (D := (dC, dI)) (ci := 4) (v := .ref q5) (C := R_FO) (T := F_FO) (N := 15) hx hb hts in_FO hown hK hP 0 rfl rfl 0 (by decide) (hts _ (List.mem_cons_of_mem _ w_117)) (fun _ h9 => h9) rfl d_FO_init_174 ?_
  have hPc := hP.sub (ws' := [(q21, .inr (0, [.null, .int 0, .int 0, .int 0]))]) [12] rfl
  have hDc := hD.sub (ws' := [(q21, .inr (0, [.null, .int 0, .int 0, .int 0]))]) [12] (by decide) rfl
  have hKc := hK.sub (tys' := []) [] rfl
  have hFc := va_free (wc := [(q21, .inr (0, [.null, .int 0, .int 0, .int 0]))]) hD hS hA [12] rfl
  refine va_callv (va_runI (As := [.ref q5]) (rest := [.ref q21, .int 1, .ref q18, .ref q18, .ref h0]) ⟨hx, hb, hml, hown, hts⟩ (c_SP_init l dC dI q21 q5 H.size) (cwI 1 hts (tw_in w_46) rfl rfl rfl (hts _ (List.mem_cons_of_mem _ w_4)) (hts _ (List.mem_cons_of_mem _ w_80)) (hts _ (List.mem_cons_of_mem _ w_45)) rfl (by decide +kernel) ⟨Nat.le_of_ble_eq_true rfl, Nat.le_of_ble_eq_true rfl⟩) ⟨fun a U g mk q => by obtain ⟨q0, q1, qP, qK, qD⟩ := q; exact ⟨q0, q1, qP, va_K.moved (u := U) (U := U.calling g mk a) (Vm.Alike.refl U.vm) qK, qD⟩, fun U hU hW => ⟨rfl, by rw [hU], by rw [hU]; exact hPc, va_K.moved hW.alike hKc, hDc.weaken (fun _ _ _ _ => trivial)⟩⟩ rfl rfl hl.1 rfl (lv_room (Nat.le_of_ble_eq_true rfl)) d_FO_init_177 ⟨Nat.le_of_ble_eq_true rfl, Nat.le_of_ble_eq_true rfl⟩) hS (fun q _ h => hFc q h) hFc (fun u t H1 locs ht hvm hw hB hz1 hk1 hS => ?_)
  obtain ⟨hP1, hK1, hD1⟩ := hB
  rw [ht] at hP1
  have hK1 := va_K.moved hvm.symm hK1
  obtain ⟨hP, hD⟩ := va_join (wr := [(h0, .inr (4, [.ref q5, .ref q7, .ref q10, .ref q11, .ref q12, .ref q13, .ref q14, .ref q15, .ref q16, .ref q17, .null, .int 0, .int 0, .int 0, .int 0])), (q5, .inl (cA6, 1200, .inl (fun _ => 0))), (q7, .inr (2, [.ref q8, .ref q9, .int 0])), (q8, .inr (0, [.ref q5, .int 0, .int 0, .int 0])), (q10, .inr (0, [.ref q5, .int 0, .int 0, .int 0])), (q11, .inr (0, [.ref q5, .int 0, .int 0, .int 0])), (q12, .inr (0, [.ref q5, .int 0, .int 0, .int 0])), (q13, .inr (0, [.ref q5, .int 0, .int 0, .int 0])), (q14, .inr (0, [.ref q5, .int 0, .int 0, .int 0])), (q15, .inr (0, [.ref q5, .int 0, .int 0, .int 0])), (q18, .inl (cA19, 3, .inr (.inr (.inr (.inr (va_up (fun _ => none) (Int32.toNatClampNeg 0) (some q20))))))), (q20, .inr (0, [.ref q5, .int 0, .int 0, .int 0]))]) (w1 := [(q21, .inr (0, [.ref q5, .int 0, .int 0, .int 0]))]) hP hD [12] [0, 1, 2, 3, 4, 5, 6, 7, 8, 9, 10, 11] rfl rfl (by decide) (by decide) hk1 hFc hP1 hD1
  have hK := (hK.sub (tys' := [(cA6, .int), (cA19, .object "GlyphLines$Span")]) [0, 1] rfl).app hK1
  generalize H1 = H at hP hS ⊢
  have hP : va_P (dC, dI) cls_ [(h0, .inr (4, [.ref q5, .ref q7, .ref q10, .ref q11, .ref q12, .ref q13, .ref q14, .ref q15, .ref q16, .ref q17, .null, .int 0, .int 0, .int 0, .int 0])), (q5, .inl (cA6, 1200, .inl (fun _ => 0))), (q7, .inr (2, [.ref q8, .ref q9, .int 0])), (q8, .inr (0, [.ref q5, .int 0, .int 0, .int 0])), (q10, .inr (0, [.ref q5, .int 0, .int 0, .int 0])), (q11, .inr (0, [.ref q5, .int 0, .int 0, .int 0])), (q12, .inr (0, [.ref q5, .int 0, .int 0, .int 0])), (q13, .inr (0, [.ref q5, .int 0, .int 0, .int 0])), (q14, .inr (0, [.ref q5, .int 0, .int 0, .int 0])), (q15, .inr (0, [.ref q5, .int 0, .int 0, .int 0])), (q18, .inl (cA19, 3, .inr (.inr (.inr (.inr (va_up (fun _ => none) (Int32.toNatClampNeg 0) (some q20))))))), (q20, .inr (0, [.ref q5, .int 0, .int 0, .int 0])), (q21, .inr (0, [.ref q5, .int 0, .int 0, .int 0]))] H := hP
  have hD : va_D A [(h0, .inr (4, [.ref q5, .ref q7, .ref q10, .ref q11, .ref q12, .ref q13, .ref q14, .ref q15, .ref q16, .ref q17, .null, .int 0, .int 0, .int 0, .int 0])), (q5, .inl (cA6, 1200, .inl (fun _ => 0))), (q7, .inr (2, [.ref q8, .ref q9, .int 0])), (q8, .inr (0, [.ref q5, .int 0, .int 0, .int 0])), (q10, .inr (0, [.ref q5, .int 0, .int 0, .int 0])), (q11, .inr (0, [.ref q5, .int 0, .int 0, .int 0])), (q12, .inr (0, [.ref q5, .int 0, .int 0, .int 0])), (q13, .inr (0, [.ref q5, .int 0, .int 0, .int 0])), (q14, .inr (0, [.ref q5, .int 0, .int 0, .int 0])), (q15, .inr (0, [.ref q5, .int 0, .int 0, .int 0])), (q18, .inl (cA19, 3, .inr (.inr (.inr (.inr (va_up (fun _ => none) (Int32.toNatClampNeg 0) (some q20))))))), (q20, .inr (0, [.ref q5, .int 0, .int 0, .int 0])), (q21, .inr (0, [.ref q5, .int 0, .int 0, .int 0]))] := hD
  have hK : va_K (dC, dI) cls_ [(cA6, .int), (cA19, .object "GlyphLines$Span")] s := hK
  refine va_astq hx hb hK hP hD hS 10 1 12 0 rfl rfl rfl rfl (pk_in 1 3 (by decide) (by decide +kernel) (by decide)) d_FO_init_180 (fun H locs hP hD hS => ?_)
  have hP : va_P (dC, dI) cls_ [(h0, .inr (4, [.ref q5, .ref q7, .ref q10, .ref q11, .ref q12, .ref q13, .ref q14, .ref q15, .ref q16, .ref q17, .null, .int 0, .int 0, .int 0, .int 0])), (q5, .inl (cA6, 1200, .inl (fun _ => 0))), (q7, .inr (2, [.ref q8, .ref q9, .int 0])), (q8, .inr (0, [.ref q5, .int 0, .int 0, .int 0])), (q10, .inr (0, [.ref q5, .int 0, .int 0, .int 0])), (q11, .inr (0, [.ref q5, .int 0, .int 0, .int 0])), (q12, .inr (0, [.ref q5, .int 0, .int 0, .int 0])), (q13, .inr (0, [.ref q5, .int 0, .int 0, .int 0])), (q14, .inr (0, [.ref q5, .int 0, .int 0, .int 0])), (q15, .inr (0, [.ref q5, .int 0, .int 0, .int 0])), (q18, .inl (cA19, 3, .inr (.inr (.inr (.inr (va_up (va_up (fun _ => none) (Int32.toNatClampNeg 0) (some q20)) (Int32.toNatClampNeg 1) (some q21))))))), (q20, .inr (0, [.ref q5, .int 0, .int 0, .int 0])), (q21, .inr (0, [.ref q5, .int 0, .int 0, .int 0]))] H := hP
  have hD : va_D A [(h0, .inr (4, [.ref q5, .ref q7, .ref q10, .ref q11, .ref q12, .ref q13, .ref q14, .ref q15, .ref q16, .ref q17, .null, .int 0, .int 0, .int 0, .int 0])), (q5, .inl (cA6, 1200, .inl (fun _ => 0))), (q7, .inr (2, [.ref q8, .ref q9, .int 0])), (q8, .inr (0, [.ref q5, .int 0, .int 0, .int 0])), (q10, .inr (0, [.ref q5, .int 0, .int 0, .int 0])), (q11, .inr (0, [.ref q5, .int 0, .int 0, .int 0])), (q12, .inr (0, [.ref q5, .int 0, .int 0, .int 0])), (q13, .inr (0, [.ref q5, .int 0, .int 0, .int 0])), (q14, .inr (0, [.ref q5, .int 0, .int 0, .int 0])), (q15, .inr (0, [.ref q5, .int 0, .int 0, .int 0])), (q18, .inl (cA19, 3, .inr (.inr (.inr (.inr (va_up (va_up (fun _ => none) (Int32.toNatClampNeg 0) (some q20)) (Int32.toNatClampNeg 1) (some q21))))))), (q20, .inr (0, [.ref q5, .int 0, .int 0, .int 0])), (q21, .inr (0, [.ref q5, .int 0, .int 0, .int 0]))] := hD
  refine lv_dup hx hb d_FO_init_181 rfl ?_
  refine lv_iconst (v := 2) hx hb d_FO_init_182 (by decide) ?_
  refine va_new (ci := 0) (fs := [.null, .int 0, .int 0, .int 0]) (C := R_SP) (T := F_SP) (N := 4) hx hb hts in_SP t_SP t_SP_ok hown (hts _ (List.mem_cons_of_mem _ w_79)) (hts _ (List.mem_cons_of_mem _ w_43)) (hts _ (List.mem_cons_of_mem _ w_4)) hK hP hD hS hA rfl (fun j hj => by rcases (show j = 0 ∨ j = 1 ∨ j = 2 ∨ j = 3 by omega) with rfl | rfl | rfl | rfl <;> rfl) (Nat.le_of_ble_eq_true rfl) (Nat.le_of_ble_eq_true rfl) d_FO_init_183 (fun q22 H hP hD hS => ?_)
  have hP : va_P (dC, dI) cls_ [(h0, .inr (4, [.ref q5, .ref q7, .ref q10, .ref q11, .ref q12, .ref q13, .ref q14, .ref q15, .ref q16, .ref q17, .null, .int 0, .int 0, .int 0, .int 0])), (q5, .inl (cA6, 1200, .inl (fun _ => 0))), (q7, .inr (2, [.ref q8, .ref q9, .int 0])), (q8, .inr (0, [.ref q5, .int 0, .int 0, .int 0])), (q10, .inr (0, [.ref q5, .int 0, .int 0, .int 0])), (q11, .inr (0, [.ref q5, .int 0, .int 0, .int 0])), (q12, .inr (0, [.ref q5, .int 0, .int 0, .int 0])), (q13, .inr (0, [.ref q5, .int 0, .int 0, .int 0])), (q14, .inr (0, [.ref q5, .int 0, .int 0, .int 0])), (q15, .inr (0, [.ref q5, .int 0, .int 0, .int 0])), (q18, .inl (cA19, 3, .inr (.inr (.inr (.inr (va_up (va_up (fun _ => none) (Int32.toNatClampNeg 0) (some q20)) (Int32.toNatClampNeg 1) (some q21))))))), (q20, .inr (0, [.ref q5, .int 0, .int 0, .int 0])), (q21, .inr (0, [.ref q5, .int 0, .int 0, .int 0])), (q22, .inr (0, [.null, .int 0, .int 0, .int 0]))] H := hP
  have hD : va_D A [(h0, .inr (4, [.ref q5, .ref q7, .ref q10, .ref q11, .ref q12, .ref q13, .ref q14, .ref q15, .ref q16, .ref q17, .null, .int 0, .int 0, .int 0, .int 0])), (q5, .inl (cA6, 1200, .inl (fun _ => 0))), (q7, .inr (2, [.ref q8, .ref q9, .int 0])), (q8, .inr (0, [.ref q5, .int 0, .int 0, .int 0])), (q10, .inr (0, [.ref q5, .int 0, .int 0, .int 0])), (q11, .inr (0, [.ref q5, .int 0, .int 0, .int 0])), (q12, .inr (0, [.ref q5, .int 0, .int 0, .int 0])), (q13, .inr (0, [.ref q5, .int 0, .int 0, .int 0])), (q14, .inr (0, [.ref q5, .int 0, .int 0, .int 0])), (q15, .inr (0, [.ref q5, .int 0, .int 0, .int 0])), (q18, .inl (cA19, 3, .inr (.inr (.inr (.inr (va_up (va_up (fun _ => none) (Int32.toNatClampNeg 0) (some q20)) (Int32.toNatClampNeg 1) (some q21))))))), (q20, .inr (0, [.ref q5, .int 0, .int 0, .int 0])), (q21, .inr (0, [.ref q5, .int 0, .int 0, .int 0])), (q22, .inr (0, [.null, .int 0, .int 0, .int 0]))] := hD
  refine lv_dup hx hb d_FO_init_186 rfl ?_
  refine lv_aload_n hx hb d_FO_init_187 rfl (lv_at hl 0 rfl) ?_
  refine va_get (D := (dC, dI)) (ci := 4) (v := .ref q5) (C := R_FO) (T := F_FO) (N := 15) hx hb hts in_FO hown hK hP 0 rfl rfl 0 (by decide) (hts _ (List.mem_cons_of_mem _ w_117)) (fun _ h9 => h9) rfl d_FO_init_188 ?_
  have hPc := hP.sub (ws' := [(q22, .inr (0, [.null, .int 0, .int 0, .int 0]))]) [13] rfl
  have hDc := hD.sub (ws' := [(q22, .inr (0, [.null, .int 0, .int 0, .int 0]))]) [13] (by decide) rfl
  have hKc := hK.sub (tys' := []) [] rfl
  have hFc := va_free (wc := [(q22, .inr (0, [.null, .int 0, .int 0, .int 0]))]) hD hS hA [13] rfl
  refine va_callv (va_runI (As := [.ref q5]) (rest := [.ref q22, .int 2, .ref q18, .ref q18, .ref h0]) ⟨hx, hb, hml, hown, hts⟩ (c_SP_init l dC dI q22 q5 H.size) (cwI 1 hts (tw_in w_46) rfl rfl rfl (hts _ (List.mem_cons_of_mem _ w_4)) (hts _ (List.mem_cons_of_mem _ w_80)) (hts _ (List.mem_cons_of_mem _ w_45)) rfl (by decide +kernel) ⟨Nat.le_of_ble_eq_true rfl, Nat.le_of_ble_eq_true rfl⟩) ⟨fun a U g mk q => by obtain ⟨q0, q1, qP, qK, qD⟩ := q; exact ⟨q0, q1, qP, va_K.moved (u := U) (U := U.calling g mk a) (Vm.Alike.refl U.vm) qK, qD⟩, fun U hU hW => ⟨rfl, by rw [hU], by rw [hU]; exact hPc, va_K.moved hW.alike hKc, hDc.weaken (fun _ _ _ _ => trivial)⟩⟩ rfl rfl hl.1 rfl (lv_room (Nat.le_of_ble_eq_true rfl)) d_FO_init_191 ⟨Nat.le_of_ble_eq_true rfl, Nat.le_of_ble_eq_true rfl⟩) hS (fun q _ h => hFc q h) hFc (fun u t H1 locs ht hvm hw hB hz1 hk1 hS => ?_)
  obtain ⟨hP1, hK1, hD1⟩ := hB
  rw [ht] at hP1
  have hK1 := va_K.moved hvm.symm hK1
  obtain ⟨hP, hD⟩ := va_join (wr := [(h0, .inr (4, [.ref q5, .ref q7, .ref q10, .ref q11, .ref q12, .ref q13, .ref q14, .ref q15, .ref q16, .ref q17, .null, .int 0, .int 0, .int 0, .int 0])), (q5, .inl (cA6, 1200, .inl (fun _ => 0))), (q7, .inr (2, [.ref q8, .ref q9, .int 0])), (q8, .inr (0, [.ref q5, .int 0, .int 0, .int 0])), (q10, .inr (0, [.ref q5, .int 0, .int 0, .int 0])), (q11, .inr (0, [.ref q5, .int 0, .int 0, .int 0])), (q12, .inr (0, [.ref q5, .int 0, .int 0, .int 0])), (q13, .inr (0, [.ref q5, .int 0, .int 0, .int 0])), (q14, .inr (0, [.ref q5, .int 0, .int 0, .int 0])), (q15, .inr (0, [.ref q5, .int 0, .int 0, .int 0])), (q18, .inl (cA19, 3, .inr (.inr (.inr (.inr (va_up (va_up (fun _ => none) (Int32.toNatClampNeg 0) (some q20)) (Int32.toNatClampNeg 1) (some q21))))))), (q20, .inr (0, [.ref q5, .int 0, .int 0, .int 0])), (q21, .inr (0, [.ref q5, .int 0, .int 0, .int 0]))]) (w1 := [(q22, .inr (0, [.ref q5, .int 0, .int 0, .int 0]))]) hP hD [13] [0, 1, 2, 3, 4, 5, 6, 7, 8, 9, 10, 11, 12] rfl rfl (by decide) (by decide) hk1 hFc hP1 hD1
  have hK := (hK.sub (tys' := [(cA6, .int), (cA19, .object "GlyphLines$Span")]) [0, 1] rfl).app hK1
  generalize H1 = H at hP hS ⊢
  have hP : va_P (dC, dI) cls_ [(h0, .inr (4, [.ref q5, .ref q7, .ref q10, .ref q11, .ref q12, .ref q13, .ref q14, .ref q15, .ref q16, .ref q17, .null, .int 0, .int 0, .int 0, .int 0])), (q5, .inl (cA6, 1200, .inl (fun _ => 0))), (q7, .inr (2, [.ref q8, .ref q9, .int 0])), (q8, .inr (0, [.ref q5, .int 0, .int 0, .int 0])), (q10, .inr (0, [.ref q5, .int 0, .int 0, .int 0])), (q11, .inr (0, [.ref q5, .int 0, .int 0, .int 0])), (q12, .inr (0, [.ref q5, .int 0, .int 0, .int 0])), (q13, .inr (0, [.ref q5, .int 0, .int 0, .int 0])), (q14, .inr (0, [.ref q5, .int 0, .int 0, .int 0])), (q15, .inr (0, [.ref q5, .int 0, .int 0, .int 0])), (q18, .inl (cA19, 3, .inr (.inr (.inr (.inr (va_up (va_up (fun _ => none) (Int32.toNatClampNeg 0) (some q20)) (Int32.toNatClampNeg 1) (some q21))))))), (q20, .inr (0, [.ref q5, .int 0, .int 0, .int 0])), (q21, .inr (0, [.ref q5, .int 0, .int 0, .int 0])), (q22, .inr (0, [.ref q5, .int 0, .int 0, .int 0]))] H := hP
  have hD : va_D A [(h0, .inr (4, [.ref q5, .ref q7, .ref q10, .ref q11, .ref q12, .ref q13, .ref q14, .ref q15, .ref q16, .ref q17, .null, .int 0, .int 0, .int 0, .int 0])), (q5, .inl (cA6, 1200, .inl (fun _ => 0))), (q7, .inr (2, [.ref q8, .ref q9, .int 0])), (q8, .inr (0, [.ref q5, .int 0, .int 0, .int 0])), (q10, .inr (0, [.ref q5, .int 0, .int 0, .int 0])), (q11, .inr (0, [.ref q5, .int 0, .int 0, .int 0])), (q12, .inr (0, [.ref q5, .int 0, .int 0, .int 0])), (q13, .inr (0, [.ref q5, .int 0, .int 0, .int 0])), (q14, .inr (0, [.ref q5, .int 0, .int 0, .int 0])), (q15, .inr (0, [.ref q5, .int 0, .int 0, .int 0])), (q18, .inl (cA19, 3, .inr (.inr (.inr (.inr (va_up (va_up (fun _ => none) (Int32.toNatClampNeg 0) (some q20)) (Int32.toNatClampNeg 1) (some q21))))))), (q20, .inr (0, [.ref q5, .int 0, .int 0, .int 0])), (q21, .inr (0, [.ref q5, .int 0, .int 0, .int 0])), (q22, .inr (0, [.ref q5, .int 0, .int 0, .int 0]))] := hD
  have hK : va_K (dC, dI) cls_ [(cA6, .int), (cA19, .object "GlyphLines$Span")] s := hK
  refine va_astq hx hb hK hP hD hS 10 1 13 0 rfl rfl rfl rfl (pk_in 2 3 (by decide) (by decide +kernel) (by decide)) d_FO_init_194 (fun H locs hP hD hS => ?_)
  have hP : va_P (dC, dI) cls_ [(h0, .inr (4, [.ref q5, .ref q7, .ref q10, .ref q11, .ref q12, .ref q13, .ref q14, .ref q15, .ref q16, .ref q17, .null, .int 0, .int 0, .int 0, .int 0])), (q5, .inl (cA6, 1200, .inl (fun _ => 0))), (q7, .inr (2, [.ref q8, .ref q9, .int 0])), (q8, .inr (0, [.ref q5, .int 0, .int 0, .int 0])), (q10, .inr (0, [.ref q5, .int 0, .int 0, .int 0])), (q11, .inr (0, [.ref q5, .int 0, .int 0, .int 0])), (q12, .inr (0, [.ref q5, .int 0, .int 0, .int 0])), (q13, .inr (0, [.ref q5, .int 0, .int 0, .int 0])), (q14, .inr (0, [.ref q5, .int 0, .int 0, .int 0])), (q15, .inr (0, [.ref q5, .int 0, .int 0, .int 0])), (q18, .inl (cA19, 3, .inr (.inr (.inr (.inr (va_up (va_up (va_up (fun _ => none) (Int32.toNatClampNeg 0) (some q20)) (Int32.toNatClampNeg 1) (some q21)) (Int32.toNatClampNeg 2) (some q22))))))), (q20, .inr (0, [.ref q5, .int 0, .int 0, .int 0])), (q21, .inr (0, [.ref q5, .int 0, .int 0, .int 0])), (q22, .inr (0, [.ref q5, .int 0, .int 0, .int 0]))] H := hP
  have hD : va_D A [(h0, .inr (4, [.ref q5, .ref q7, .ref q10, .ref q11, .ref q12, .ref q13, .ref q14, .ref q15, .ref q16, .ref q17, .null, .int 0, .int 0, .int 0, .int 0])), (q5, .inl (cA6, 1200, .inl (fun _ => 0))), (q7, .inr (2, [.ref q8, .ref q9, .int 0])), (q8, .inr (0, [.ref q5, .int 0, .int 0, .int 0])), (q10, .inr (0, [.ref q5, .int 0, .int 0, .int 0])), (q11, .inr (0, [.ref q5, .int 0, .int 0, .int 0])), (q12, .inr (0, [.ref q5, .int 0, .int 0, .int 0])), (q13, .inr (0, [.ref q5, .int 0, .int 0, .int 0])), (q14, .inr (0, [.ref q5, .int 0, .int 0, .int 0])), (q15, .inr (0, [.ref q5, .int 0, .int 0, .int 0])), (q18, .inl (cA19, 3, .inr (.inr (.inr (.inr (va_up (va_up (va_up (fun _ => none) (Int32.toNatClampNeg 0) (some q20)) (Int32.toNatClampNeg 1) (some q21)) (Int32.toNatClampNeg 2) (some q22))))))), (q20, .inr (0, [.ref q5, .int 0, .int 0, .int 0])), (q21, .inr (0, [.ref q5, .int 0, .int 0, .int 0])), (q22, .inr (0, [.ref q5, .int 0, .int 0, .int 0]))] := hD
  refine va_putF (D := (dC, dI)) (ci := 4) (v := .ref q18) (ty := .array (.object "GlyphLines$Span")) (C := R_FO) (T := F_FO) (N := 15) hx hb hts in_FO t_FO t_FO_ok n_FO hown hK hP hD hS 0 rfl rfl 10 (by decide) (hts _ (List.mem_cons_of_mem _ w_127)) (fun _ h9 => h9) rfl hin rfl (by decide +kernel) rfl rfl (Nat.le_of_ble_eq_true rfl) d_FO_init_195 (fun H locs hP hD hS => ?_)
  have hP : va_P (dC, dI) cls_ [(h0, .inr (4, [.ref q5, .ref q7, .ref q10, .ref q11, .ref q12, .ref q13, .ref q14, .ref q15, .ref q16, .ref q17, .ref q18, .int 0, .int 0, .int 0, .int 0])), (q5, .inl (cA6, 1200, .inl (fun _ => 0))), (q7, .inr (2, [.ref q8, .ref q9, .int 0])), (q8, .inr (0, [.ref q5, .int 0, .int 0, .int 0])), (q10, .inr (0, [.ref q5, .int 0, .int 0, .int 0])), (q11, .inr (0, [.ref q5, .int 0, .int 0, .int 0])), (q12, .inr (0, [.ref q5, .int 0, .int 0, .int 0])), (q13, .inr (0, [.ref q5, .int 0, .int 0, .int 0])), (q14, .inr (0, [.ref q5, .int 0, .int 0, .int 0])), (q15, .inr (0, [.ref q5, .int 0, .int 0, .int 0])), (q18, .inl (cA19, 3, .inr (.inr (.inr (.inr (va_up (va_up (va_up (fun _ => none) (Int32.toNatClampNeg 0) (some q20)) (Int32.toNatClampNeg 1) (some q21)) (Int32.toNatClampNeg 2) (some q22))))))), (q20, .inr (0, [.ref q5, .int 0, .int 0, .int 0])), (q21, .inr (0, [.ref q5, .int 0, .int 0, .int 0])), (q22, .inr (0, [.ref q5, .int 0, .int 0, .int 0]))] H := hP
  have hD : va_D A [(h0, .inr (4, [.ref q5, .ref q7, .ref q10, .ref q11, .ref q12, .ref q13, .ref q14, .ref q15, .ref q16, .ref q17, .ref q18, .int 0, .int 0, .int 0, .int 0])), (q5, .inl (cA6, 1200, .inl (fun _ => 0))), (q7, .inr (2, [.ref q8, .ref q9, .int 0])), (q8, .inr (0, [.ref q5, .int 0, .int 0, .int 0])), (q10, .inr (0, [.ref q5, .int 0, .int 0, .int 0])), (q11, .inr (0, [.ref q5, .int 0, .int 0, .int 0])), (q12, .inr (0, [.ref q5, .int 0, .int 0, .int 0])), (q13, .inr (0, [.ref q5, .int 0, .int 0, .int 0])), (q14, .inr (0, [.ref q5, .int 0, .int 0, .int 0])), (q15, .inr (0, [.ref q5, .int 0, .int 0, .int 0])), (q18, .inl (cA19, 3, .inr (.inr (.inr (.inr (va_up (va_up (va_up (fun _ => none) (Int32.toNatClampNeg 0) (some q20)) (Int32.toNatClampNeg 1) (some q21)) (Int32.toNatClampNeg 2) (some q22))))))), (q20, .inr (0, [.ref q5, .int 0, .int 0, .int 0])), (q21, .inr (0, [.ref q5, .int 0, .int 0, .int 0])), (q22, .inr (0, [.ref q5, .int 0, .int 0, .int 0]))] := hD
  refine lv_aload_n hx hb d_FO_init_198 rfl (lv_at hl 0 rfl) ?_
  refine lv_bipush (v := 64) hx hb d_FO_init_199 (by decide) ?_
  refine va_put (D := (dC, dI)) (ci := 4) (v := .int 64) (ty := .int) (C := R_FO) (T := F_FO) (N := 15) hx hb hts in_FO t_FO t_FO_ok n_FO hown hK hP hD hS 0 rfl rfl 11 (by decide) (hts _ (List.mem_cons_of_mem _ w_128)) (fun _ h9 => h9) rfl  (by decide +kernel) rfl rfl (Nat.le_of_ble_eq_true rfl) d_FO_init_201 (fun H locs hP hD hS => ?_)
  have hP : va_P (dC, dI) cls_ [(h0, .inr (4, [.ref q5, .ref q7, .ref q10, .ref q11, .ref q12, .ref q13, .ref q14, .ref q15, .ref q16, .ref q17, .ref q18, .int 64, .int 0, .int 0, .int 0])), (q5, .inl (cA6, 1200, .inl (fun _ => 0))), (q7, .inr (2, [.ref q8, .ref q9, .int 0])), (q8, .inr (0, [.ref q5, .int 0, .int 0, .int 0])), (q10, .inr (0, [.ref q5, .int 0, .int 0, .int 0])), (q11, .inr (0, [.ref q5, .int 0, .int 0, .int 0])), (q12, .inr (0, [.ref q5, .int 0, .int 0, .int 0])), (q13, .inr (0, [.ref q5, .int 0, .int 0, .int 0])), (q14, .inr (0, [.ref q5, .int 0, .int 0, .int 0])), (q15, .inr (0, [.ref q5, .int 0, .int 0, .int 0])), (q18, .inl (cA19, 3, .inr (.inr (.inr (.inr (va_up (va_up (va_up (fun _ => none) (Int32.toNatClampNeg 0) (some q20)) (Int32.toNatClampNeg 1) (some q21)) (Int32.toNatClampNeg 2) (some q22))))))), (q20, .inr (0, [.ref q5, .int 0, .int 0, .int 0])), (q21, .inr (0, [.ref q5, .int 0, .int 0, .int 0])), (q22, .inr (0, [.ref q5, .int 0, .int 0, .int 0]))] H := hP
  have hD : va_D A [(h0, .inr (4, [.ref q5, .ref q7, .ref q10, .ref q11, .ref q12, .ref q13, .ref q14, .ref q15, .ref q16, .ref q17, .ref q18, .int 64, .int 0, .int 0, .int 0])), (q5, .inl (cA6, 1200, .inl (fun _ => 0))), (q7, .inr (2, [.ref q8, .ref q9, .int 0])), (q8, .inr (0, [.ref q5, .int 0, .int 0, .int 0])), (q10, .inr (0, [.ref q5, .int 0, .int 0, .int 0])), (q11, .inr (0, [.ref q5, .int 0, .int 0, .int 0])), (q12, .inr (0, [.ref q5, .int 0, .int 0, .int 0])), (q13, .inr (0, [.ref q5, .int 0, .int 0, .int 0])), (q14, .inr (0, [.ref q5, .int 0, .int 0, .int 0])), (q15, .inr (0, [.ref q5, .int 0, .int 0, .int 0])), (q18, .inl (cA19, 3, .inr (.inr (.inr (.inr (va_up (va_up (va_up (fun _ => none) (Int32.toNatClampNeg 0) (some q20)) (Int32.toNatClampNeg 1) (some q21)) (Int32.toNatClampNeg 2) (some q22))))))), (q20, .inr (0, [.ref q5, .int 0, .int 0, .int 0])), (q21, .inr (0, [.ref q5, .int 0, .int 0, .int 0])), (q22, .inr (0, [.ref q5, .int 0, .int 0, .int 0]))] := hD
  refine lv_aload_n hx hb d_FO_init_204 rfl (lv_at hl 0 rfl) ?_
  refine lv_iconst (v := 0) hx hb d_FO_init_205 (by decide) ?_
  refine va_put (D := (dC, dI)) (ci := 4) (v := .int 0) (ty := .int) (C := R_FO) (T := F_FO) (N := 15) hx hb hts in_FO t_FO t_FO_ok n_FO hown hK hP hD hS 0 rfl rfl 12 (by decide) (hts _ (List.mem_cons_of_mem _ w_130)) (fun _ h9 => h9) rfl  (by decide +kernel) rfl rfl (Nat.le_of_ble_eq_true rfl) d_FO_init_206 (fun H locs hP hD hS => ?_)
  have hP : va_P (dC, dI) cls_ [(h0, .inr (4, [.ref q5, .ref q7, .ref q10, .ref q11, .ref q12, .ref q13, .ref q14, .ref q15, .ref q16, .ref q17, .ref q18, .int 64, .int 0, .int 0, .int 0])), (q5, .inl (cA6, 1200, .inl (fun _ => 0))), (q7, .inr (2, [.ref q8, .ref q9, .int 0])), (q8, .inr (0, [.ref q5, .int 0, .int 0, .int 0])), (q10, .inr (0, [.ref q5, .int 0, .int 0, .int 0])), (q11, .inr (0, [.ref q5, .int 0, .int 0, .int 0])), (q12, .inr (0, [.ref q5, .int 0, .int 0, .int 0])), (q13, .inr (0, [.ref q5, .int 0, .int 0, .int 0])), (q14, .inr (0, [.ref q5, .int 0, .int 0, .int 0])), (q15, .inr (0, [.ref q5, .int 0, .int 0, .int 0])), (q18, .inl (cA19, 3, .inr (.inr (.inr (.inr (va_up (va_up (va_up (fun _ => none) (Int32.toNatClampNeg 0) (some q20)) (Int32.toNatClampNeg 1) (some q21)) (Int32.toNatClampNeg 2) (some q22))))))), (q20, .inr (0, [.ref q5, .int 0, .int 0, .int 0])), (q21, .inr (0, [.ref q5, .int 0, .int 0, .int 0])), (q22, .inr (0, [.ref q5, .int 0, .int 0, .int 0]))] H := hP
  have hD : va_D A [(h0, .inr (4, [.ref q5, .ref q7, .ref q10, .ref q11, .ref q12, .ref q13, .ref q14, .ref q15, .ref q16, .ref q17, .ref q18, .int 64, .int 0, .int 0, .int 0])), (q5, .inl (cA6, 1200, .inl (fun _ => 0))), (q7, .inr (2, [.ref q8, .ref q9, .int 0])), (q8, .inr (0, [.ref q5, .int 0, .int 0, .int 0])), (q10, .inr (0, [.ref q5, .int 0, .int 0, .int 0])), (q11, .inr (0, [.ref q5, .int 0, .int 0, .int 0])), (q12, .inr (0, [.ref q5, .int 0, .int 0, .int 0])), (q13, .inr (0, [.ref q5, .int 0, .int 0, .int 0])), (q14, .inr (0, [.ref q5, .int 0, .int 0, .int 0])), (q15, .inr (0, [.ref q5, .int 0, .int 0, .int 0])), (q18, .inl (cA19, 3, .inr (.inr (.inr (.inr (va_up (va_up (va_up (fun _ => none) (Int32.toNatClampNeg 0) (some q20)) (Int32.toNatClampNeg 1) (some q21)) (Int32.toNatClampNeg 2) (some q22))))))), (q20, .inr (0, [.ref q5, .int 0, .int 0, .int 0])), (q21, .inr (0, [.ref q5, .int 0, .int 0, .int 0])), (q22, .inr (0, [.ref q5, .int 0, .int 0, .int 0]))] := hD
  refine lv_aload_n hx hb d_FO_init_209 rfl (lv_at hl 0 rfl) ?_
  refine lv_iconst (v := 0) hx hb d_FO_init_210 (by decide) ?_
  refine va_put (D := (dC, dI)) (ci := 4) (v := .int 0) (ty := .int) (C := R_FO) (T := F_FO) (N := 15) hx hb hts in_FO t_FO t_FO_ok n_FO hown hK hP hD hS 0 rfl rfl 13 (by decide) (hts _ (List.mem_cons_of_mem _ w_133)) (fun _ h9 => h9) rfl  (by decide +kernel) rfl rfl (Nat.le_of_ble_eq_true rfl) d_FO_init_211 (fun H locs hP hD hS => ?_)
  have hP : va_P (dC, dI) cls_ [(h0, .inr (4, [.ref q5, .ref q7, .ref q10, .ref q11, .ref q12, .ref q13, .ref q14, .ref q15, .ref q16, .ref q17, .ref q18, .int 64, .int 0, .int 0, .int 0])), (q5, .inl (cA6, 1200, .inl (fun _ => 0))), (q7, .inr (2, [.ref q8, .ref q9, .int 0])), (q8, .inr (0, [.ref q5, .int 0, .int 0, .int 0])), (q10, .inr (0, [.ref q5, .int 0, .int 0, .int 0])), (q11, .inr (0, [.ref q5, .int 0, .int 0, .int 0])), (q12, .inr (0, [.ref q5, .int 0, .int 0, .int 0])), (q13, .inr (0, [.ref q5, .int 0, .int 0, .int 0])), (q14, .inr (0, [.ref q5, .int 0, .int 0, .int 0])), (q15, .inr (0, [.ref q5, .int 0, .int 0, .int 0])), (q18, .inl (cA19, 3, .inr (.inr (.inr (.inr (va_up (va_up (va_up (fun _ => none) (Int32.toNatClampNeg 0) (some q20)) (Int32.toNatClampNeg 1) (some q21)) (Int32.toNatClampNeg 2) (some q22))))))), (q20, .inr (0, [.ref q5, .int 0, .int 0, .int 0])), (q21, .inr (0, [.ref q5, .int 0, .int 0, .int 0])), (q22, .inr (0, [.ref q5, .int 0, .int 0, .int 0]))] H := hP
  have hD : va_D A [(h0, .inr (4, [.ref q5, .ref q7, .ref q10, .ref q11, .ref q12, .ref q13, .ref q14, .ref q15, .ref q16, .ref q17, .ref q18, .int 64, .int 0, .int 0, .int 0])), (q5, .inl (cA6, 1200, .inl (fun _ => 0))), (q7, .inr (2, [.ref q8, .ref q9, .int 0])), (q8, .inr (0, [.ref q5, .int 0, .int 0, .int 0])), (q10, .inr (0, [.ref q5, .int 0, .int 0, .int 0])), (q11, .inr (0, [.ref q5, .int 0, .int 0, .int 0])), (q12, .inr (0, [.ref q5, .int 0, .int 0, .int 0])), (q13, .inr (0, [.ref q5, .int 0, .int 0, .int 0])), (q14, .inr (0, [.ref q5, .int 0, .int 0, .int 0])), (q15, .inr (0, [.ref q5, .int 0, .int 0, .int 0])), (q18, .inl (cA19, 3, .inr (.inr (.inr (.inr (va_up (va_up (va_up (fun _ => none) (Int32.toNatClampNeg 0) (some q20)) (Int32.toNatClampNeg 1) (some q21)) (Int32.toNatClampNeg 2) (some q22))))))), (q20, .inr (0, [.ref q5, .int 0, .int 0, .int 0])), (q21, .inr (0, [.ref q5, .int 0, .int 0, .int 0])), (q22, .inr (0, [.ref q5, .int 0, .int 0, .int 0]))] := hD
  refine lv_aload_n hx hb d_FO_init_214 rfl (lv_at hl 0 rfl) ?_
  refine lv_iconst (v := 0) hx hb d_FO_init_215 (by decide) ?_
  refine va_put (D := (dC, dI)) (ci := 4) (v := .int 0) (ty := .boolean) (C := R_FO) (T := F_FO) (N := 15) hx hb hts in_FO t_FO t_FO_ok n_FO hown hK hP hD hS 0 rfl rfl 14 (by decide) (hts _ (List.mem_cons_of_mem _ w_134)) (fun _ h9 => h9) rfl  (by decide +kernel) rfl rfl (Nat.le_of_ble_eq_true rfl) d_FO_init_216 (fun H locs hP hD hS => ?_)
  have hP : va_P (dC, dI) cls_ [(h0, .inr (4, [.ref q5, .ref q7, .ref q10, .ref q11, .ref q12, .ref q13, .ref q14, .ref q15, .ref q16, .ref q17, .ref q18, .int 64, .int 0, .int 0, .int 0])), (q5, .inl (cA6, 1200, .inl (fun _ => 0))), (q7, .inr (2, [.ref q8, .ref q9, .int 0])), (q8, .inr (0, [.ref q5, .int 0, .int 0, .int 0])), (q10, .inr (0, [.ref q5, .int 0, .int 0, .int 0])), (q11, .inr (0, [.ref q5, .int 0, .int 0, .int 0])), (q12, .inr (0, [.ref q5, .int 0, .int 0, .int 0])), (q13, .inr (0, [.ref q5, .int 0, .int 0, .int 0])), (q14, .inr (0, [.ref q5, .int 0, .int 0, .int 0])), (q15, .inr (0, [.ref q5, .int 0, .int 0, .int 0])), (q18, .inl (cA19, 3, .inr (.inr (.inr (.inr (va_up (va_up (va_up (fun _ => none) (Int32.toNatClampNeg 0) (some q20)) (Int32.toNatClampNeg 1) (some q21)) (Int32.toNatClampNeg 2) (some q22))))))), (q20, .inr (0, [.ref q5, .int 0, .int 0, .int 0])), (q21, .inr (0, [.ref q5, .int 0, .int 0, .int 0])), (q22, .inr (0, [.ref q5, .int 0, .int 0, .int 0]))] H := hP
  have hD : va_D A [(h0, .inr (4, [.ref q5, .ref q7, .ref q10, .ref q11, .ref q12, .ref q13, .ref q14, .ref q15, .ref q16, .ref q17, .ref q18, .int 64, .int 0, .int 0, .int 0])), (q5, .inl (cA6, 1200, .inl (fun _ => 0))), (q7, .inr (2, [.ref q8, .ref q9, .int 0])), (q8, .inr (0, [.ref q5, .int 0, .int 0, .int 0])), (q10, .inr (0, [.ref q5, .int 0, .int 0, .int 0])), (q11, .inr (0, [.ref q5, .int 0, .int 0, .int 0])), (q12, .inr (0, [.ref q5, .int 0, .int 0, .int 0])), (q13, .inr (0, [.ref q5, .int 0, .int 0, .int 0])), (q14, .inr (0, [.ref q5, .int 0, .int 0, .int 0])), (q15, .inr (0, [.ref q5, .int 0, .int 0, .int 0])), (q18, .inl (cA19, 3, .inr (.inr (.inr (.inr (va_up (va_up (va_up (fun _ => none) (Int32.toNatClampNeg 0) (some q20)) (Int32.toNatClampNeg 1) (some q21)) (Int32.toNatClampNeg 2) (some q22))))))), (q20, .inr (0, [.ref q5, .int 0, .int 0, .int 0])), (q21, .inr (0, [.ref q5, .int 0, .int 0, .int 0])), (q22, .inr (0, [.ref q5, .int 0, .int 0, .int 0]))] := hD
  refine W.widen (k := 18) (n := 1263) (Nat.le_of_ble_eq_true rfl) (Nat.le_of_ble_eq_true rfl) ?_
  have hP9 := hP.sub (ws' := [(h0, .inr (4, [.ref q5, .ref q7, .ref q10, .ref q11, .ref q12, .ref q13, .ref q14, .ref q15, .ref q16, .ref q17, .ref q18, .int 64, .int 0, .int 0, .int 0])), (q5, .inl (cA6, 1200, .inl (fun _ => 0))), (q7, .inr (2, [.ref q8, .ref q9, .int 0])), (q8, .inr (0, [.ref q5, .int 0, .int 0, .int 0]))]) [0, 1, 2, 3] rfl
  have hD9 := hD.sub (ws' := [(h0, .inr (4, [.ref q5, .ref q7, .ref q10, .ref q11, .ref q12, .ref q13, .ref q14, .ref q15, .ref q16, .ref q17, .ref q18, .int 64, .int 0, .int 0, .int 0])), (q5, .inl (cA6, 1200, .inl (fun _ => 0))), (q7, .inr (2, [.ref q8, .ref q9, .int 0])), (q8, .inr (0, [.ref q5, .int 0, .int 0, .int 0]))]) [0, 1, 2, 3] (by decide) rfl
  have hK9 := hK.sub (tys' := [(cA6, .int)]) [0] rfl
  exact W.vret hx hb hr (fun t ht hW => ⟨⟨(), rfl, trivial, q5, q7, q10, q11, q12, q13, q14, q15, q16, q17, q18, q8, q9, cA6, by rw [ht]; exact hP9, va_K.moved hW.alike hK9, hD9⟩, hS.F ht⟩) hS.2.2 d_FO_init_219
set_option maxHeartbeats 4000000 in
set_option maxRecDepth 100000 in
/-- GlyphLines$Move.<init> -/
theorem c_MO_init (l : Launch) (dC : Nat → ClassId) (dI : Nat → Nat → Nat) (h0 : Nat) (sz : Nat) : Met l y_MO_init s_MO_init ({ frames := 8, cells := 0, slots := 0, locals := 200 }) (va_Pc [.ref h0] (fun U => U.heap.size = sz ∧ va_P (dC, dI) cls_ [(h0, .inr (5, [.int 0, .int 0, .int 0, .int 0, .int 0, .int 0]))] U.heap ∧ va_K (dC, dI) cls_ [] U ∧ va_D (fun _ => True) [(h0, .inr (5, [.int 0, .int 0, .int 0, .int 0, .int 0, .int 0]))])) (va_Qv (fun _ : Unit => True) (fun (_ : Unit) (t : State) => True) (va_A [(h0, .inr (5, [.int 0, .int 0, .int 0, .int 0, .int 0, .int 0]))] sz)) 0 0 (va_A [(h0, .inr (5, [.int 0, .int 0, .int 0, .int 0, .int 0, .int 0]))] sz) := by
  refine Met.ofW (cc := b_MO_init) (maxL := 1) (ret := none) (by decide) rfl ?_
  intro p e s m args below meth c s₁ B hml hv
  obtain ⟨rfl, hsz, hP, hK, hD0⟩ := hv
  have hx := B.exec
  have hb := B.bytes
  have hr := B.returns
  have hts := atoms_spec (ws := s_MO_init) B.pre
  have hown : s.vm.findClass R_MO = some m.cls := findClass_of_methodNamed B.named
  have hlocks := B.notSynchronized
  have hin : meth.name = "<init>" := (name_of_methodNamed B.named B.method).1
  subst hsz
  have hD := hD0.self (sz := s.heap.size)
  generalize hAe : va_A [(h0, .inr (5, [.int 0, .int 0, .int 0, .int 0, .int 0, .int 0]))] s.heap.size = A at hD ⊢
  have hA : ∀ q : Nat, s.heap.size ≤ q → A q := fun q h => by rw [← hAe]; exact Or.inr h
  have hS : va_S A s.heap s.heap [] := va_S.rf
  have hP : va_P (dC, dI) cls_ [(h0, .inr (5, [.int 0, .int 0, .int 0, .int 0, .int 0, .int 0]))] s.heap := hP
  have hl := lv_entry ([.ref h0]) (n := 1) (Nat.le_of_ble_eq_true rfl)
  rw [lg_entry_eq]
  generalize (lg_sl ([.ref h0]) ++ List.replicate (1 - (lg_sl ([.ref h0])).length) Slot.unset).toArray = ls at hl ⊢
  have hl : lv_has ls 1 [(0, .ref h0)] := hl
  refine lv_aload_n hx hb d_MO_init_0 rfl (lv_at hl 0 rfl) ?_
  refine W.objInit hx hb hown (hts _ (List.mem_cons_of_mem _ w_177)) (hts _ (List.mem_cons_of_mem _ w_28)) (hts _ (List.mem_cons_of_mem _ w_29)) rfl (by rw [hml]; exact hl.1) rfl d_MO_init_1 (Nat.le_of_ble_eq_true rfl) (Nat.le_of_ble_eq_true rfl) ?_
  refine W.eq (g2 := F0 m 4 ls []) rfl ?_
  refine lv_aload_n hx hb d_MO_init_4 rfl (lv_at hl 0 rfl) ?_
  refine lv_iconst (v := 0) hx hb d_MO_init_5 (by decide) ?_
  refine va_put (D := (dC, dI)) (ci := 5) (v := .int 0) (ty := .int) (C := R_MO) (T := F_MO) (N := 6) hx hb hts in_MO t_MO t_MO_ok n_MO hown hK hP hD hS 0 rfl rfl 0 (by decide) (hts _ (List.mem_cons_of_mem _ w_178)) (fun _ h9 => h9) rfl  (by decide +kernel) rfl rfl (Nat.le_of_ble_eq_true rfl) d_MO_init_6 (fun H locs hP hD hS => ?_)
  have hP : va_P (dC, dI) cls_ [(h0, .inr (5, [.int 0, .int 0, .int 0, .int 0, .int 0, .int 0]))] H := hP
  have hD : va_D A [(h0, .inr (5, [.int 0, .int 0, .int 0, .int 0, .int 0, .int 0]))] := hD
  refine lv_aload_n hx hb d_MO_init_9 rfl (lv_at hl 0 rfl) ?_
  refine lv_iconst (v := 0) hx hb d_MO_init_10 (by decide) ?_
  refine va_put (D := (dC, dI)) (ci := 5) (v := .int 0) (ty := .int) (C := R_MO) (T := F_MO) (N := 6) hx hb hts in_MO t_MO t_MO_ok n_MO hown hK hP hD hS 0 rfl rfl 1 (by decide) (hts _ (List.mem_cons_of_mem _ w_179)) (fun _ h9 => h9) rfl  (by decide +kernel) rfl rfl (Nat.le_of_ble_eq_true rfl) d_MO_init_11 (fun H locs hP hD hS => ?_)
  have hP : va_P (dC, dI) cls_ [(h0, .inr (5, [.int 0, .int 0, .int 0, .int 0, .int 0, .int 0]))] H := hP
  have hD : va_D A [(h0, .inr (5, [.int 0, .int 0, .int 0, .int 0, .int 0, .int 0]))] := hD
  refine lv_aload_n hx hb d_MO_init_14 rfl (lv_at hl 0 rfl) ?_
  refine lv_iconst (v := 0) hx hb d_MO_init_15 (by decide) ?_
  refine va_put (D := (dC, dI)) (ci := 5) (v := .int 0) (ty := .int) (C := R_MO) (T := F_MO) (N := 6) hx hb hts in_MO t_MO t_MO_ok n_MO hown hK hP hD hS 0 rfl rfl 2 (by decide) (hts _ (List.mem_cons_of_mem _ w_180)) (fun _ h9 => h9) rfl  (by decide +kernel) rfl rfl (Nat.le_of_ble_eq_true rfl) d_MO_init_16 (fun H locs hP hD hS => ?_)
  have hP : va_P (dC, dI) cls_ [(h0, .inr (5, [.int 0, .int 0, .int 0, .int 0, .int 0, .int 0]))] H := hP
  have hD : va_D A [(h0, .inr (5, [.int 0, .int 0, .int 0, .int 0, .int 0, .int 0]))] := hD
  refine lv_aload_n hx hb d_MO_init_19 rfl (lv_at hl 0 rfl) ?_
  refine lv_iconst (v := 0) hx hb d_MO_init_20 (by decide) ?_
  refine va_put (D := (dC, dI)) (ci := 5) (v := .int 0) (ty := .int) (C := R_MO) (T := F_MO) (N := 6) hx hb hts in_MO t_MO t_MO_ok n_MO hown hK hP hD hS 0 rfl rfl 3 (by decide) (hts _ (List.mem_cons_of_mem _ w_181)) (fun _ h9 => h9) rfl  (by decide +kernel) rfl rfl (Nat.le_of_ble_eq_true rfl) d_MO_init_21 (fun H locs hP hD hS => ?_)
  have hP : va_P (dC, dI) cls_ [(h0, .inr (5, [.int 0, .int 0, .int 0, .int 0, .int 0, .int 0]))] H := hP
  have hD : va_D A [(h0, .inr (5, [.int 0, .int 0, .int 0, .int 0, .int 0, .int 0]))] := hD
  refine lv_aload_n hx hb d_MO_init_24 rfl (lv_at hl 0 rfl) ?_
  refine lv_iconst (v := 0) hx hb d_MO_init_25 (by decide) ?_
  refine va_put (D := (dC, dI)) (ci := 5) (v := .int 0) (ty := .int) (C := R_MO) (T := F_MO) (N := 6) hx hb hts in_MO t_MO t_MO_ok n_MO hown hK hP hD hS 0 rfl rfl 4 (by decide) (hts _ (List.mem_cons_of_mem _ w_182)) (fun _ h9 => h9) rfl  (by decide +kernel) rfl rfl (Nat.le_of_ble_eq_true rfl) d_MO_init_26 (fun H locs hP hD hS => ?_)
  have hP : va_P (dC, dI) cls_ [(h0, .inr (5, [.int 0, .int 0, .int 0, .int 0, .int 0, .int 0]))] H := hP
  have hD : va_D A [(h0, .inr (5, [.int 0, .int 0, .int 0, .int 0, .int 0, .int 0]))] := hD
  refine lv_aload_n hx hb d_MO_init_29 rfl (lv_at hl 0 rfl) ?_
  refine lv_iconst (v := 0) hx hb d_MO_init_30 (by decide) ?_
  refine va_put (D := (dC, dI)) (ci := 5) (v := .int 0) (ty := .int) (C := R_MO) (T := F_MO) (N := 6) hx hb hts in_MO t_MO t_MO_ok n_MO hown hK hP hD hS 0 rfl rfl 5 (by decide) (hts _ (List.mem_cons_of_mem _ w_183)) (fun _ h9 => h9) rfl  (by decide +kernel) rfl rfl (Nat.le_of_ble_eq_true rfl) d_MO_init_31 (fun H locs hP hD hS => ?_)
  have hP : va_P (dC, dI) cls_ [(h0, .inr (5, [.int 0, .int 0, .int 0, .int 0, .int 0, .int 0]))] H := hP
  have hD : va_D A [(h0, .inr (5, [.int 0, .int 0, .int 0, .int 0, .int 0, .int 0]))] := hD
  refine W.widen (k := 0) (n := 0) (Nat.le_of_ble_eq_true rfl) (Nat.le_of_ble_eq_true rfl) ?_
  exact W.vret hx hb hr (fun t ht hW => ⟨⟨(), rfl, trivial, trivial⟩, hS.F ht⟩) hS.2.2 d_MO_init_34
set_option maxHeartbeats 4000000 in
set_option maxRecDepth 100000 in
/-- GlyphLines$Outline.<init> -/
theorem c_OU_init (l : Launch) (dC : Nat → ClassId) (dI : Nat → Nat → Nat) (h0 : Nat) (sz : Nat) : Met l y_OU_init s_OU_init ({ frames := 10, cells := 6, slots := 286, locals := 300 }) (va_Pc [.ref h0] (fun U => U.heap.size = sz ∧ va_P (dC, dI) cls_ [(h0, .inr (6, [.null, .null, .null, .null, .null, .null, .int 0, .int 0]))] U.heap ∧ va_K (dC, dI) cls_ [] U ∧ va_D (fun _ => True) [(h0, .inr (6, [.null, .null, .null, .null, .null, .null, .int 0, .int 0]))])) (va_Qv (fun _ : Unit => True) (fun (_ : Unit) (t : State) => True) (va_A [(h0, .inr (6, [.null, .null, .null, .null, .null, .null, .int 0, .int 0]))] sz)) 6 286 (va_A [(h0, .inr (6, [.null, .null, .null, .null, .null, .null, .int 0, .int 0]))] sz) := by
  refine Met.ofW (cc := b_OU_init) (maxL := 1) (ret := none) (by decide) rfl ?_
  intro p e s m args below meth c s₁ B hml hv
  obtain ⟨rfl, hsz, hP, hK, hD0⟩ := hv
  have hx := B.exec
  have hb := B.bytes
  have hr := B.returns
  have hts := atoms_spec (ws := s_OU_init) B.pre
  have hown : s.vm.findClass R_OU = some m.cls := findClass_of_methodNamed B.named
  have hlocks := B.notSynchronized
  have hin : meth.name = "<init>" := (name_of_methodNamed B.named B.method).1
  subst hsz
  have hD := hD0.self (sz := s.heap.size)
  generalize hAe : va_A [(h0, .inr (6, [.null, .null, .null, .null, .null, .null, .int 0, .int 0]))] s.heap.size = A at hD ⊢
  have hA : ∀ q : Nat, s.heap.size ≤ q → A q := fun q h => by rw [← hAe]; exact Or.inr h
  have hS : va_S A s.heap s.heap [] := va_S.rf
  have hP : va_P (dC, dI) cls_ [(h0, .inr (6, [.null, .null, .null, .null, .null, .null, .int 0, .int 0]))] s.heap := hP
  have hl := lv_entry ([.ref h0]) (n := 1) (Nat.le_of_ble_eq_true rfl)
  rw [lg_entry_eq]
  generalize (lg_sl ([.ref h0]) ++ List.replicate (1 - (lg_sl ([.ref h0])).length) Slot.unset).toArray = ls at hl ⊢
  have hl : lv_has ls 1 [(0, .ref h0)] := hl
  refine lv_aload_n hx hb d_OU_init_0 rfl (lv_at hl 0 rfl) ?_
  refine W.objInit hx hb hown (hts _ (List.mem_cons_of_mem _ w_171)) (hts _ (List.mem_cons_of_mem _ w_28)) (hts _ (List.mem_cons_of_mem _ w_29)) rfl (by rw [hml]; exact hl.1) rfl d_OU_init_1 (Nat.le_of_ble_eq_true rfl) (Nat.le_of_ble_eq_true rfl) ?_
  refine W.eq (g2 := F0 m 4 ls []) rfl ?_
  refine lv_aload_n hx hb d_OU_init_4 rfl (lv_at hl 0 rfl) ?_
  refine lv_bipush (v := 64) hx hb d_OU_init_5 (by decide) ?_
  refine va_newa (a0 := (64, .inl (fun _ => 0))) (ty := .int) (N' := 64) hx hb (hts _ (List.mem_cons_of_mem _ w_68)) rfl hK hP hD hS hA (fun _ => rfl) (by decide +kernel) (by decide +kernel) (by decide +kernel) (Nat.le_of_ble_eq_true rfl) (Nat.le_of_ble_eq_true rfl) d_OU_init_7 (fun q23 cA24 H hK hP hD hS => ?_)
  have hP : va_P (dC, dI) cls_ [(h0, .inr (6, [.null, .null, .null, .null, .null, .null, .int 0, .int 0])), (q23, .inl (cA24, 64, .inl (fun _ => 0)))] H := hP
  have hD : va_D A [(h0, .inr (6, [.null, .null, .null, .null, .null, .null, .int 0, .int 0])), (q23, .inl (cA24, 64, .inl (fun _ => 0)))] := hD
  have hK : va_K (dC, dI) cls_ [(cA24, .int)] s := hK
  refine va_putF (D := (dC, dI)) (ci := 6) (v := .ref q23) (ty := .array .int) (C := R_OU) (T := F_OU) (N := 8) hx hb hts in_OU t_OU t_OU_ok n_OU hown hK hP hD hS 0 rfl rfl 0 (by decide) (hts _ (List.mem_cons_of_mem _ w_198)) (fun _ h9 => h9) rfl hin rfl (by decide +kernel) rfl rfl (Nat.le_of_ble_eq_true rfl) d_OU_init_9 (fun H locs hP hD hS => ?_)
  have hP : va_P (dC, dI) cls_ [(h0, .inr (6, [.ref q23, .null, .null, .null, .null, .null, .int 0, .int 0])), (q23, .inl (cA24, 64, .inl (fun _ => 0)))] H := hP
  have hD : va_D A [(h0, .inr (6, [.ref q23, .null, .null, .null, .null, .null, .int 0, .int 0])), (q23, .inl (cA24, 64, .inl (fun _ => 0)))] := hD
  refine lv_aload_n hx hb d_OU_init_12 rfl (lv_at hl 0 rfl) ?_
  refine lv_bipush (v := 64) hx hb d_OU_init_13 (by decide) ?_
  refine va_newa (a0 := (64, .inl (fun _ => 0))) (ty := .int) (N' := 64) hx hb (hts _ (List.mem_cons_of_mem _ w_68)) rfl hK hP hD hS hA (fun _ => rfl) (by decide +kernel) (by decide +kernel) (by decide +kernel) (Nat.le_of_ble_eq_true rfl) (Nat.le_of_ble_eq_true rfl) d_OU_init_15 (fun q25 cA26 H hK hP hD hS => ?_)
  have hP : va_P (dC, dI) cls_ [(h0, .inr (6, [.ref q23, .null, .null, .null, .null, .null, .int 0, .int 0])), (q23, .inl (cA24, 64, .inl (fun _ => 0))), (q25, .inl (cA26, 64, .inl (fun _ => 0)))] H := hP
  have hD : va_D A [(h0, .inr (6, [.ref q23, .null, .null, .null, .null, .null, .int 0, .int 0])), (q23, .inl (cA24, 64, .inl (fun _ => 0))), (q25, .inl (cA26, 64, .inl (fun _ => 0)))] := hD
  have hK : va_K (dC, dI) cls_ [(cA24, .int), (cA26, .int)] s := hK
  refine va_putF (D := (dC, dI)) (ci := 6) (v := .ref q25) (ty := .array .int) (C := R_OU) (T := F_OU) (N := 8) hx hb hts in_OU t_OU t_OU_ok n_OU hown hK hP hD hS 0 rfl rfl 1 (by decide) (hts _ (List.mem_cons_of_mem _ w_201)) (fun _ h9 => h9) rfl hin rfl (by decide +kernel) rfl rfl (Nat.le_of_ble_eq_true rfl) d_OU_init_17 (fun H locs hP hD hS => ?_)
  have hP : va_P (dC, dI) cls_ [(h0, .inr (6, [.ref q23, .ref q25, .null, .null, .null, .null, .int 0, .int 0])), (q23, .inl (cA24, 64, .inl (fun _ => 0))), (q25, .inl (cA26, 64, .inl (fun _ => 0)))] H := hP
  have hD : va_D A [(h0, .inr (6, [.ref q23, .ref q25, .null, .null, .null, .null, .int 0, .int 0])), (q23, .inl (cA24, 64, .inl (fun _ => 0))), (q25, .inl (cA26, 64, .inl (fun _ => 0)))] := hD
  refine lv_aload_n hx hb d_OU_init_20 rfl (lv_at hl 0 rfl) ?_
  refine lv_bipush (v := 64) hx hb d_OU_init_21 (by decide) ?_
  refine va_newa (a0 := (64, .inl (fun _ => 0))) (ty := .boolean) (N' := 64) hx hb (hts _ (List.mem_cons_of_mem _ w_197)) rfl hK hP hD hS hA (fun _ => rfl) (by decide +kernel) (by decide +kernel) (by decide +kernel) (Nat.le_of_ble_eq_true rfl) (Nat.le_of_ble_eq_true rfl) d_OU_init_23 (fun q27 cA28 H hK hP hD hS => ?_)
  have hP : va_P (dC, dI) cls_ [(h0, .inr (6, [.ref q23, .ref q25, .null, .null, .null, .null, .int 0, .int 0])), (q23, .inl (cA24, 64, .inl (fun _ => 0))), (q25, .inl (cA26, 64, .inl (fun _ => 0))), (q27, .inl (cA28, 64, .inl (fun _ => 0)))] H := hP
  have hD : va_D A [(h0, .inr (6, [.ref q23, .ref q25, .null, .null, .null, .null, .int 0, .int 0])), (q23, .inl (cA24, 64, .inl (fun _ => 0))), (q25, .inl (cA26, 64, .inl (fun _ => 0))), (q27, .inl (cA28, 64, .inl (fun _ => 0)))] := hD
  have hK : va_K (dC, dI) cls_ [(cA24, .int), (cA26, .int), (cA28, .boolean)] s := hK
  refine va_putF (D := (dC, dI)) (ci := 6) (v := .ref q27) (ty := .array .boolean) (C := R_OU) (T := F_OU) (N := 8) hx hb hts in_OU t_OU t_OU_ok n_OU hown hK hP hD hS 0 rfl rfl 2 (by decide) (hts _ (List.mem_cons_of_mem _ w_204)) (fun _ h9 => h9) rfl hin rfl (by decide +kernel) rfl rfl (Nat.le_of_ble_eq_true rfl) d_OU_init_25 (fun H locs hP hD hS => ?_)
  have hP : va_P (dC, dI) cls_ [(h0, .inr (6, [.ref q23, .ref q25, .ref q27, .null, .null, .null, .int 0, .int 0])), (q23, .inl (cA24, 64, .inl (fun _ => 0))), (q25, .inl (cA26, 64, .inl (fun _ => 0))), (q27, .inl (cA28, 64, .inl (fun _ => 0)))] H := hP
  have hD : va_D A [(h0, .inr (6, [.ref q23, .ref q25, .ref q27, .null, .null, .null, .int 0, .int 0])), (q23, .inl (cA24, 64, .inl (fun _ => 0))), (q25, .inl (cA26, 64, .inl (fun _ => 0))), (q27, .inl (cA28, 64, .inl (fun _ => 0)))] := hD
  refine lv_aload_n hx hb d_OU_init_28 rfl (lv_at hl 0 rfl) ?_
  refine lv_bipush (v := 64) hx hb d_OU_init_29 (by decide) ?_
  refine va_newa (a0 := (64, .inl (fun _ => 0))) (ty := .int) (N' := 64) hx hb (hts _ (List.mem_cons_of_mem _ w_68)) rfl hK hP hD hS hA (fun _ => rfl) (by decide +kernel) (by decide +kernel) (by decide +kernel) (Nat.le_of_ble_eq_true rfl) (Nat.le_of_ble_eq_true rfl) d_OU_init_31 (fun q29 cA30 H hK hP hD hS => ?_)
  have hP : va_P (dC, dI) cls_ [(h0, .inr (6, [.ref q23, .ref q25, .ref q27, .null, .null, .null, .int 0, .int 0])), (q23, .inl (cA24, 64, .inl (fun _ => 0))), (q25, .inl (cA26, 64, .inl (fun _ => 0))), (q27, .inl (cA28, 64, .inl (fun _ => 0))), (q29, .inl (cA30, 64, .inl (fun _ => 0)))] H := hP
  have hD : va_D A [(h0, .inr (6, [.ref q23, .ref q25, .ref q27, .null, .null, .null, .int 0, .int 0])), (q23, .inl (cA24, 64, .inl (fun _ => 0))), (q25, .inl (cA26, 64, .inl (fun _ => 0))), (q27, .inl (cA28, 64, .inl (fun _ => 0))), (q29, .inl (cA30, 64, .inl (fun _ => 0)))] := hD
  have hK : va_K (dC, dI) cls_ [(cA24, .int), (cA26, .int), (cA28, .boolean), (cA30, .int)] s := hK
  refine va_putF (D := (dC, dI)) (ci := 6) (v := .ref q29) (ty := .array .int) (C := R_OU) (T := F_OU) (N := 8) hx hb hts in_OU t_OU t_OU_ok n_OU hown hK hP hD hS 0 rfl rfl 3 (by decide) (hts _ (List.mem_cons_of_mem _ w_207)) (fun _ h9 => h9) rfl hin rfl (by decide +kernel) rfl rfl (Nat.le_of_ble_eq_true rfl) d_OU_init_33 (fun H locs hP hD hS => ?_)
  have hP : va_P (dC, dI) cls_ [(h0, .inr (6, [.ref q23, .ref q25, .ref q27, .ref q29, .null, .null, .int 0, .int 0])), (q23, .inl (cA24, 64, .inl (fun _ => 0))), (q25, .inl (cA26, 64, .inl (fun _ => 0))), (q27, .inl (cA28, 64, .inl (fun _ => 0))), (q29, .inl (cA30, 64, .inl (fun _ => 0)))] H := hP
  have hD : va_D A [(h0, .inr (6, [.ref q23, .ref q25, .ref q27, .ref q29, .null, .null, .int 0, .int 0])), (q23, .inl (cA24, 64, .inl (fun _ => 0))), (q25, .inl (cA26, 64, .inl (fun _ => 0))), (q27, .inl (cA28, 64, .inl (fun _ => 0))), (q29, .inl (cA30, 64, .inl (fun _ => 0)))] := hD
  refine lv_aload_n hx hb d_OU_init_36 rfl (lv_at hl 0 rfl) ?_
  refine lv_bipush (v := 24) hx hb d_OU_init_37 (by decide) ?_
  refine va_newa (a0 := (24, .inl (fun _ => 0))) (ty := .int) (N' := 24) hx hb (hts _ (List.mem_cons_of_mem _ w_68)) rfl hK hP hD hS hA (fun _ => rfl) (by decide +kernel) (by decide +kernel) (by decide +kernel) (Nat.le_of_ble_eq_true rfl) (Nat.le_of_ble_eq_true rfl) d_OU_init_39 (fun q31 cA32 H hK hP hD hS => ?_)
  have hP : va_P (dC, dI) cls_ [(h0, .inr (6, [.ref q23, .ref q25, .ref q27, .ref q29, .null, .null, .int 0, .int 0])), (q23, .inl (cA24, 64, .inl (fun _ => 0))), (q25, .inl (cA26, 64, .inl (fun _ => 0))), (q27, .inl (cA28, 64, .inl (fun _ => 0))), (q29, .inl (cA30, 64, .inl (fun _ => 0))), (q31, .inl (cA32, 24, .inl (fun _ => 0)))] H := hP
  have hD : va_D A [(h0, .inr (6, [.ref q23, .ref q25, .ref q27, .ref q29, .null, .null, .int 0, .int 0])), (q23, .inl (cA24, 64, .inl (fun _ => 0))), (q25, .inl (cA26, 64, .inl (fun _ => 0))), (q27, .inl (cA28, 64, .inl (fun _ => 0))), (q29, .inl (cA30, 64, .inl (fun _ => 0))), (q31, .inl (cA32, 24, .inl (fun _ => 0)))] := hD
  have hK : va_K (dC, dI) cls_ [(cA24, .int), (cA26, .int), (cA28, .boolean), (cA30, .int), (cA32, .int)] s := hK
  refine va_putF (D := (dC, dI)) (ci := 6) (v := .ref q31) (ty := .array .int) (C := R_OU) (T := F_OU) (N := 8) hx hb hts in_OU t_OU t_OU_ok n_OU hown hK hP hD hS 0 rfl rfl 4 (by decide) (hts _ (List.mem_cons_of_mem _ w_210)) (fun _ h9 => h9) rfl hin rfl (by decide +kernel) rfl rfl (Nat.le_of_ble_eq_true rfl) d_OU_init_41 (fun H locs hP hD hS => ?_)
  have hP : va_P (dC, dI) cls_ [(h0, .inr (6, [.ref q23, .ref q25, .ref q27, .ref q29, .ref q31, .null, .int 0, .int 0])), (q23, .inl (cA24, 64, .inl (fun _ => 0))), (q25, .inl (cA26, 64, .inl (fun _ => 0))), (q27, .inl (cA28, 64, .inl (fun _ => 0))), (q29, .inl (cA30, 64, .inl (fun _ => 0))), (q31, .inl (cA32, 24, .inl (fun _ => 0)))] H := hP
  have hD : va_D A [(h0, .inr (6, [.ref q23, .ref q25, .ref q27, .ref q29, .ref q31, .null, .int 0, .int 0])), (q23, .inl (cA24, 64, .inl (fun _ => 0))), (q25, .inl (cA26, 64, .inl (fun _ => 0))), (q27, .inl (cA28, 64, .inl (fun _ => 0))), (q29, .inl (cA30, 64, .inl (fun _ => 0))), (q31, .inl (cA32, 24, .inl (fun _ => 0)))] := hD
  refine lv_aload_n hx hb d_OU_init_44 rfl (lv_at hl 0 rfl) ?_
  refine va_new (ci := 5) (fs := [.int 0, .int 0, .int 0, .int 0, .int 0, .int 0]) (C := R_MO) (T := F_MO) (N := 6) hx hb hts in_MO t_MO t_MO_ok hown (hts _ (List.mem_cons_of_mem _ w_172)) (hts _ (List.mem_cons_of_mem _ w_173)) (hts _ (List.mem_cons_of_mem _ w_8)) hK hP hD hS hA rfl (fun j hj => by rcases (show j = 0 ∨ j = 1 ∨ j = 2 ∨ j = 3 ∨ j = 4 ∨ j = 5 by omega) with rfl | rfl | rfl | rfl | rfl | rfl <;> rfl) (Nat.le_of_ble_eq_true rfl) (Nat.le_of_ble_eq_true rfl) d_OU_init_45 (fun q33 H hP hD hS => ?_)
  have hP : va_P (dC, dI) cls_ [(h0, .inr (6, [.ref q23, .ref q25, .ref q27, .ref q29, .ref q31, .null, .int 0, .int 0])), (q23, .inl (cA24, 64, .inl (fun _ => 0))), (q25, .inl (cA26, 64, .inl (fun _ => 0))), (q27, .inl (cA28, 64, .inl (fun _ => 0))), (q29, .inl (cA30, 64, .inl (fun _ => 0))), (q31, .inl (cA32, 24, .inl (fun _ => 0))), (q33, .inr (5, [.int 0, .int 0, .int 0, .int 0, .int 0, .int 0]))] H := hP
  have hD : va_D A [(h0, .inr (6, [.ref q23, .ref q25, .ref q27, .ref q29, .ref q31, .null, .int 0, .int 0])), (q23, .inl (cA24, 64, .inl (fun _ => 0))), (q25, .inl (cA26, 64, .inl (fun _ => 0))), (q27, .inl (cA28, 64, .inl (fun _ => 0))), (q29, .inl (cA30, 64, .inl (fun _ => 0))), (q31, .inl (cA32, 24, .inl (fun _ => 0))), (q33, .inr (5, [.int 0, .int 0, .int 0, .int 0, .int 0, .int 0]))] := hD
  refine lv_dup hx hb d_OU_init_48 rfl ?_
  have hPc := hP.sub (ws' := [(q33, .inr (5, [.int 0, .int 0, .int 0, .int 0, .int 0, .int 0]))]) [6] rfl
  have hDc := hD.sub (ws' := [(q33, .inr (5, [.int 0, .int 0, .int 0, .int 0, .int 0, .int 0]))]) [6] (by decide) rfl
  have hKc := hK.sub (tys' := []) [] rfl
  have hFc := va_free (wc := [(q33, .inr (5, [.int 0, .int 0, .int 0, .int 0, .int 0, .int 0]))]) hD hS hA [6] rfl
  refine va_callv (va_runI (As := []) (rest := [.ref q33, .ref h0]) ⟨hx, hb, hml, hown, hts⟩ (c_MO_init l dC dI q33 H.size) (cwI 0 hts (tw_in w_176) rfl rfl rfl (hts _ (List.mem_cons_of_mem _ w_8)) (hts _ (List.mem_cons_of_mem _ w_174)) (hts _ (List.mem_cons_of_mem _ w_175)) rfl (by decide +kernel) ⟨Nat.le_of_ble_eq_true rfl, Nat.le_of_ble_eq_true rfl⟩) ⟨fun a U g mk q => by obtain ⟨q0, q1, qP, qK, qD⟩ := q; exact ⟨q0, q1, qP, va_K.moved (u := U) (U := U.calling g mk a) (Vm.Alike.refl U.vm) qK, qD⟩, fun U hU hW => ⟨rfl, by rw [hU], by rw [hU]; exact hPc, va_K.moved hW.alike hKc, hDc.weaken (fun _ _ _ _ => trivial)⟩⟩ rfl rfl hl.1 rfl (lv_room (Nat.le_of_ble_eq_true rfl)) d_OU_init_49 ⟨Nat.le_of_ble_eq_true rfl, Nat.le_of_ble_eq_true rfl⟩) hS (fun q _ h => hFc q h) hFc (fun u t H1 locs ht hvm hw hB hz1 hk1 hS => ?_)
  have hP1 : va_P (dC, dI) cls_ [] H1 := fun k q h => by simp at h
  have hD1 : va_D (va_A [(q33, .inr (5, [.int 0, .int 0, .int 0, .int 0, .int 0, .int 0]))] H.size) [] := ⟨fun i j p q h => by simp at h, fun k q h => by simp at h⟩
  obtain ⟨hP, hD⟩ := va_join (wr := [(h0, .inr (6, [.ref q23, .ref q25, .ref q27, .ref q29, .ref q31, .null, .int 0, .int 0])), (q23, .inl (cA24, 64, .inl (fun _ => 0))), (q25, .inl (cA26, 64, .inl (fun _ => 0))), (q27, .inl (cA28, 64, .inl (fun _ => 0))), (q29, .inl (cA30, 64, .inl (fun _ => 0))), (q31, .inl (cA32, 24, .inl (fun _ => 0)))]) (w1 := []) hP hD [6] [0, 1, 2, 3, 4, 5] rfl rfl (by decide) (by decide) hk1 hFc hP1 hD1
  generalize H1 = H at hP hS ⊢
  have hP : va_P (dC, dI) cls_ [(h0, .inr (6, [.ref q23, .ref q25, .ref q27, .ref q29, .ref q31, .null, .int 0, .int 0])), (q23, .inl (cA24, 64, .inl (fun _ => 0))), (q25, .inl (cA26, 64, .inl (fun _ => 0))), (q27, .inl (cA28, 64, .inl (fun _ => 0))), (q29, .inl (cA30, 64, .inl (fun _ => 0))), (q31, .inl (cA32, 24, .inl (fun _ => 0)))] H := hP
  have hD : va_D A [(h0, .inr (6, [.ref q23, .ref q25, .ref q27, .ref q29, .ref q31, .null, .int 0, .int 0])), (q23, .inl (cA24, 64, .inl (fun _ => 0))), (q25, .inl (cA26, 64, .inl (fun _ => 0))), (q27, .inl (cA28, 64, .inl (fun _ => 0))), (q29, .inl (cA30, 64, .inl (fun _ => 0))), (q31, .inl (cA32, 24, .inl (fun _ => 0)))] := hD
  refine va_putF (D := (dC, dI)) (ci := 6) (v := .ref q33) (ty := .object "GlyphLines$Move") (C := R_OU) (T := F_OU) (N := 8) hx hb hts in_OU t_OU t_OU_ok n_OU hown hK hP hD hS 0 rfl rfl 5 (by decide) (hts _ (List.mem_cons_of_mem _ w_211)) (fun _ h9 => h9) rfl hin rfl (by decide +kernel) rfl rfl (Nat.le_of_ble_eq_true rfl) d_OU_init_52 (fun H locs hP hD hS => ?_)
  have hP : va_P (dC, dI) cls_ [(h0, .inr (6, [.ref q23, .ref q25, .ref q27, .ref q29, .ref q31, .ref q33, .int 0, .int 0])), (q23, .inl (cA24, 64, .inl (fun _ => 0))), (q25, .inl (cA26, 64, .inl (fun _ => 0))), (q27, .inl (cA28, 64, .inl (fun _ => 0))), (q29, .inl (cA30, 64, .inl (fun _ => 0))), (q31, .inl (cA32, 24, .inl (fun _ => 0)))] H := hP
  have hD : va_D A [(h0, .inr (6, [.ref q23, .ref q25, .ref q27, .ref q29, .ref q31, .ref q33, .int 0, .int 0])), (q23, .inl (cA24, 64, .inl (fun _ => 0))), (q25, .inl (cA26, 64, .inl (fun _ => 0))), (q27, .inl (cA28, 64, .inl (fun _ => 0))), (q29, .inl (cA30, 64, .inl (fun _ => 0))), (q31, .inl (cA32, 24, .inl (fun _ => 0)))] := hD
  refine lv_aload_n hx hb d_OU_init_55 rfl (lv_at hl 0 rfl) ?_
  refine lv_iconst (v := 0) hx hb d_OU_init_56 (by decide) ?_
  refine va_put (D := (dC, dI)) (ci := 6) (v := .int 0) (ty := .int) (C := R_OU) (T := F_OU) (N := 8) hx hb hts in_OU t_OU t_OU_ok n_OU hown hK hP hD hS 0 rfl rfl 6 (by decide) (hts _ (List.mem_cons_of_mem _ w_212)) (fun _ h9 => h9) rfl  (by decide +kernel) rfl rfl (Nat.le_of_ble_eq_true rfl) d_OU_init_57 (fun H locs hP hD hS => ?_)
  have hP : va_P (dC, dI) cls_ [(h0, .inr (6, [.ref q23, .ref q25, .ref q27, .ref q29, .ref q31, .ref q33, .int 0, .int 0])), (q23, .inl (cA24, 64, .inl (fun _ => 0))), (q25, .inl (cA26, 64, .inl (fun _ => 0))), (q27, .inl (cA28, 64, .inl (fun _ => 0))), (q29, .inl (cA30, 64, .inl (fun _ => 0))), (q31, .inl (cA32, 24, .inl (fun _ => 0)))] H := hP
  have hD : va_D A [(h0, .inr (6, [.ref q23, .ref q25, .ref q27, .ref q29, .ref q31, .ref q33, .int 0, .int 0])), (q23, .inl (cA24, 64, .inl (fun _ => 0))), (q25, .inl (cA26, 64, .inl (fun _ => 0))), (q27, .inl (cA28, 64, .inl (fun _ => 0))), (q29, .inl (cA30, 64, .inl (fun _ => 0))), (q31, .inl (cA32, 24, .inl (fun _ => 0)))] := hD
  refine lv_aload_n hx hb d_OU_init_60 rfl (lv_at hl 0 rfl) ?_
  refine lv_iconst (v := 0) hx hb d_OU_init_61 (by decide) ?_
  refine va_put (D := (dC, dI)) (ci := 6) (v := .int 0) (ty := .int) (C := R_OU) (T := F_OU) (N := 8) hx hb hts in_OU t_OU t_OU_ok n_OU hown hK hP hD hS 0 rfl rfl 7 (by decide) (hts _ (List.mem_cons_of_mem _ w_215)) (fun _ h9 => h9) rfl  (by decide +kernel) rfl rfl (Nat.le_of_ble_eq_true rfl) d_OU_init_62 (fun H locs hP hD hS => ?_)
  have hP : va_P (dC, dI) cls_ [(h0, .inr (6, [.ref q23, .ref q25, .ref q27, .ref q29, .ref q31, .ref q33, .int 0, .int 0])), (q23, .inl (cA24, 64, .inl (fun _ => 0))), (q25, .inl (cA26, 64, .inl (fun _ => 0))), (q27, .inl (cA28, 64, .inl (fun _ => 0))), (q29, .inl (cA30, 64, .inl (fun _ => 0))), (q31, .inl (cA32, 24, .inl (fun _ => 0)))] H := hP
  have hD : va_D A [(h0, .inr (6, [.ref q23, .ref q25, .ref q27, .ref q29, .ref q31, .ref q33, .int 0, .int 0])), (q23, .inl (cA24, 64, .inl (fun _ => 0))), (q25, .inl (cA26, 64, .inl (fun _ => 0))), (q27, .inl (cA28, 64, .inl (fun _ => 0))), (q29, .inl (cA30, 64, .inl (fun _ => 0))), (q31, .inl (cA32, 24, .inl (fun _ => 0)))] := hD
  refine W.widen (k := 6) (n := 286) (Nat.le_of_ble_eq_true rfl) (Nat.le_of_ble_eq_true rfl) ?_
  exact W.vret hx hb hr (fun t ht hW => ⟨⟨(), rfl, trivial, trivial⟩, hS.F ht⟩) hS.2.2 d_OU_init_65
set_option maxHeartbeats 4000000 in
set_option maxRecDepth 100000 in
/-- GlyphLines$Picture.<init> -/
theorem c_PI_init (l : Launch) (dC : Nat → ClassId) (dI : Nat → Nat → Nat) (h0 : Nat) (sz : Nat) : Met l y_PI_init s_PI_init ({ frames := 10, cells := 2, slots := 1176, locals := 300 }) (va_Pc [.ref h0] (fun U => U.heap.size = sz ∧ va_P (dC, dI) cls_ [(h0, .inr (7, [.null, .null]))] U.heap ∧ va_K (dC, dI) cls_ [] U ∧ va_D (fun _ => True) [(h0, .inr (7, [.null, .null]))])) (va_Qv (fun _ : Unit => True) (fun (_ : Unit) (t : State) => ∃ q1 q2 cA, va_P (dC, dI) cls_ [(h0, .inr (7, [.ref q1, .ref q2])), (q1, .inl (cA, 24, .inr (.inl (fun _ => 0))))] t.heap ∧ va_K (dC, dI) cls_ [(cA, .long)] t ∧ va_D (va_A [(h0, .inr (7, [.null, .null]))] sz) [(h0, .inr (7, [.ref q1, .ref q2])), (q1, .inl (cA, 24, .inr (.inl (fun _ => 0))))]) (va_A [(h0, .inr (7, [.null, .null]))] sz)) 2 1176 (va_A [(h0, .inr (7, [.null, .null]))] sz) := by
  refine Met.ofW (cc := b_PI_init) (maxL := 1) (ret := none) (by decide) rfl ?_
  intro p e s m args below meth c s₁ B hml hv
  obtain ⟨rfl, hsz, hP, hK, hD0⟩ := hv
  have hx := B.exec
  have hb := B.bytes
  have hr := B.returns
  have hts := atoms_spec (ws := s_PI_init) B.pre
  have hown : s.vm.findClass R_PI = some m.cls := findClass_of_methodNamed B.named
  have hlocks := B.notSynchronized
  have hin : meth.name = "<init>" := (name_of_methodNamed B.named B.method).1
  subst hsz
  have hD := hD0.self (sz := s.heap.size)
  generalize hAe : va_A [(h0, .inr (7, [.null, .null]))] s.heap.size = A at hD ⊢
  have hA : ∀ q : Nat, s.heap.size ≤ q → A q := fun q h => by rw [← hAe]; exact Or.inr h
  have hS : va_S A s.heap s.heap [] := va_S.rf
  have hP : va_P (dC, dI) cls_ [(h0, .inr (7, [.null, .null]))] s.heap := hP
  have hl := lv_entry ([.ref h0]) (n := 1) (Nat.le_of_ble_eq_true rfl)
  rw [lg_entry_eq]
  generalize (lg_sl ([.ref h0]) ++ List.replicate (1 - (lg_sl ([.ref h0])).length) Slot.unset).toArray = ls at hl ⊢
  have hl : lv_has ls 1 [(0, .ref h0)] := hl
  refine lv_aload_n hx hb d_PI_init_0 rfl (lv_at hl 0 rfl) ?_
  refine W.objInit hx hb hown (hts _ (List.mem_cons_of_mem _ w_239)) (hts _ (List.mem_cons_of_mem _ w_28)) (hts _ (List.mem_cons_of_mem _ w_29)) rfl (by rw [hml]; exact hl.1) rfl d_PI_init_1 (Nat.le_of_ble_eq_true rfl) (Nat.le_of_ble_eq_true rfl) ?_
  refine W.eq (g2 := F0 m 4 ls []) rfl ?_
  refine lv_aload_n hx hb d_PI_init_4 rfl (lv_at hl 0 rfl) ?_
  refine lv_bipush (v := 24) hx hb d_PI_init_5 (by decide) ?_
  refine va_newa (a0 := (24, .inr (.inl (fun _ => 0)))) (ty := .long) (N' := 24) hx hb (hts _ (List.mem_cons_of_mem _ w_248)) rfl hK hP hD hS hA (fun _ => rfl) (by decide +kernel) (by decide +kernel) (by decide +kernel) (Nat.le_of_ble_eq_true rfl) (Nat.le_of_ble_eq_true rfl) d_PI_init_7 (fun q34 cA35 H hK hP hD hS => ?_)
  have hP : va_P (dC, dI) cls_ [(h0, .inr (7, [.null, .null])), (q34, .inl (cA35, 24, .inr (.inl (fun _ => 0))))] H := hP
  have hD : va_D A [(h0, .inr (7, [.null, .null])), (q34, .inl (cA35, 24, .inr (.inl (fun _ => 0))))] := hD
  have hK : va_K (dC, dI) cls_ [(cA35, .long)] s := hK
  refine va_putF (D := (dC, dI)) (ci := 7) (v := .ref q34) (ty := .array .long) (C := R_PI) (T := F_PI) (N := 2) hx hb hts in_PI t_PI t_PI_ok n_PI hown hK hP hD hS 0 rfl rfl 0 (by decide) (hts _ (List.mem_cons_of_mem _ w_240)) (fun _ h9 => h9) rfl hin rfl (by decide +kernel) rfl rfl (Nat.le_of_ble_eq_true rfl) d_PI_init_9 (fun H locs hP hD hS => ?_)
  have hP : va_P (dC, dI) cls_ [(h0, .inr (7, [.ref q34, .null])), (q34, .inl (cA35, 24, .inr (.inl (fun _ => 0))))] H := hP
  have hD : va_D A [(h0, .inr (7, [.ref q34, .null])), (q34, .inl (cA35, 24, .inr (.inl (fun _ => 0))))] := hD
  refine lv_aload_n hx hb d_PI_init_12 rfl (lv_at hl 0 rfl) ?_
  refine lv_sipush (v := 1152) hx hb d_PI_init_13 (by decide) ?_
  refine va_newa (a0 := (1152, .inl (fun _ => 0))) (ty := .int) (N' := 1152) hx hb (hts _ (List.mem_cons_of_mem _ w_68)) rfl hK hP hD hS hA (fun _ => rfl) (by decide +kernel) (by decide +kernel) (by decide +kernel) (Nat.le_of_ble_eq_true rfl) (Nat.le_of_ble_eq_true rfl) d_PI_init_16 (fun q36 cA37 H hK hP hD hS => ?_)
  have hP : va_P (dC, dI) cls_ [(h0, .inr (7, [.ref q34, .null])), (q34, .inl (cA35, 24, .inr (.inl (fun _ => 0)))), (q36, .inl (cA37, 1152, .inl (fun _ => 0)))] H := hP
  have hD : va_D A [(h0, .inr (7, [.ref q34, .null])), (q34, .inl (cA35, 24, .inr (.inl (fun _ => 0)))), (q36, .inl (cA37, 1152, .inl (fun _ => 0)))] := hD
  have hK : va_K (dC, dI) cls_ [(cA35, .long), (cA37, .int)] s := hK
  refine va_putF (D := (dC, dI)) (ci := 7) (v := .ref q36) (ty := .array .int) (C := R_PI) (T := F_PI) (N := 2) hx hb hts in_PI t_PI t_PI_ok n_PI hown hK hP hD hS 0 rfl rfl 1 (by decide) (hts _ (List.mem_cons_of_mem _ w_242)) (fun _ h9 => h9) rfl hin rfl (by decide +kernel) rfl rfl (Nat.le_of_ble_eq_true rfl) d_PI_init_18 (fun H locs hP hD hS => ?_)
  have hP : va_P (dC, dI) cls_ [(h0, .inr (7, [.ref q34, .ref q36])), (q34, .inl (cA35, 24, .inr (.inl (fun _ => 0)))), (q36, .inl (cA37, 1152, .inl (fun _ => 0)))] H := hP
  have hD : va_D A [(h0, .inr (7, [.ref q34, .ref q36])), (q34, .inl (cA35, 24, .inr (.inl (fun _ => 0)))), (q36, .inl (cA37, 1152, .inl (fun _ => 0)))] := hD
  refine W.widen (k := 2) (n := 1176) (Nat.le_of_ble_eq_true rfl) (Nat.le_of_ble_eq_true rfl) ?_
  have hP9 := hP.sub (ws' := [(h0, .inr (7, [.ref q34, .ref q36])), (q34, .inl (cA35, 24, .inr (.inl (fun _ => 0))))]) [0, 1] rfl
  have hD9 := hD.sub (ws' := [(h0, .inr (7, [.ref q34, .ref q36])), (q34, .inl (cA35, 24, .inr (.inl (fun _ => 0))))]) [0, 1] (by decide) rfl
  have hK9 := hK.sub (tys' := [(cA35, .long)]) [0] rfl
  exact W.vret hx hb hr (fun t ht hW => ⟨⟨(), rfl, trivial, q34, q36, cA35, by rw [ht]; exact hP9, va_K.moved hW.alike hK9, hD9⟩, hS.F ht⟩) hS.2.2 d_PI_init_21
set_option maxHeartbeats 4000000 in
set_option maxRecDepth 100000 in
/-- GlyphLines$Brush.<init> -/
theorem c_BR_init (l : Launch) (dC : Nat → ClassId) (dI : Nat → Nat → Nat) (h0 qp qo : Nat) (sz : Nat) : Met l y_BR_init s_BR_init ({ frames := 10, cells := 3, slots := 144, locals := 300 }) (va_Pc [.ref h0, .ref qp, .ref qo] (fun U => U.heap.size = sz ∧ va_P (dC, dI) cls_ [(h0, .inr (8, [.null, .null, .null, .null, .null, .int 0, .int 0, .int 0, .int 0, .int 0]))] U.heap ∧ va_K (dC, dI) cls_ [] U ∧ va_D (fun _ => True) [(h0, .inr (8, [.null, .null, .null, .null, .null, .int 0, .int 0, .int 0, .int 0, .int 0]))])) (va_Qv (fun _ : Unit => True) (fun (_ : Unit) (t : State) => True) (va_A [(h0, .inr (8, [.null, .null, .null, .null, .null, .int 0, .int 0, .int 0, .int 0, .int 0]))] sz)) 3 144 (va_A [(h0, .inr (8, [.null, .null, .null, .null, .null, .int 0, .int 0, .int 0, .int 0, .int 0]))] sz) := by
  refine Met.ofW (cc := b_BR_init) (maxL := 3) (ret := none) (by decide) rfl ?_
  intro p e s m args below meth c s₁ B hml hv
  obtain ⟨rfl, hsz, hP, hK, hD0⟩ := hv
  have hx := B.exec
  have hb := B.bytes
  have hr := B.returns
  have hts := atoms_spec (ws := s_BR_init) B.pre
  have hown : s.vm.findClass R_BR = some m.cls := findClass_of_methodNamed B.named
  have hlocks := B.notSynchronized
  have hin : meth.name = "<init>" := (name_of_methodNamed B.named B.method).1
  subst hsz
  have hD := hD0.self (sz := s.heap.size)
  generalize hAe : va_A [(h0, .inr (8, [.null, .null, .null, .null, .null, .int 0, .int 0, .int 0, .int 0, .int 0]))] s.heap.size = A at hD ⊢
  have hA : ∀ q : Nat, s.heap.size ≤ q → A q := fun q h => by rw [← hAe]; exact Or.inr h
  have hS : va_S A s.heap s.heap [] := va_S.rf
  have hP : va_P (dC, dI) cls_ [(h0, .inr (8, [.null, .null, .null, .null, .null, .int 0, .int 0, .int 0, .int 0, .int 0]))] s.heap := hP
  have hl := lv_entry ([.ref h0, .ref qp, .ref qo]) (n := 3) (Nat.le_of_ble_eq_true rfl)
  rw [lg_entry_eq]
  generalize (lg_sl ([.ref h0, .ref qp, .ref qo]) ++ List.replicate (3 - (lg_sl ([.ref h0, .ref qp, .ref qo])).length) Slot.unset).toArray = ls at hl ⊢
  have hl : lv_has ls 3 [(0, .ref h0), (1, .ref qp), (2, .ref qo)] := hl
  refine lv_aload_n hx hb d_BR_init_0 rfl (lv_at hl 0 rfl) ?_
  refine W.objInit hx hb hown (hts _ (List.mem_cons_of_mem _ w_254)) (hts _ (List.mem_cons_of_mem _ w_28)) (hts _ (List.mem_cons_of_mem _ w_29)) rfl (by rw [hml]; exact hl.1) rfl d_BR_init_1 (Nat.le_of_ble_eq_true rfl) (Nat.le_of_ble_eq_true rfl) ?_
  refine W.eq (g2 := F0 m 4 ls []) rfl ?_
  refine lv_aload_n hx hb d_BR_init_4 rfl (lv_at hl 0 rfl) ?_
  refine lv_bipush (v := 48) hx hb d_BR_init_5 (by decide) ?_
  refine va_newa (a0 := (48, .inl (fun _ => 0))) (ty := .int) (N' := 48) hx hb (hts _ (List.mem_cons_of_mem _ w_68)) rfl hK hP hD hS hA (fun _ => rfl) (by decide +kernel) (by decide +kernel) (by decide +kernel) (Nat.le_of_ble_eq_true rfl) (Nat.le_of_ble_eq_true rfl) d_BR_init_7 (fun q38 cA39 H hK hP hD hS => ?_)
  have hP : va_P (dC, dI) cls_ [(h0, .inr (8, [.null, .null, .null, .null, .null, .int 0, .int 0, .int 0, .int 0, .int 0])), (q38, .inl (cA39, 48, .inl (fun _ => 0)))] H := hP
  have hD : va_D A [(h0, .inr (8, [.null, .null, .null, .null, .null, .int 0, .int 0, .int 0, .int 0, .int 0])), (q38, .inl (cA39, 48, .inl (fun _ => 0)))] := hD
  have hK : va_K (dC, dI) cls_ [(cA39, .int)] s := hK
  refine va_putF (D := (dC, dI)) (ci := 8) (v := .ref q38) (ty := .array .int) (C := R_BR) (T := F_BR) (N := 10) hx hb hts in_BR t_BR t_BR_ok n_BR hown hK hP hD hS 0 rfl rfl 2 (by decide) (hts _ (List.mem_cons_of_mem _ w_257)) (fun _ h9 => h9) rfl hin rfl (by decide +kernel) rfl rfl (Nat.le_of_ble_eq_true rfl) d_BR_init_9 (fun H locs hP hD hS => ?_)
  have hP : va_P (dC, dI) cls_ [(h0, .inr (8, [.null, .null, .ref q38, .null, .null, .int 0, .int 0, .int 0, .int 0, .int 0])), (q38, .inl (cA39, 48, .inl (fun _ => 0)))] H := hP
  have hD : va_D A [(h0, .inr (8, [.null, .null, .ref q38, .null, .null, .int 0, .int 0, .int 0, .int 0, .int 0])), (q38, .inl (cA39, 48, .inl (fun _ => 0)))] := hD
  refine lv_aload_n hx hb d_BR_init_12 rfl (lv_at hl 0 rfl) ?_
  refine lv_bipush (v := 48) hx hb d_BR_init_13 (by decide) ?_
  refine va_newa (a0 := (48, .inl (fun _ => 0))) (ty := .int) (N' := 48) hx hb (hts _ (List.mem_cons_of_mem _ w_68)) rfl hK hP hD hS hA (fun _ => rfl) (by decide +kernel) (by decide +kernel) (by decide +kernel) (Nat.le_of_ble_eq_true rfl) (Nat.le_of_ble_eq_true rfl) d_BR_init_15 (fun q40 cA41 H hK hP hD hS => ?_)
  have hP : va_P (dC, dI) cls_ [(h0, .inr (8, [.null, .null, .ref q38, .null, .null, .int 0, .int 0, .int 0, .int 0, .int 0])), (q38, .inl (cA39, 48, .inl (fun _ => 0))), (q40, .inl (cA41, 48, .inl (fun _ => 0)))] H := hP
  have hD : va_D A [(h0, .inr (8, [.null, .null, .ref q38, .null, .null, .int 0, .int 0, .int 0, .int 0, .int 0])), (q38, .inl (cA39, 48, .inl (fun _ => 0))), (q40, .inl (cA41, 48, .inl (fun _ => 0)))] := hD
  have hK : va_K (dC, dI) cls_ [(cA39, .int), (cA41, .int)] s := hK
  refine va_putF (D := (dC, dI)) (ci := 8) (v := .ref q40) (ty := .array .int) (C := R_BR) (T := F_BR) (N := 10) hx hb hts in_BR t_BR t_BR_ok n_BR hown hK hP hD hS 0 rfl rfl 3 (by decide) (hts _ (List.mem_cons_of_mem _ w_258)) (fun _ h9 => h9) rfl hin rfl (by decide +kernel) rfl rfl (Nat.le_of_ble_eq_true rfl) d_BR_init_17 (fun H locs hP hD hS => ?_)
  have hP : va_P (dC, dI) cls_ [(h0, .inr (8, [.null, .null, .ref q38, .ref q40, .null, .int 0, .int 0, .int 0, .int 0, .int 0])), (q38, .inl (cA39, 48, .inl (fun _ => 0))), (q40, .inl (cA41, 48, .inl (fun _ => 0)))] H := hP
  have hD : va_D A [(h0, .inr (8, [.null, .null, .ref q38, .ref q40, .null, .int 0, .int 0, .int 0, .int 0, .int 0])), (q38, .inl (cA39, 48, .inl (fun _ => 0))), (q40, .inl (cA41, 48, .inl (fun _ => 0)))] := hD
  refine lv_aload_n hx hb d_BR_init_20 rfl (lv_at hl 0 rfl) ?_
  refine lv_bipush (v := 48) hx hb d_BR_init_21 (by decide) ?_
  refine va_newa (a0 := (48, .inl (fun _ => 0))) (ty := .boolean) (N' := 48) hx hb (hts _ (List.mem_cons_of_mem _ w_197)) rfl hK hP hD hS hA (fun _ => rfl) (by decide +kernel) (by decide +kernel) (by decide +kernel) (Nat.le_of_ble_eq_true rfl) (Nat.le_of_ble_eq_true rfl) d_BR_init_23 (fun q42 cA43 H hK hP hD hS => ?_)
  have hP : va_P (dC, dI) cls_ [(h0, .inr (8, [.null, .null, .ref q38, .ref q40, .null, .int 0, .int 0, .int 0, .int 0, .int 0])), (q38, .inl (cA39, 48, .inl (fun _ => 0))), (q40, .inl (cA41, 48, .inl (fun _ => 0))), (q42, .inl (cA43, 48, .inl (fun _ => 0)))] H := hP
  have hD : va_D A [(h0, .inr (8, [.null, .null, .ref q38, .ref q40, .null, .int 0, .int 0, .int 0, .int 0, .int 0])), (q38, .inl (cA39, 48, .inl (fun _ => 0))), (q40, .inl (cA41, 48, .inl (fun _ => 0))), (q42, .inl (cA43, 48, .inl (fun _ => 0)))] := hD
  have hK : va_K (dC, dI) cls_ [(cA39, .int), (cA41, .int), (cA43, .boolean)] s := hK
  refine va_putF (D := (dC, dI)) (ci := 8) (v := .ref q42) (ty := .array .boolean) (C := R_BR) (T := F_BR) (N := 10) hx hb hts in_BR t_BR t_BR_ok n_BR hown hK hP hD hS 0 rfl rfl 4 (by decide) (hts _ (List.mem_cons_of_mem _ w_259)) (fun _ h9 => h9) rfl hin rfl (by decide +kernel) rfl rfl (Nat.le_of_ble_eq_true rfl) d_BR_init_25 (fun H locs hP hD hS => ?_)
  have hP : va_P (dC, dI) cls_ [(h0, .inr (8, [.null, .null, .ref q38, .ref q40, .ref q42, .int 0, .int 0, .int 0, .int 0, .int 0])), (q38, .inl (cA39, 48, .inl (fun _ => 0))), (q40, .inl (cA41, 48, .inl (fun _ => 0))), (q42, .inl (cA43, 48, .inl (fun _ => 0)))] H := hP
  have hD : va_D A [(h0, .inr (8, [.null, .null, .ref q38, .ref q40, .ref q42, .int 0, .int 0, .int 0, .int 0, .int 0])), (q38, .inl (cA39, 48, .inl (fun _ => 0))), (q40, .inl (cA41, 48, .inl (fun _ => 0))), (q42, .inl (cA43, 48, .inl (fun _ => 0)))] := hD
  refine lv_aload_n hx hb d_BR_init_28 rfl (lv_at hl 0 rfl) ?_
  refine lv_iconst (v := 0) hx hb d_BR_init_29 (by decide) ?_
  refine va_put (D := (dC, dI)) (ci := 8) (v := .int 0) (ty := .int) (C := R_BR) (T := F_BR) (N := 10) hx hb hts in_BR t_BR t_BR_ok n_BR hown hK hP hD hS 0 rfl rfl 5 (by decide) (hts _ (List.mem_cons_of_mem _ w_260)) (fun _ h9 => h9) rfl  (by decide +kernel) rfl rfl (Nat.le_of_ble_eq_true rfl) d_BR_init_30 (fun H locs hP hD hS => ?_)
  have hP : va_P (dC, dI) cls_ [(h0, .inr (8, [.null, .null, .ref q38, .ref q40, .ref q42, .int 0, .int 0, .int 0, .int 0, .int 0])), (q38, .inl (cA39, 48, .inl (fun _ => 0))), (q40, .inl (cA41, 48, .inl (fun _ => 0))), (q42, .inl (cA43, 48, .inl (fun _ => 0)))] H := hP
  have hD : va_D A [(h0, .inr (8, [.null, .null, .ref q38, .ref q40, .ref q42, .int 0, .int 0, .int 0, .int 0, .int 0])), (q38, .inl (cA39, 48, .inl (fun _ => 0))), (q40, .inl (cA41, 48, .inl (fun _ => 0))), (q42, .inl (cA43, 48, .inl (fun _ => 0)))] := hD
  refine lv_aload_n hx hb d_BR_init_33 rfl (lv_at hl 0 rfl) ?_
  refine lv_iconst (v := 1) hx hb d_BR_init_34 (by decide) ?_
  refine va_put (D := (dC, dI)) (ci := 8) (v := .int 1) (ty := .int) (C := R_BR) (T := F_BR) (N := 10) hx hb hts in_BR t_BR t_BR_ok n_BR hown hK hP hD hS 0 rfl rfl 6 (by decide) (hts _ (List.mem_cons_of_mem _ w_261)) (fun _ h9 => h9) rfl  (by decide +kernel) rfl rfl (Nat.le_of_ble_eq_true rfl) d_BR_init_35 (fun H locs hP hD hS => ?_)
  have hP : va_P (dC, dI) cls_ [(h0, .inr (8, [.null, .null, .ref q38, .ref q40, .ref q42, .int 0, .int 1, .int 0, .int 0, .int 0])), (q38, .inl (cA39, 48, .inl (fun _ => 0))), (q40, .inl (cA41, 48, .inl (fun _ => 0))), (q42, .inl (cA43, 48, .inl (fun _ => 0)))] H := hP
  have hD : va_D A [(h0, .inr (8, [.null, .null, .ref q38, .ref q40, .ref q42, .int 0, .int 1, .int 0, .int 0, .int 0])), (q38, .inl (cA39, 48, .inl (fun _ => 0))), (q40, .inl (cA41, 48, .inl (fun _ => 0))), (q42, .inl (cA43, 48, .inl (fun _ => 0)))] := hD
  refine lv_aload_n hx hb d_BR_init_38 rfl (lv_at hl 0 rfl) ?_
  refine lv_iconst (v := 0) hx hb d_BR_init_39 (by decide) ?_
  refine va_put (D := (dC, dI)) (ci := 8) (v := .int 0) (ty := .int) (C := R_BR) (T := F_BR) (N := 10) hx hb hts in_BR t_BR t_BR_ok n_BR hown hK hP hD hS 0 rfl rfl 7 (by decide) (hts _ (List.mem_cons_of_mem _ w_262)) (fun _ h9 => h9) rfl  (by decide +kernel) rfl rfl (Nat.le_of_ble_eq_true rfl) d_BR_init_40 (fun H locs hP hD hS => ?_)
  have hP : va_P (dC, dI) cls_ [(h0, .inr (8, [.null, .null, .ref q38, .ref q40, .ref q42, .int 0, .int 1, .int 0, .int 0, .int 0])), (q38, .inl (cA39, 48, .inl (fun _ => 0))), (q40, .inl (cA41, 48, .inl (fun _ => 0))), (q42, .inl (cA43, 48, .inl (fun _ => 0)))] H := hP
  have hD : va_D A [(h0, .inr (8, [.null, .null, .ref q38, .ref q40, .ref q42, .int 0, .int 1, .int 0, .int 0, .int 0])), (q38, .inl (cA39, 48, .inl (fun _ => 0))), (q40, .inl (cA41, 48, .inl (fun _ => 0))), (q42, .inl (cA43, 48, .inl (fun _ => 0)))] := hD
  refine lv_aload_n hx hb d_BR_init_43 rfl (lv_at hl 0 rfl) ?_
  refine lv_iconst (v := 0) hx hb d_BR_init_44 (by decide) ?_
  refine va_put (D := (dC, dI)) (ci := 8) (v := .int 0) (ty := .int) (C := R_BR) (T := F_BR) (N := 10) hx hb hts in_BR t_BR t_BR_ok n_BR hown hK hP hD hS 0 rfl rfl 8 (by decide) (hts _ (List.mem_cons_of_mem _ w_263)) (fun _ h9 => h9) rfl  (by decide +kernel) rfl rfl (Nat.le_of_ble_eq_true rfl) d_BR_init_45 (fun H locs hP hD hS => ?_)
  have hP : va_P (dC, dI) cls_ [(h0, .inr (8, [.null, .null, .ref q38, .ref q40, .ref q42, .int 0, .int 1, .int 0, .int 0, .int 0])), (q38, .inl (cA39, 48, .inl (fun _ => 0))), (q40, .inl (cA41, 48, .inl (fun _ => 0))), (q42, .inl (cA43, 48, .inl (fun _ => 0)))] H := hP
  have hD : va_D A [(h0, .inr (8, [.null, .null, .ref q38, .ref q40, .ref q42, .int 0, .int 1, .int 0, .int 0, .int 0])), (q38, .inl (cA39, 48, .inl (fun _ => 0))), (q40, .inl (cA41, 48, .inl (fun _ => 0))), (q42, .inl (cA43, 48, .inl (fun _ => 0)))] := hD
  refine lv_aload_n hx hb d_BR_init_48 rfl (lv_at hl 0 rfl) ?_
  refine lv_iconst (v := (-1)) hx hb d_BR_init_49 (by decide) ?_
  refine va_put (D := (dC, dI)) (ci := 8) (v := .int ((-1))) (ty := .int) (C := R_BR) (T := F_BR) (N := 10) hx hb hts in_BR t_BR t_BR_ok n_BR hown hK hP hD hS 0 rfl rfl 9 (by decide) (hts _ (List.mem_cons_of_mem _ w_265)) (fun _ h9 => h9) rfl  (by decide +kernel) rfl rfl (Nat.le_of_ble_eq_true rfl) d_BR_init_50 (fun H locs hP hD hS => ?_)
  have hP : va_P (dC, dI) cls_ [(h0, .inr (8, [.null, .null, .ref q38, .ref q40, .ref q42, .int 0, .int 1, .int 0, .int 0, .int ((-1))])), (q38, .inl (cA39, 48, .inl (fun _ => 0))), (q40, .inl (cA41, 48, .inl (fun _ => 0))), (q42, .inl (cA43, 48, .inl (fun _ => 0)))] H := hP
  have hD : va_D A [(h0, .inr (8, [.null, .null, .ref q38, .ref q40, .ref q42, .int 0, .int 1, .int 0, .int 0, .int ((-1))])), (q38, .inl (cA39, 48, .inl (fun _ => 0))), (q40, .inl (cA41, 48, .inl (fun _ => 0))), (q42, .inl (cA43, 48, .inl (fun _ => 0)))] := hD
  refine lv_aload_n hx hb d_BR_init_53 rfl (lv_at hl 0 rfl) ?_
  refine lv_aload_n hx hb d_BR_init_54 rfl (lv_at hl 1 rfl) ?_
  refine va_putF (D := (dC, dI)) (ci := 8) (v := .ref qp) (ty := .object "GlyphLines$Picture") (C := R_BR) (T := F_BR) (N := 10) hx hb hts in_BR t_BR t_BR_ok n_BR hown hK hP hD hS 0 rfl rfl 0 (by decide) (hts _ (List.mem_cons_of_mem _ w_255)) (fun _ h9 => h9) rfl hin rfl (by decide +kernel) rfl rfl (Nat.le_of_ble_eq_true rfl) d_BR_init_55 (fun H locs hP hD hS => ?_)
  have hP : va_P (dC, dI) cls_ [(h0, .inr (8, [.ref qp, .null, .ref q38, .ref q40, .ref q42, .int 0, .int 1, .int 0, .int 0, .int ((-1))])), (q38, .inl (cA39, 48, .inl (fun _ => 0))), (q40, .inl (cA41, 48, .inl (fun _ => 0))), (q42, .inl (cA43, 48, .inl (fun _ => 0)))] H := hP
  have hD : va_D A [(h0, .inr (8, [.ref qp, .null, .ref q38, .ref q40, .ref q42, .int 0, .int 1, .int 0, .int 0, .int ((-1))])), (q38, .inl (cA39, 48, .inl (fun _ => 0))), (q40, .inl (cA41, 48, .inl (fun _ => 0))), (q42, .inl (cA43, 48, .inl (fun _ => 0)))] := hD
  refine lv_aload_n hx hb d_BR_init_58 rfl (lv_at hl 0 rfl) ?_
  refine lv_aload_n hx hb d_BR_init_59 rfl (lv_at hl 2 rfl) ?_
  refine va_putF (D := (dC, dI)) (ci := 8) (v := .ref qo) (ty := .object "GlyphLines$Outline") (C := R_BR) (T := F_BR) (N := 10) hx hb hts in_BR t_BR t_BR_ok n_BR hown hK hP hD hS 0 rfl rfl 1 (by decide) (hts _ (List.mem_cons_of_mem _ w_256)) (fun _ h9 => h9) rfl hin rfl (by decide +kernel) rfl rfl (Nat.le_of_ble_eq_true rfl) d_BR_init_60 (fun H locs hP hD hS => ?_)
  have hP : va_P (dC, dI) cls_ [(h0, .inr (8, [.ref qp, .ref qo, .ref q38, .ref q40, .ref q42, .int 0, .int 1, .int 0, .int 0, .int ((-1))])), (q38, .inl (cA39, 48, .inl (fun _ => 0))), (q40, .inl (cA41, 48, .inl (fun _ => 0))), (q42, .inl (cA43, 48, .inl (fun _ => 0)))] H := hP
  have hD : va_D A [(h0, .inr (8, [.ref qp, .ref qo, .ref q38, .ref q40, .ref q42, .int 0, .int 1, .int 0, .int 0, .int ((-1))])), (q38, .inl (cA39, 48, .inl (fun _ => 0))), (q40, .inl (cA41, 48, .inl (fun _ => 0))), (q42, .inl (cA43, 48, .inl (fun _ => 0)))] := hD
  refine W.widen (k := 3) (n := 144) (Nat.le_of_ble_eq_true rfl) (Nat.le_of_ble_eq_true rfl) ?_
  exact W.vret hx hb hr (fun t ht hW => ⟨⟨(), rfl, trivial, trivial⟩, hS.F ht⟩) hS.2.2 d_BR_init_63
