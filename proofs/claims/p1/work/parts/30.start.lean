theorem w_22 : (Jvm.Cond.classLink "GlyphLinesLaw" (8 : Nat) "GlyphLines") ∈ tw_T := tw_of 22 (by decide +kernel) (by decide +kernel)
theorem w_24 : (Jvm.Cond.methodLink "GlyphLinesLaw" (43 : Nat) ({ cls := "GlyphLines", name := "<init>", desc := "()V" } : Jvm.MethodName)) ∈ tw_T := tw_of 24 (by decide +kernel) (by decide +kernel)
theorem w_25 : (Jvm.Cond.instanceMethod ({ cls := "GlyphLines", name := "<init>", desc := "()V" } : Jvm.MethodName)) ∈ tw_T := tw_of 25 (by decide +kernel) (by decide +kernel)
theorem w_26 : (Jvm.Cond.code ({ cls := "GlyphLines", name := "<init>", desc := "()V" } : Jvm.MethodName) prog_1_method_1_code (1 : Nat) (Option.none : Option Jvm.ClassFile.FieldType)) ∈ tw_T := tw_of 26 (by decide +kernel) (by decide +kernel)
theorem w_846 : (Jvm.Cond.classLink "GlyphLinesLaw" (44 : Nat) "GlyphLinesModel") ∈ tw_T := tw_of 846 (by decide +kernel) (by decide +kernel)
theorem w_848 : (Jvm.Cond.methodLink "GlyphLinesLaw" (46 : Nat) ({ cls := "GlyphLinesModel", name := "<init>", desc := "()V" } : Jvm.MethodName)) ∈ tw_T := tw_of 848 (by decide +kernel) (by decide +kernel)
theorem w_849 : (Jvm.Cond.instanceMethod ({ cls := "GlyphLinesModel", name := "<init>", desc := "()V" } : Jvm.MethodName)) ∈ tw_T := tw_of 849 (by decide +kernel) (by decide +kernel)
theorem w_850 : (Jvm.Cond.code ({ cls := "GlyphLinesModel", name := "<init>", desc := "()V" } : Jvm.MethodName) prog_12_method_1_code (1 : Nat) (Option.none : Option Jvm.ClassFile.FieldType)) ∈ tw_T := tw_of 850 (by decide +kernel) (by decide +kernel)
theorem d_LW_law_0 : decode b_LW_law 0 = .ok (.new 8, 3) := by decide +kernel
theorem d_LW_law_11 : decode b_LW_law 11 = .ok (.dup, 1) := by decide +kernel
theorem d_LW_law_12 : decode b_LW_law 12 = .ok (.invokespecial 46, 3) := by decide +kernel
theorem d_LW_law_15 : decode b_LW_law 15 = .ok (.astore_n 2, 1) := by decide +kernel
theorem d_LW_law_16 : decode b_LW_law 16 = .ok (.iconst 1, 1) := by decide +kernel
theorem d_LW_law_17 : decode b_LW_law 17 = .ok (.newarray .long, 2) := by decide +kernel
theorem d_LW_law_19 : decode b_LW_law 19 = .ok (.astore_n 3, 1) := by decide +kernel
theorem d_LW_law_20 : decode b_LW_law 20 = .ok (.iconst 0, 1) := by decide +kernel
theorem d_LW_law_21 : decode b_LW_law 21 = .ok (.istore 4, 2) := by decide +kernel
theorem d_LW_law_3 : decode b_LW_law 3 = .ok (.dup, 1) := by decide +kernel
theorem d_LW_law_32 : decode b_LW_law 32 = .ok (.aload_n 0, 1) := by decide +kernel
theorem d_LW_law_33 : decode b_LW_law 33 = .ok (.iload 4, 2) := by decide +kernel
theorem d_LW_law_35 : decode b_LW_law 35 = .ok (.iaload, 1) := by decide +kernel
theorem d_LW_law_36 : decode b_LW_law 36 = .ok (.bipush 15, 2) := by decide +kernel
theorem d_LW_law_38 : decode b_LW_law 38 = .ok (.iand, 1) := by decide +kernel
theorem d_LW_law_39 : decode b_LW_law 39 = .ok (.tableswitch (701) (0) (12) #[65, 90, 158, 183, 239, 280, 336, 404, 484, 552, 577, 590, 646], 65) := by decide +kernel
theorem d_LW_law_4 : decode b_LW_law 4 = .ok (.invokespecial 43, 3) := by decide +kernel
theorem d_LW_law_7 : decode b_LW_law 7 = .ok (.astore_n 1, 1) := by decide +kernel
theorem d_LW_law_8 : decode b_LW_law 8 = .ok (.new 44, 3) := by decide +kernel
set_option maxHeartbeats 8000000 in
set_option maxRecDepth 100000 in
/-- from the entry, for every script of at most 4 ints, the law comes to its end with true -/
theorem whole_start {p : Program} {e : Env} {s : State} {m : MethodId} {below : List Frame} {meth : Method} {c : Code} (l : Launch) (hfl : l.flags = flags0) {b L : Nat} {xs : Nat → Int32} (hL : L ≤ 4) (C0 : lw_At p s m meth c b L xs) : W p l e room_1 s m #[Value.ref b] below meth c s.heap [] 0 0 (lw_Z below #[Value.ref b] s) (entryFrame m ([Value.ref b] : List Value).toArray 8) := by
  obtain ⟨A, hAe⟩ : ∃ A : Nat → Prop, ∀ q, A q ↔ s.heap.size ≤ q := ⟨fun q => s.heap.size ≤ q, fun _ => Iff.rfl⟩
  obtain ⟨hx, hb, hr, hml, hown, hts, hX, hbl, hlocks, hgv⟩ := id C0
  have hA : ∀ q : Nat, s.heap.size ≤ q → A q := fun q h => (hAe q).mpr h
  have hbA : ¬ A b := fun h => absurd hbl (Nat.not_lt.mpr ((hAe b).mp h))
  have hT9 := lw_all hts hgv
  have hN : va_Nw (.fieldLinkNest "GlyphLines" 153 "GlyphLines$Picture" "rows" "[J" "GlyphLines") s := va_Nw.of rfl (hts _ (List.mem_append_right _ (List.mem_of_getElem? (i := 241) (by decide +kernel))))
  have hO : va_AO "GlyphLines$Span" s := va_AO.of (hts _ (List.mem_append_right _ (List.mem_of_getElem? (i := 116) (by decide +kernel))))
  obtain ⟨dC, dI, hK⟩ := lw_known hts
  have hS : va_S A s.heap s.heap [] := va_S.rf
  have hP : va_P (dC, dI) cls_ [] s.heap := fun k q h => by simp at h
  have hD : va_D A [] := ⟨fun i j p q h => by simp at h, fun k q h => by simp at h⟩
  have hl := lv_entry ([.ref b]) (n := 8) (Nat.le_of_ble_eq_true rfl)
  rw [lg_entry_eq]
  generalize (lg_sl ([.ref b]) ++ List.replicate (8 - (lg_sl ([.ref b])).length) Slot.unset).toArray = ls at hl ⊢
  have hl : lv_has ls 8 [(0, .ref b)] := hl
  refine va_new (ci := 9) (fs := [.null, .int 0, .null, .null, .int 0, .null, .null, .null, .null, .int 0]) (C := R_GL) (T := F_GL) (N := 10) hx hb hts inl_GL t_GL t_GL_ok hown (hts _ (tw_sub w_22)) (hts _ (tw_sub w_23)) (hts _ (tw_sub w_1)) hK hP hD hS hA rfl (fun j hj => by rcases (show j = 0 ∨ j = 1 ∨ j = 2 ∨ j = 3 ∨ j = 4 ∨ j = 5 ∨ j = 6 ∨ j = 7 ∨ j = 8 ∨ j = 9 by omega) with rfl | rfl | rfl | rfl | rfl | rfl | rfl | rfl | rfl | rfl <;> rfl) (Nat.le_of_ble_eq_true rfl) (Nat.le_of_ble_eq_true rfl) d_LW_law_0 (fun q233 H hP hD hS => ?_)
  have hP : va_P (dC, dI) cls_ [(q233, .inr (9, [.null, .int 0, .null, .null, .int 0, .null, .null, .null, .null, .int 0]))] H := hP
  have hD : va_D A [(q233, .inr (9, [.null, .int 0, .null, .null, .int 0, .null, .null, .null, .null, .int 0]))] := hD
  refine lv_dup hx hb d_LW_law_3 rfl ?_
  have hPc := hP.sub (ws' := [(q233, .inr (9, [.null, .int 0, .null, .null, .int 0, .null, .null, .null, .null, .int 0]))]) [0] rfl
  have hDc := hD.sub (ws' := [(q233, .inr (9, [.null, .int 0, .null, .null, .int 0, .null, .null, .null, .null, .int 0]))]) [0] (by decide) rfl
  have hKc := hK.sub (tys' := []) [] rfl
  have hFc := va_free (wc := [(q233, .inr (9, [.null, .int 0, .null, .null, .int 0, .null, .null, .null, .null, .int 0]))]) hD hS hA [0] rfl
  have hH : ∀ q : Nat, q < s.heap.size → H[q]? = s.heap[q]? := fun q h => hS.2.1 q h (fun z => absurd h (Nat.not_lt.mpr ((hAe q).mp z)))
  refine va_callv (va_runI (As := []) (rest := [.ref q233]) ⟨hx, hb, hml, hown, hts⟩ (c_GL_init l dC dI q233 H.size) (cwI 0 hts (tw_inL w_26) rfl rfl rfl (hts _ (tw_sub w_1)) (hts _ (tw_sub w_24)) (hts _ (tw_sub w_25)) rfl (by decide +kernel) ⟨Nat.le_of_ble_eq_true rfl, Nat.le_of_ble_eq_true rfl⟩) ⟨fun a U g mk q => by obtain ⟨q0, q1, qP, qK, qD, qE0⟩ := q; exact ⟨q0, q1, qP, va_K.moved (u := U) (U := U.calling g mk a) (Vm.Alike.refl U.vm) qK, qD, va_AO.moved (u := U) (U := U.calling g mk a) (Vm.Alike.refl U.vm) qE0⟩, fun U hU hW => ⟨rfl, by rw [hU], by rw [hU]; exact hPc, va_K.moved hW.alike hKc, hDc.weaken (fun _ _ _ _ => trivial), va_AO.moved hW.alike hO⟩⟩ rfl rfl hl.1 rfl (lv_room (Nat.le_of_ble_eq_true rfl)) d_LW_law_4 ⟨Nat.le_of_ble_eq_true rfl, Nat.le_of_ble_eq_true rfl⟩) hS (fun q _ h => hFc q h) hFc (fun u t H1 locs ht hvm hw hB hz1 hk1 hS => ?_)
  obtain ⟨qf234, a235, a236, a237, a238, a239, qx240, f241, f242, f243, f244, f245, f246, f247, f248, f249, f250, f251, qw252, qt253, qr254, qs255, cF256, cA257, cB258, cX259, hP1, hK1, hD1⟩ := hB
  rw [ht] at hP1
  have hK1 := va_K.moved hvm.symm hK1
  obtain ⟨hP, hD⟩ := va_join (wr := []) (w1 := [(q233, .inr (9, [.ref qf234, .int 0, .ref a235, .ref a236, .int 0, .ref a237, .ref a238, .ref a239, .ref qx240, .int 0])), (qf234, .inl (cF256, 1200, .inl (fun _ => 0))), (a236, .inr (4, [.ref f241, .ref f242, .ref f243, .ref f244, .ref f245, .ref f246, .ref f247, .ref f248, .ref f249, .ref f250, .ref f251, .int 64, .int 0, .int 0, .int 0])), (f241, .inl (cA257, 1200, .inl (fun _ => 0))), (f242, .inr (2, [.ref qw252, .ref qt253, .int 0])), (qw252, .inr (0, [.ref f241, .int 0, .int 0, .int 0])), (a238, .inr (7, [.ref qr254, .ref qs255])), (qr254, .inl (cB258, 24, .inr (.inl (fun _ => 0)))), (qx240, .inl (cX259, 12, .inl (fun _ => 0)))]) hP hD [0] [] rfl rfl (by decide) (by decide) hk1 hFc hP1 hD1
  have hK := (hK.sub (tys' := []) [] rfl).app hK1
  generalize H1 = H at hP hS ⊢
  have hP : va_P (dC, dI) cls_ [(q233, .inr (9, [.ref qf234, .int 0, .ref a235, .ref a236, .int 0, .ref a237, .ref a238, .ref a239, .ref qx240, .int 0])), (qf234, .inl (cF256, 1200, .inl (fun _ => 0))), (a236, .inr (4, [.ref f241, .ref f242, .ref f243, .ref f244, .ref f245, .ref f246, .ref f247, .ref f248, .ref f249, .ref f250, .ref f251, .int 64, .int 0, .int 0, .int 0])), (f241, .inl (cA257, 1200, .inl (fun _ => 0))), (f242, .inr (2, [.ref qw252, .ref qt253, .int 0])), (qw252, .inr (0, [.ref f241, .int 0, .int 0, .int 0])), (a238, .inr (7, [.ref qr254, .ref qs255])), (qr254, .inl (cB258, 24, .inr (.inl (fun _ => 0)))), (qx240, .inl (cX259, 12, .inl (fun _ => 0)))] H := hP
  have hD : va_D A [(q233, .inr (9, [.ref qf234, .int 0, .ref a235, .ref a236, .int 0, .ref a237, .ref a238, .ref a239, .ref qx240, .int 0])), (qf234, .inl (cF256, 1200, .inl (fun _ => 0))), (a236, .inr (4, [.ref f241, .ref f242, .ref f243, .ref f244, .ref f245, .ref f246, .ref f247, .ref f248, .ref f249, .ref f250, .ref f251, .int 64, .int 0, .int 0, .int 0])), (f241, .inl (cA257, 1200, .inl (fun _ => 0))), (f242, .inr (2, [.ref qw252, .ref qt253, .int 0])), (qw252, .inr (0, [.ref f241, .int 0, .int 0, .int 0])), (a238, .inr (7, [.ref qr254, .ref qs255])), (qr254, .inl (cB258, 24, .inr (.inl (fun _ => 0)))), (qx240, .inl (cX259, 12, .inl (fun _ => 0)))] := hD
  have hK : va_K (dC, dI) cls_ [(cF256, .int), (cA257, .int), (cB258, .long), (cX259, .int)] s := hK
  refine lv_astore_n (lv' := [(1, .ref q233), (0, .ref b)]) hx hb d_LW_law_7 rfl hl (by decide) rfl (fun ls hl => ?_)
  refine va_new (ci := 10) (fs := [.int 0, .int 0, .null, .int 0, .int 0, .null, .null, .null, .null, .null, .null, .null, .null, .null, .null, .null, .null, .null, .null, .null, .null, .int 0, .int 0, .int 0, .null, .null, .int 0, .null, .int 0, .null, .null, .null, .int 0, .null, .null, .null]) (C := R_MD) (T := F_MD) (N := 36) hx hb hts inl_MD t_MD t_MD_ok hown (hts _ (tw_sub w_846)) (hts _ (tw_sub w_847)) (hts _ (tw_sub w_11)) hK hP hD hS hA rfl (fun j hj => by rcases (show j = 0 ∨ j = 1 ∨ j = 2 ∨ j = 3 ∨ j = 4 ∨ j = 5 ∨ j = 6 ∨ j = 7 ∨ j = 8 ∨ j = 9 ∨ j = 10 ∨ j = 11 ∨ j = 12 ∨ j = 13 ∨ j = 14 ∨ j = 15 ∨ j = 16 ∨ j = 17 ∨ j = 18 ∨ j = 19 ∨ j = 20 ∨ j = 21 ∨ j = 22 ∨ j = 23 ∨ j = 24 ∨ j = 25 ∨ j = 26 ∨ j = 27 ∨ j = 28 ∨ j = 29 ∨ j = 30 ∨ j = 31 ∨ j = 32 ∨ j = 33 ∨ j = 34 ∨ j = 35 by omega) with rfl | rfl | rfl | rfl | rfl | rfl | rfl | rfl | rfl | rfl | rfl | rfl | rfl | rfl | rfl | rfl | rfl | rfl | rfl | rfl | rfl | rfl | rfl | rfl | rfl | rfl | rfl | rfl | rfl | rfl | rfl | rfl | rfl | rfl | rfl | rfl <;> rfl) (Nat.le_of_ble_eq_true rfl) (Nat.le_of_ble_eq_true rfl) d_LW_law_8 (fun q260 H hP hD hS => ?_)
  have hP : va_P (dC, dI) cls_ [(q233, .inr (9, [.ref qf234, .int 0, .ref a235, .ref a236, .int 0, .ref a237, .ref a238, .ref a239, .ref qx240, .int 0])), (qf234, .inl (cF256, 1200, .inl (fun _ => 0))), (a236, .inr (4, [.ref f241, .ref f242, .ref f243, .ref f244, .ref f245, .ref f246, .ref f247, .ref f248, .ref f249, .ref f250, .ref f251, .int 64, .int 0, .int 0, .int 0])), (f241, .inl (cA257, 1200, .inl (fun _ => 0))), (f242, .inr (2, [.ref qw252, .ref qt253, .int 0])), (qw252, .inr (0, [.ref f241, .int 0, .int 0, .int 0])), (a238, .inr (7, [.ref qr254, .ref qs255])), (qr254, .inl (cB258, 24, .inr (.inl (fun _ => 0)))), (qx240, .inl (cX259, 12, .inl (fun _ => 0))), (q260, .inr (10, [.int 0, .int 0, .null, .int 0, .int 0, .null, .null, .null, .null, .null, .null, .null, .null, .null, .null, .null, .null, .null, .null, .null, .null, .int 0, .int 0, .int 0, .null, .null, .int 0, .null, .int 0, .null, .null, .null, .int 0, .null, .null, .null]))] H := hP
  have hD : va_D A [(q233, .inr (9, [.ref qf234, .int 0, .ref a235, .ref a236, .int 0, .ref a237, .ref a238, .ref a239, .ref qx240, .int 0])), (qf234, .inl (cF256, 1200, .inl (fun _ => 0))), (a236, .inr (4, [.ref f241, .ref f242, .ref f243, .ref f244, .ref f245, .ref f246, .ref f247, .ref f248, .ref f249, .ref f250, .ref f251, .int 64, .int 0, .int 0, .int 0])), (f241, .inl (cA257, 1200, .inl (fun _ => 0))), (f242, .inr (2, [.ref qw252, .ref qt253, .int 0])), (qw252, .inr (0, [.ref f241, .int 0, .int 0, .int 0])), (a238, .inr (7, [.ref qr254, .ref qs255])), (qr254, .inl (cB258, 24, .inr (.inl (fun _ => 0)))), (qx240, .inl (cX259, 12, .inl (fun _ => 0))), (q260, .inr (10, [.int 0, .int 0, .null, .int 0, .int 0, .null, .null, .null, .null, .null, .null, .null, .null, .null, .null, .null, .null, .null, .null, .null, .null, .int 0, .int 0, .int 0, .null, .null, .int 0, .null, .int 0, .null, .null, .null, .int 0, .null, .null, .null]))] := hD
  refine lv_dup hx hb d_LW_law_11 rfl ?_
  have hPc := hP.sub (ws' := [(q260, .inr (10, [.int 0, .int 0, .null, .int 0, .int 0, .null, .null, .null, .null, .null, .null, .null, .null, .null, .null, .null, .null, .null, .null, .null, .null, .int 0, .int 0, .int 0, .null, .null, .int 0, .null, .int 0, .null, .null, .null, .int 0, .null, .null, .null]))]) [9] rfl
  have hDc := hD.sub (ws' := [(q260, .inr (10, [.int 0, .int 0, .null, .int 0, .int 0, .null, .null, .null, .null, .null, .null, .null, .null, .null, .null, .null, .null, .null, .null, .null, .null, .int 0, .int 0, .int 0, .null, .null, .int 0, .null, .int 0, .null, .null, .null, .int 0, .null, .null, .null]))]) [9] (by decide) rfl
  have hKc := hK.sub (tys' := []) [] rfl
  have hFc := va_free (wc := [(q260, .inr (10, [.int 0, .int 0, .null, .int 0, .int 0, .null, .null, .null, .null, .null, .null, .null, .null, .null, .null, .null, .null, .null, .null, .null, .null, .int 0, .int 0, .int 0, .null, .null, .int 0, .null, .int 0, .null, .null, .null, .int 0, .null, .null, .null]))]) hD hS hA [9] rfl
  have hH : ∀ q : Nat, q < s.heap.size → H[q]? = s.heap[q]? := fun q h => hS.2.1 q h (fun z => absurd h (Nat.not_lt.mpr ((hAe q).mp z)))
  refine va_callv (va_runI (As := []) (rest := [.ref q260]) ⟨hx, hb, hml, hown, hts⟩ (c_MD_init l dC dI q260 H.size) (cwI 0 hts (tw_inL w_850) rfl rfl rfl (hts _ (tw_sub w_11)) (hts _ (tw_sub w_848)) (hts _ (tw_sub w_849)) rfl (by decide +kernel) ⟨Nat.le_of_ble_eq_true rfl, Nat.le_of_ble_eq_true rfl⟩) ⟨fun a U g mk q => by obtain ⟨q0, q1, qP, qK, qD⟩ := q; exact ⟨q0, q1, qP, va_K.moved (u := U) (U := U.calling g mk a) (Vm.Alike.refl U.vm) qK, qD⟩, fun U hU hW => ⟨rfl, by rw [hU], by rw [hU]; exact hPc, va_K.moved hW.alike hKc, hDc.weaken (fun _ _ _ _ => trivial)⟩⟩ rfl rfl hl.1 rfl (lv_room (Nat.le_of_ble_eq_true rfl)) d_LW_law_12 ⟨Nat.le_of_ble_eq_true rfl, Nat.le_of_ble_eq_true rfl⟩) hS (fun q _ h => hFc q h) hFc (fun u t H1 locs ht hvm hw hB hz1 hk1 hS => ?_)
  obtain ⟨m_file261, m_bytes262, m_places263, m_lengths264, m_glyphCount265, m_ems266, m_wides267, m_forms268, m_parts269, m_charts270, m_pointCount271, m_contourCount272, m_depths273, m_xs274, m_ys275, m_ons276, m_contours277, m_flags278, m_part279, m_text280, m_ringX281, m_ringY282, m_ringOn283, m_curves284, m_windings285, m_rows286, c_file287, c_bytes288, c_places289, c_text290, c_rows291, hP1, hK1, hD1⟩ := hB
  rw [ht] at hP1
  have hK1 := va_K.moved hvm.symm hK1
  obtain ⟨hP, hD⟩ := va_join (wr := [(q233, .inr (9, [.ref qf234, .int 0, .ref a235, .ref a236, .int 0, .ref a237, .ref a238, .ref a239, .ref qx240, .int 0])), (qf234, .inl (cF256, 1200, .inl (fun _ => 0))), (a236, .inr (4, [.ref f241, .ref f242, .ref f243, .ref f244, .ref f245, .ref f246, .ref f247, .ref f248, .ref f249, .ref f250, .ref f251, .int 64, .int 0, .int 0, .int 0])), (f241, .inl (cA257, 1200, .inl (fun _ => 0))), (f242, .inr (2, [.ref qw252, .ref qt253, .int 0])), (qw252, .inr (0, [.ref f241, .int 0, .int 0, .int 0])), (a238, .inr (7, [.ref qr254, .ref qs255])), (qr254, .inl (cB258, 24, .inr (.inl (fun _ => 0)))), (qx240, .inl (cX259, 12, .inl (fun _ => 0)))]) (w1 := [(q260, .inr (10, [.int 0, .int 0, .ref m_file261, .int 0, .int 0, .ref m_bytes262, .ref m_places263, .ref m_lengths264, .ref m_glyphCount265, .ref m_ems266, .ref m_wides267, .ref m_forms268, .ref m_parts269, .ref m_charts270, .ref m_pointCount271, .ref m_contourCount272, .ref m_depths273, .ref m_xs274, .ref m_ys275, .ref m_ons276, .ref m_contours277, .int 0, .int 0, .int 0, .ref m_flags278, .ref m_part279, .int 0, .ref m_text280, .int 0, .ref m_ringX281, .ref m_ringY282, .ref m_ringOn283, .int 0, .ref m_curves284, .ref m_windings285, .ref m_rows286])), (m_file261, .inl (c_file287, 1200, .inl (fun _ => 0))), (m_bytes262, .inl (c_bytes288, 2400, .inl (fun _ => 0))), (m_places263, .inl (c_places289, 16, .inl (fun _ => 0))), (m_text280, .inl (c_text290, 12, .inl (fun _ => 0))), (m_rows286, .inl (c_rows291, 24, .inr (.inl (fun _ => 0))))]) hP hD [9] [0, 1, 2, 3, 4, 5, 6, 7, 8] rfl rfl (by decide) (by decide) hk1 hFc hP1 hD1
  have hK := (hK.sub (tys' := [(cF256, .int), (cA257, .int), (cB258, .long), (cX259, .int)]) [0, 1, 2, 3] rfl).app hK1
  generalize H1 = H at hP hS ⊢
  have hP : va_P (dC, dI) cls_ [(q233, .inr (9, [.ref qf234, .int 0, .ref a235, .ref a236, .int 0, .ref a237, .ref a238, .ref a239, .ref qx240, .int 0])), (qf234, .inl (cF256, 1200, .inl (fun _ => 0))), (a236, .inr (4, [.ref f241, .ref f242, .ref f243, .ref f244, .ref f245, .ref f246, .ref f247, .ref f248, .ref f249, .ref f250, .ref f251, .int 64, .int 0, .int 0, .int 0])), (f241, .inl (cA257, 1200, .inl (fun _ => 0))), (f242, .inr (2, [.ref qw252, .ref qt253, .int 0])), (qw252, .inr (0, [.ref f241, .int 0, .int 0, .int 0])), (a238, .inr (7, [.ref qr254, .ref qs255])), (qr254, .inl (cB258, 24, .inr (.inl (fun _ => 0)))), (qx240, .inl (cX259, 12, .inl (fun _ => 0))), (q260, .inr (10, [.int 0, .int 0, .ref m_file261, .int 0, .int 0, .ref m_bytes262, .ref m_places263, .ref m_lengths264, .ref m_glyphCount265, .ref m_ems266, .ref m_wides267, .ref m_forms268, .ref m_parts269, .ref m_charts270, .ref m_pointCount271, .ref m_contourCount272, .ref m_depths273, .ref m_xs274, .ref m_ys275, .ref m_ons276, .ref m_contours277, .int 0, .int 0, .int 0, .ref m_flags278, .ref m_part279, .int 0, .ref m_text280, .int 0, .ref m_ringX281, .ref m_ringY282, .ref m_ringOn283, .int 0, .ref m_curves284, .ref m_windings285, .ref m_rows286])), (m_file261, .inl (c_file287, 1200, .inl (fun _ => 0))), (m_bytes262, .inl (c_bytes288, 2400, .inl (fun _ => 0))), (m_places263, .inl (c_places289, 16, .inl (fun _ => 0))), (m_text280, .inl (c_text290, 12, .inl (fun _ => 0))), (m_rows286, .inl (c_rows291, 24, .inr (.inl (fun _ => 0))))] H := hP
  have hD : va_D A [(q233, .inr (9, [.ref qf234, .int 0, .ref a235, .ref a236, .int 0, .ref a237, .ref a238, .ref a239, .ref qx240, .int 0])), (qf234, .inl (cF256, 1200, .inl (fun _ => 0))), (a236, .inr (4, [.ref f241, .ref f242, .ref f243, .ref f244, .ref f245, .ref f246, .ref f247, .ref f248, .ref f249, .ref f250, .ref f251, .int 64, .int 0, .int 0, .int 0])), (f241, .inl (cA257, 1200, .inl (fun _ => 0))), (f242, .inr (2, [.ref qw252, .ref qt253, .int 0])), (qw252, .inr (0, [.ref f241, .int 0, .int 0, .int 0])), (a238, .inr (7, [.ref qr254, .ref qs255])), (qr254, .inl (cB258, 24, .inr (.inl (fun _ => 0)))), (qx240, .inl (cX259, 12, .inl (fun _ => 0))), (q260, .inr (10, [.int 0, .int 0, .ref m_file261, .int 0, .int 0, .ref m_bytes262, .ref m_places263, .ref m_lengths264, .ref m_glyphCount265, .ref m_ems266, .ref m_wides267, .ref m_forms268, .ref m_parts269, .ref m_charts270, .ref m_pointCount271, .ref m_contourCount272, .ref m_depths273, .ref m_xs274, .ref m_ys275, .ref m_ons276, .ref m_contours277, .int 0, .int 0, .int 0, .ref m_flags278, .ref m_part279, .int 0, .ref m_text280, .int 0, .ref m_ringX281, .ref m_ringY282, .ref m_ringOn283, .int 0, .ref m_curves284, .ref m_windings285, .ref m_rows286])), (m_file261, .inl (c_file287, 1200, .inl (fun _ => 0))), (m_bytes262, .inl (c_bytes288, 2400, .inl (fun _ => 0))), (m_places263, .inl (c_places289, 16, .inl (fun _ => 0))), (m_text280, .inl (c_text290, 12, .inl (fun _ => 0))), (m_rows286, .inl (c_rows291, 24, .inr (.inl (fun _ => 0))))] := hD
  have hK : va_K (dC, dI) cls_ [(cF256, .int), (cA257, .int), (cB258, .long), (cX259, .int), (c_file287, .int), (c_bytes288, .int), (c_places289, .int), (c_text290, .int), (c_rows291, .long)] s := hK
  refine lv_astore_n (lv' := [(2, .ref q260), (1, .ref q233), (0, .ref b)]) hx hb d_LW_law_15 rfl hl (by decide) rfl (fun ls hl => ?_)
  refine lv_iconst (v := 1) hx hb d_LW_law_16 (by decide) ?_
  refine va_newa (atype := .long) (a0 := (1, .inr (.inl (fun _ => 0)))) (ty := .long) (N' := 1) hx hb (hts _ (tw_sub w_248)) rfl hK hP hD hS hA (fun _ => rfl) (by decide +kernel) (by decide +kernel) (by decide +kernel) (Nat.le_of_ble_eq_true rfl) (Nat.le_of_ble_eq_true rfl) d_LW_law_17 (fun q292 cA293 H hK hP hD hS => ?_)
  have hP : va_P (dC, dI) cls_ [(q233, .inr (9, [.ref qf234, .int 0, .ref a235, .ref a236, .int 0, .ref a237, .ref a238, .ref a239, .ref qx240, .int 0])), (qf234, .inl (cF256, 1200, .inl (fun _ => 0))), (a236, .inr (4, [.ref f241, .ref f242, .ref f243, .ref f244, .ref f245, .ref f246, .ref f247, .ref f248, .ref f249, .ref f250, .ref f251, .int 64, .int 0, .int 0, .int 0])), (f241, .inl (cA257, 1200, .inl (fun _ => 0))), (f242, .inr (2, [.ref qw252, .ref qt253, .int 0])), (qw252, .inr (0, [.ref f241, .int 0, .int 0, .int 0])), (a238, .inr (7, [.ref qr254, .ref qs255])), (qr254, .inl (cB258, 24, .inr (.inl (fun _ => 0)))), (qx240, .inl (cX259, 12, .inl (fun _ => 0))), (q260, .inr (10, [.int 0, .int 0, .ref m_file261, .int 0, .int 0, .ref m_bytes262, .ref m_places263, .ref m_lengths264, .ref m_glyphCount265, .ref m_ems266, .ref m_wides267, .ref m_forms268, .ref m_parts269, .ref m_charts270, .ref m_pointCount271, .ref m_contourCount272, .ref m_depths273, .ref m_xs274, .ref m_ys275, .ref m_ons276, .ref m_contours277, .int 0, .int 0, .int 0, .ref m_flags278, .ref m_part279, .int 0, .ref m_text280, .int 0, .ref m_ringX281, .ref m_ringY282, .ref m_ringOn283, .int 0, .ref m_curves284, .ref m_windings285, .ref m_rows286])), (m_file261, .inl (c_file287, 1200, .inl (fun _ => 0))), (m_bytes262, .inl (c_bytes288, 2400, .inl (fun _ => 0))), (m_places263, .inl (c_places289, 16, .inl (fun _ => 0))), (m_text280, .inl (c_text290, 12, .inl (fun _ => 0))), (m_rows286, .inl (c_rows291, 24, .inr (.inl (fun _ => 0)))), (q292, .inl (cA293, 1, .inr (.inl (fun _ => 0))))] H := hP
  have hD : va_D A [(q233, .inr (9, [.ref qf234, .int 0, .ref a235, .ref a236, .int 0, .ref a237, .ref a238, .ref a239, .ref qx240, .int 0])), (qf234, .inl (cF256, 1200, .inl (fun _ => 0))), (a236, .inr (4, [.ref f241, .ref f242, .ref f243, .ref f244, .ref f245, .ref f246, .ref f247, .ref f248, .ref f249, .ref f250, .ref f251, .int 64, .int 0, .int 0, .int 0])), (f241, .inl (cA257, 1200, .inl (fun _ => 0))), (f242, .inr (2, [.ref qw252, .ref qt253, .int 0])), (qw252, .inr (0, [.ref f241, .int 0, .int 0, .int 0])), (a238, .inr (7, [.ref qr254, .ref qs255])), (qr254, .inl (cB258, 24, .inr (.inl (fun _ => 0)))), (qx240, .inl (cX259, 12, .inl (fun _ => 0))), (q260, .inr (10, [.int 0, .int 0, .ref m_file261, .int 0, .int 0, .ref m_bytes262, .ref m_places263, .ref m_lengths264, .ref m_glyphCount265, .ref m_ems266, .ref m_wides267, .ref m_forms268, .ref m_parts269, .ref m_charts270, .ref m_pointCount271, .ref m_contourCount272, .ref m_depths273, .ref m_xs274, .ref m_ys275, .ref m_ons276, .ref m_contours277, .int 0, .int 0, .int 0, .ref m_flags278, .ref m_part279, .int 0, .ref m_text280, .int 0, .ref m_ringX281, .ref m_ringY282, .ref m_ringOn283, .int 0, .ref m_curves284, .ref m_windings285, .ref m_rows286])), (m_file261, .inl (c_file287, 1200, .inl (fun _ => 0))), (m_bytes262, .inl (c_bytes288, 2400, .inl (fun _ => 0))), (m_places263, .inl (c_places289, 16, .inl (fun _ => 0))), (m_text280, .inl (c_text290, 12, .inl (fun _ => 0))), (m_rows286, .inl (c_rows291, 24, .inr (.inl (fun _ => 0)))), (q292, .inl (cA293, 1, .inr (.inl (fun _ => 0))))] := hD
  have hK : va_K (dC, dI) cls_ [(cF256, .int), (cA257, .int), (cB258, .long), (cX259, .int), (c_file287, .int), (c_bytes288, .int), (c_places289, .int), (c_text290, .int), (c_rows291, .long), (cA293, .long)] s := hK
  refine lv_astore_n (lv' := [(3, .ref q292), (2, .ref q260), (1, .ref q233), (0, .ref b)]) hx hb d_LW_law_19 rfl hl (by decide) rfl (fun ls hl => ?_)
  refine lv_iconst (v := 0) hx hb d_LW_law_20 (by decide) ?_
  refine lv_istore (lv' := [(4, .int 0), (3, .ref q292), (2, .ref q260), (1, .ref q233), (0, .ref b)]) hx hb d_LW_law_21 hl (by decide) rfl (fun ls hl => ?_)
  refine W.widen (k := 83) (n := 19121) (Nat.le_of_ble_eq_true rfl) (Nat.le_of_ble_eq_true rfl) ?_
  rcases (show L = 0 ∨ L = 1 ∨ L = 2 ∨ L = 3 ∨ L = 4 by omega) with rfl | rfl | rfl | rfl | rfl
  · skip
    refine lv_iload hx hb d_LW_law_23 (lv_at hl 0 rfl) ?_
    refine lv_aload_n hx hb d_LW_law_25 rfl (lv_at hl 4 rfl) ?_
    refine va_slen hx hb hX hbl hbA hS d_LW_law_26 ?_
    refine lv_ci (y := 0) (by decide +kernel) ?_
    refine lv_iconst (v := 4) hx hb d_LW_law_27 (by decide) ?_
    refine lv_isub hx hb d_LW_law_28 ?_
    refine lv_ci (y := (-4)) (by decide +kernel) ?_
    refine lv_icmp_gt (tgt := 746) hx hb d_LW_law_29 (by decide) (fun _ => ?_) (fun hc => absurd hc (by decide +kernel))
    refine lv_iconst (v := 1) hx hb d_LW_law_746 (by decide) ?_
    refine va_forget (fun q hq => (hAe _).mp (hS.2.2 q hq)) ?_
    refine W.widen (k := 600002) (n := 7302232) (Nat.le_of_ble_eq_true rfl) (Nat.le_of_ble_eq_true rfl) ?_
    exact lw_ret hx hb hr hlocks d_LW_law_747
  · skip
    refine lv_iload hx hb d_LW_law_23 (lv_at hl 0 rfl) ?_
    refine lv_aload_n hx hb d_LW_law_25 rfl (lv_at hl 4 rfl) ?_
    refine va_slen hx hb hX hbl hbA hS d_LW_law_26 ?_
    refine lv_ci (y := 1) (by decide +kernel) ?_
    refine lv_iconst (v := 4) hx hb d_LW_law_27 (by decide) ?_
    refine lv_isub hx hb d_LW_law_28 ?_
    refine lv_ci (y := (-3)) (by decide +kernel) ?_
    refine lv_icmp_gt (tgt := 746) hx hb d_LW_law_29 (by decide) (fun _ => ?_) (fun hc => absurd hc (by decide +kernel))
    refine lv_iconst (v := 1) hx hb d_LW_law_746 (by decide) ?_
    refine va_forget (fun q hq => (hAe _).mp (hS.2.2 q hq)) ?_
    refine W.widen (k := 600002) (n := 7302232) (Nat.le_of_ble_eq_true rfl) (Nat.le_of_ble_eq_true rfl) ?_
    exact lw_ret hx hb hr hlocks d_LW_law_747
  · skip
    refine lv_iload hx hb d_LW_law_23 (lv_at hl 0 rfl) ?_
    refine lv_aload_n hx hb d_LW_law_25 rfl (lv_at hl 4 rfl) ?_
    refine va_slen hx hb hX hbl hbA hS d_LW_law_26 ?_
    refine lv_ci (y := 2) (by decide +kernel) ?_
    refine lv_iconst (v := 4) hx hb d_LW_law_27 (by decide) ?_
    refine lv_isub hx hb d_LW_law_28 ?_
    refine lv_ci (y := (-2)) (by decide +kernel) ?_
    refine lv_icmp_gt (tgt := 746) hx hb d_LW_law_29 (by decide) (fun _ => ?_) (fun hc => absurd hc (by decide +kernel))
    refine lv_iconst (v := 1) hx hb d_LW_law_746 (by decide) ?_
    refine va_forget (fun q hq => (hAe _).mp (hS.2.2 q hq)) ?_
    refine W.widen (k := 600002) (n := 7302232) (Nat.le_of_ble_eq_true rfl) (Nat.le_of_ble_eq_true rfl) ?_
    exact lw_ret hx hb hr hlocks d_LW_law_747
  · skip
    refine lv_iload hx hb d_LW_law_23 (lv_at hl 0 rfl) ?_
    refine lv_aload_n hx hb d_LW_law_25 rfl (lv_at hl 4 rfl) ?_
    refine va_slen hx hb hX hbl hbA hS d_LW_law_26 ?_
    refine lv_ci (y := 3) (by decide +kernel) ?_
    refine lv_iconst (v := 4) hx hb d_LW_law_27 (by decide) ?_
    refine lv_isub hx hb d_LW_law_28 ?_
    refine lv_ci (y := (-1)) (by decide +kernel) ?_
    refine lv_icmp_gt (tgt := 746) hx hb d_LW_law_29 (by decide) (fun _ => ?_) (fun hc => absurd hc (by decide +kernel))
    refine lv_iconst (v := 1) hx hb d_LW_law_746 (by decide) ?_
    refine va_forget (fun q hq => (hAe _).mp (hS.2.2 q hq)) ?_
    refine W.widen (k := 600002) (n := 7302232) (Nat.le_of_ble_eq_true rfl) (Nat.le_of_ble_eq_true rfl) ?_
    exact lw_ret hx hb hr hlocks d_LW_law_747
  · skip
    refine lv_iload hx hb d_LW_law_23 (lv_at hl 0 rfl) ?_
    refine lv_aload_n hx hb d_LW_law_25 rfl (lv_at hl 4 rfl) ?_
    refine va_slen hx hb hX hbl hbA hS d_LW_law_26 ?_
    refine lv_ci (y := 4) (by decide +kernel) ?_
    refine lv_iconst (v := 4) hx hb d_LW_law_27 (by decide) ?_
    refine lv_isub hx hb d_LW_law_28 ?_
    refine lv_ci (y := 0) (by decide +kernel) ?_
    refine lv_icmp_gt (tgt := 746) hx hb d_LW_law_29 (by decide) (fun hc => absurd hc (by decide +kernel)) (fun _ => ?_)
    refine lv_aload_n hx hb d_LW_law_32 rfl (lv_at hl 4 rfl) ?_
    refine lv_iload hx hb d_LW_law_33 (lv_at hl 0 rfl) ?_
    refine va_sld hx hb hX hbl hbA hS (pk_in 0 4 (by decide) (by decide +kernel) (by decide)) d_LW_law_35 ?_
    refine lv_bipush (v := 15) hx hb d_LW_law_36 (by decide) ?_
    refine lv_iand hx hb d_LW_law_38 ?_
    obtain ⟨j, hj, ej⟩ := pk_andE (xs (Int32.toNatClampNeg 0)) (m := 15) 4 (by decide +kernel)
    refine lv_ci ej ?_
    have hj : j < 16 := hj
    rcases (show j = 0 ∨ j = 1 ∨ j = 2 ∨ j = 3 ∨ j = 4 ∨ j = 5 ∨ j = 6 ∨ j = 7 ∨ j = 8 ∨ j = 9 ∨ j = 10 ∨ j = 11 ∨ j = 12 ∨ j = 13 ∨ j = 14 ∨ j = 15 by omega) with rfl | rfl | rfl | rfl | rfl | rfl | rfl | rfl | rfl | rfl | rfl | rfl | rfl | rfl | rfl | rfl
    · refine lv_tableIn (off := 65) (tgt := 104) hx hb d_LW_law_39 (by decide +kernel) (by decide +kernel) (by decide +kernel) (by decide) ?_
      exact lw_c0 l hfl C0 hAe dC dI hT9 hN q233 qf234 a235 a236 a237 a238 a239 qx240 f241 f242 f243 f244 f245 f246 f247 f248 f249 f250 f251 qw252 qt253 qr254 qs255 q260 m_file261 m_bytes262 m_places263 m_lengths264 m_glyphCount265 m_ems266 m_wides267 m_forms268 m_parts269 m_charts270 m_pointCount271 m_contourCount272 m_depths273 m_xs274 m_ys275 m_ons276 m_contours277 m_flags278 m_part279 m_text280 m_ringX281 m_ringY282 m_ringOn283 m_curves284 m_windings285 m_rows286 q292 cF256 cA257 cB258 cX259 c_file287 c_bytes288 c_places289 c_text290 c_rows291 cA293 hK hP hD hS hl
    · refine lv_tableIn (off := 90) (tgt := 129) hx hb d_LW_law_39 (by decide +kernel) (by decide +kernel) (by decide +kernel) (by decide) ?_
      exact lw_c1 l hfl C0 hAe dC dI hT9 hN q233 qf234 a235 a236 a237 a238 a239 qx240 f241 f242 f243 f244 f245 f246 f247 f248 f249 f250 f251 qw252 qt253 qr254 qs255 q260 m_file261 m_bytes262 m_places263 m_lengths264 m_glyphCount265 m_ems266 m_wides267 m_forms268 m_parts269 m_charts270 m_pointCount271 m_contourCount272 m_depths273 m_xs274 m_ys275 m_ons276 m_contours277 m_flags278 m_part279 m_text280 m_ringX281 m_ringY282 m_ringOn283 m_curves284 m_windings285 m_rows286 q292 cF256 cA257 cB258 cX259 c_file287 c_bytes288 c_places289 c_text290 c_rows291 cA293 hK hP hD hS hl
    · refine lv_tableIn (off := 158) (tgt := 197) hx hb d_LW_law_39 (by decide +kernel) (by decide +kernel) (by decide +kernel) (by decide) ?_
      exact lw_c2 l hfl C0 hAe dC dI hT9 hN q233 qf234 a235 a236 a237 a238 a239 qx240 f241 f242 f243 f244 f245 f246 f247 f248 f249 f250 f251 qw252 qt253 qr254 qs255 q260 m_file261 m_bytes262 m_places263 m_lengths264 m_glyphCount265 m_ems266 m_wides267 m_forms268 m_parts269 m_charts270 m_pointCount271 m_contourCount272 m_depths273 m_xs274 m_ys275 m_ons276 m_contours277 m_flags278 m_part279 m_text280 m_ringX281 m_ringY282 m_ringOn283 m_curves284 m_windings285 m_rows286 q292 cF256 cA257 cB258 cX259 c_file287 c_bytes288 c_places289 c_text290 c_rows291 cA293 hK hP hD hS hl
    · refine lv_tableIn (off := 183) (tgt := 222) hx hb d_LW_law_39 (by decide +kernel) (by decide +kernel) (by decide +kernel) (by decide) ?_
      exact lw_c3 l hfl C0 hAe dC dI hT9 hN q233 qf234 a235 a236 a237 a238 a239 qx240 f241 f242 f243 f244 f245 f246 f247 f248 f249 f250 f251 qw252 qt253 qr254 qs255 q260 m_file261 m_bytes262 m_places263 m_lengths264 m_glyphCount265 m_ems266 m_wides267 m_forms268 m_parts269 m_charts270 m_pointCount271 m_contourCount272 m_depths273 m_xs274 m_ys275 m_ons276 m_contours277 m_flags278 m_part279 m_text280 m_ringX281 m_ringY282 m_ringOn283 m_curves284 m_windings285 m_rows286 q292 cF256 cA257 cB258 cX259 c_file287 c_bytes288 c_places289 c_text290 c_rows291 cA293 hK hP hD hS hl
    · refine lv_tableIn (off := 239) (tgt := 278) hx hb d_LW_law_39 (by decide +kernel) (by decide +kernel) (by decide +kernel) (by decide) ?_
      exact lw_c4 l hfl C0 hAe dC dI hT9 hN q233 qf234 a235 a236 a237 a238 a239 qx240 f241 f242 f243 f244 f245 f246 f247 f248 f249 f250 f251 qw252 qt253 qr254 qs255 q260 m_file261 m_bytes262 m_places263 m_lengths264 m_glyphCount265 m_ems266 m_wides267 m_forms268 m_parts269 m_charts270 m_pointCount271 m_contourCount272 m_depths273 m_xs274 m_ys275 m_ons276 m_contours277 m_flags278 m_part279 m_text280 m_ringX281 m_ringY282 m_ringOn283 m_curves284 m_windings285 m_rows286 q292 cF256 cA257 cB258 cX259 c_file287 c_bytes288 c_places289 c_text290 c_rows291 cA293 hK hP hD hS hl
    · refine lv_tableIn (off := 280) (tgt := 319) hx hb d_LW_law_39 (by decide +kernel) (by decide +kernel) (by decide +kernel) (by decide) ?_
      exact lw_c5 l hfl C0 hAe dC dI hT9 hN q233 qf234 a235 a236 a237 a238 a239 qx240 f241 f242 f243 f244 f245 f246 f247 f248 f249 f250 f251 qw252 qt253 qr254 qs255 q260 m_file261 m_bytes262 m_places263 m_lengths264 m_glyphCount265 m_ems266 m_wides267 m_forms268 m_parts269 m_charts270 m_pointCount271 m_contourCount272 m_depths273 m_xs274 m_ys275 m_ons276 m_contours277 m_flags278 m_part279 m_text280 m_ringX281 m_ringY282 m_ringOn283 m_curves284 m_windings285 m_rows286 q292 cF256 cA257 cB258 cX259 c_file287 c_bytes288 c_places289 c_text290 c_rows291 cA293 hK hP hD hS hl
    · refine lv_tableIn (off := 336) (tgt := 375) hx hb d_LW_law_39 (by decide +kernel) (by decide +kernel) (by decide +kernel) (by decide) ?_
      exact lw_c6 l hfl C0 hAe dC dI hT9 hN q233 qf234 a235 a236 a237 a238 a239 qx240 f241 f242 f243 f244 f245 f246 f247 f248 f249 f250 f251 qw252 qt253 qr254 qs255 q260 m_file261 m_bytes262 m_places263 m_lengths264 m_glyphCount265 m_ems266 m_wides267 m_forms268 m_parts269 m_charts270 m_pointCount271 m_contourCount272 m_depths273 m_xs274 m_ys275 m_ons276 m_contours277 m_flags278 m_part279 m_text280 m_ringX281 m_ringY282 m_ringOn283 m_curves284 m_windings285 m_rows286 q292 cF256 cA257 cB258 cX259 c_file287 c_bytes288 c_places289 c_text290 c_rows291 cA293 hK hP hD hS hl
    · refine lv_tableIn (off := 404) (tgt := 443) hx hb d_LW_law_39 (by decide +kernel) (by decide +kernel) (by decide +kernel) (by decide) ?_
      exact lw_c7 l hfl C0 hAe dC dI hT9 hN q233 qf234 a235 a236 a237 a238 a239 qx240 f241 f242 f243 f244 f245 f246 f247 f248 f249 f250 f251 qw252 qt253 qr254 qs255 q260 m_file261 m_bytes262 m_places263 m_lengths264 m_glyphCount265 m_ems266 m_wides267 m_forms268 m_parts269 m_charts270 m_pointCount271 m_contourCount272 m_depths273 m_xs274 m_ys275 m_ons276 m_contours277 m_flags278 m_part279 m_text280 m_ringX281 m_ringY282 m_ringOn283 m_curves284 m_windings285 m_rows286 q292 cF256 cA257 cB258 cX259 c_file287 c_bytes288 c_places289 c_text290 c_rows291 cA293 hK hP hD hS hl
    · refine lv_tableIn (off := 484) (tgt := 523) hx hb d_LW_law_39 (by decide +kernel) (by decide +kernel) (by decide +kernel) (by decide) ?_
      exact lw_c8 l hfl C0 hAe dC dI hT9 hN q233 qf234 a235 a236 a237 a238 a239 qx240 f241 f242 f243 f244 f245 f246 f247 f248 f249 f250 f251 qw252 qt253 qr254 qs255 q260 m_file261 m_bytes262 m_places263 m_lengths264 m_glyphCount265 m_ems266 m_wides267 m_forms268 m_parts269 m_charts270 m_pointCount271 m_contourCount272 m_depths273 m_xs274 m_ys275 m_ons276 m_contours277 m_flags278 m_part279 m_text280 m_ringX281 m_ringY282 m_ringOn283 m_curves284 m_windings285 m_rows286 q292 cF256 cA257 cB258 cX259 c_file287 c_bytes288 c_places289 c_text290 c_rows291 cA293 hK hP hD hS hl
    · refine lv_tableIn (off := 552) (tgt := 591) hx hb d_LW_law_39 (by decide +kernel) (by decide +kernel) (by decide +kernel) (by decide) ?_
      exact lw_c9 l hfl C0 hAe dC dI hT9 hN q233 qf234 a235 a236 a237 a238 a239 qx240 f241 f242 f243 f244 f245 f246 f247 f248 f249 f250 f251 qw252 qt253 qr254 qs255 q260 m_file261 m_bytes262 m_places263 m_lengths264 m_glyphCount265 m_ems266 m_wides267 m_forms268 m_parts269 m_charts270 m_pointCount271 m_contourCount272 m_depths273 m_xs274 m_ys275 m_ons276 m_contours277 m_flags278 m_part279 m_text280 m_ringX281 m_ringY282 m_ringOn283 m_curves284 m_windings285 m_rows286 q292 cF256 cA257 cB258 cX259 c_file287 c_bytes288 c_places289 c_text290 c_rows291 cA293 hK hP hD hS hl
    · refine lv_tableIn (off := 577) (tgt := 616) hx hb d_LW_law_39 (by decide +kernel) (by decide +kernel) (by decide +kernel) (by decide) ?_
      exact lw_c10 l hfl C0 hAe dC dI hT9 hN q233 qf234 a235 a236 a237 a238 a239 qx240 f241 f242 f243 f244 f245 f246 f247 f248 f249 f250 f251 qw252 qt253 qr254 qs255 q260 m_file261 m_bytes262 m_places263 m_lengths264 m_glyphCount265 m_ems266 m_wides267 m_forms268 m_parts269 m_charts270 m_pointCount271 m_contourCount272 m_depths273 m_xs274 m_ys275 m_ons276 m_contours277 m_flags278 m_part279 m_text280 m_ringX281 m_ringY282 m_ringOn283 m_curves284 m_windings285 m_rows286 q292 cF256 cA257 cB258 cX259 c_file287 c_bytes288 c_places289 c_text290 c_rows291 cA293 hK hP hD hS hl
    · refine lv_tableIn (off := 590) (tgt := 629) hx hb d_LW_law_39 (by decide +kernel) (by decide +kernel) (by decide +kernel) (by decide) ?_
      exact lw_c11 l hfl C0 hAe dC dI hT9 hN q233 qf234 a235 a236 a237 a238 a239 qx240 f241 f242 f243 f244 f245 f246 f247 f248 f249 f250 f251 qw252 qt253 qr254 qs255 q260 m_file261 m_bytes262 m_places263 m_lengths264 m_glyphCount265 m_ems266 m_wides267 m_forms268 m_parts269 m_charts270 m_pointCount271 m_contourCount272 m_depths273 m_xs274 m_ys275 m_ons276 m_contours277 m_flags278 m_part279 m_text280 m_ringX281 m_ringY282 m_ringOn283 m_curves284 m_windings285 m_rows286 q292 cF256 cA257 cB258 cX259 c_file287 c_bytes288 c_places289 c_text290 c_rows291 cA293 hK hP hD hS hl
    · refine lv_tableIn (off := 646) (tgt := 685) hx hb d_LW_law_39 (by decide +kernel) (by decide +kernel) (by decide +kernel) (by decide) ?_
      exact lw_c12 l hfl C0 hAe dC dI hT9 hN q233 qf234 a235 a236 a237 a238 a239 qx240 f241 f242 f243 f244 f245 f246 f247 f248 f249 f250 f251 qw252 qt253 qr254 qs255 q260 m_file261 m_bytes262 m_places263 m_lengths264 m_glyphCount265 m_ems266 m_wides267 m_forms268 m_parts269 m_charts270 m_pointCount271 m_contourCount272 m_depths273 m_xs274 m_ys275 m_ons276 m_contours277 m_flags278 m_part279 m_text280 m_ringX281 m_ringY282 m_ringOn283 m_curves284 m_windings285 m_rows286 q292 cF256 cA257 cB258 cX259 c_file287 c_bytes288 c_places289 c_text290 c_rows291 cA293 hK hP hD hS hl
    · refine lv_tableOut (tgt := 740) hx hb d_LW_law_39 (by decide +kernel) (by decide) ?_
      exact lw_end l C0 hAe hS (lv_sub hl [0, 4] rfl) (Nat.le_of_ble_eq_true rfl) (Nat.le_of_ble_eq_true rfl)
    · refine lv_tableOut (tgt := 740) hx hb d_LW_law_39 (by decide +kernel) (by decide) ?_
      exact lw_end l C0 hAe hS (lv_sub hl [0, 4] rfl) (Nat.le_of_ble_eq_true rfl) (Nat.le_of_ble_eq_true rfl)
    · refine lv_tableOut (tgt := 740) hx hb d_LW_law_39 (by decide +kernel) (by decide) ?_
      exact lw_end l C0 hAe hS (lv_sub hl [0, 4] rfl) (Nat.le_of_ble_eq_true rfl) (Nat.le_of_ble_eq_true rfl)
-- ===== YOUR PART ENDS =====
set_option maxHeartbeats 4000000 in
theorem lw_walk (l : Launch) (hfl : l.flags = flags0) (b : Addr) (xs : List Int32) : MetFree l x (headSpec (Jvm.Cond.code x code maxLocals ret :: tables_1) room_1) (lw_P b xs) (fun _ _ _ _ _ => True) lw_Q := by
  refine MetFree.of_bodyS (code := code) (maxLocals := maxLocals) (ret := ret) (by decide) ?_ ?_
  · intro args s m h hn
    obtain ⟨meth, c, h1, h2, h3, h4, h5, h6, -, -⟩ := Cond.code_spec hn (atoms_spec (ws := Jvm.Cond.code x code maxLocals ret :: tables_1) h _ List.mem_cons_self)
    exact ⟨meth, c, h1, h2, h3, h4, h5, h6⟩
  · intro p e s m args below meth c s₁ B hml0 hP _
    obtain ⟨rfl, hx, hbd, hgv⟩ := hP
    obtain ⟨scr, harrAt, hlist, hof, hsmall⟩ := hx
    obtain ⟨hcb, hkn, -, -⟩ := State.arrayAt?_spec harrAt
    have hown : s.vm.findClass R_law = some m.cls := findClass_of_methodNamed B.named
    have hts0 : ∀ c ∈ (Jvm.Cond.code x code maxLocals ret :: tables_1), c.before #[Value.ref b] s = true := atoms_spec (ws := Jvm.Cond.code x code maxLocals ret :: tables_1) B.pre
    have hts : ∀ w ∈ lw_tbl, w.before #[Value.ref b] s = true := k2_hts_sels lw_privs (fun w hw => hts0 w (List.mem_cons_of_mem _ hw)) lw_privs_ok
    have hml : c.maxLocals = 8 := B.maxLocals_eq (hts0 _ List.mem_cons_self)
    have X₀ : Stand p l e room_1 s m #[Value.ref b] below meth c s₁ [] 0 0 := Stand.of_body B
    have hh0 : s₁.heap = s.heap := by rw [B.state]; rfl
    have hsz : scr.slots.size = xs.length := by rw [← Array.length_toList, hlist, List.length_map]
    have hval : ∀ j : Nat, j < xs.length → scr.slots[j]? = some (.int (xs.getD j 0)) := fun j hj => by
      rw [← Array.getElem?_toList, hlist]
      simp [hj]
    have hbl : b < s.heap.size := (Array.getElem?_eq_some_iff.mp hcb).1
    have hX : va_X b xs.length (fun j => xs.getD j 0) s s.heap := ⟨scr, hcb, hof, hkn, hsz, hval⟩
    have K : W p l e room_1 s m #[Value.ref b] below meth c s₁.heap [] 0 0 (lw_Z below #[Value.ref b] s) (entryFrame m ([Value.ref b] : List Value).toArray 8) := by
      rw [hh0]
      exact whole_start l hfl hbd ⟨B.exec, B.bytes, B.returns, hml, hown, hts, hX, hbl, B.notSynchronized, hgv⟩
    obtain ⟨t, a1, o, b1, b2, b3⟩ := K s₁ rfl X₀
    exact ⟨t, o, a1, b1, b2, b3⟩
theorem lw_pre_spec {args : Array Value} {s : State} (h : (Jvm.Cond.and given_1 narrow_1).before args s = true) (hr : rest_1_c.before args s = true) : ∃ (b : Addr) (xs : List Int32), lw_P b xs args s := by
  have hs := flat_of_before _ h
  have hq := flat_of_before _ hr
  have hc : (Cond.count 1).before args s = true := hs _ (by decide +kernel)
  have harr : (Cond.arrayOf (.arg 0) .int).before args s = true := hs _ (by decide +kernel)
  have hle : (Cond.le (.length (.arg 0)) (.int 4)).before args s = true := hs _ (by decide +kernel)
  have hlen : (Cond.isInt (.length (.arg 0))).before args s = true := hq _ (by decide +kernel)
  have hall : (Cond.all (.arg 0) (.isInt (.elem (.arg 0) (.index 0)))).before args s = true := hq _ (by decide +kernel)
  obtain ⟨b, xs, hb, hx⟩ := State.ints_of_pre rfl harr hlen hall
  have hsm : xs.length < 2 ^ 31 := hx.choose_spec.2.2.2
  have hev : (Term.length (.arg 0)).eval args s none [] s = some (.int xs.length.toInt32) := hx.length_eval hb
  have hv := Cond.le_ints hev (show (Term.int 4).eval args s none [] s = some (.int 4) from rfl)
  have hd : xs.length.toInt32 ≤ 4 := by
    simpa [Cond.before, Cond.holds, hv] using hle
  have hN : xs.length ≤ 4 := (Int32.ofNat_le_ofNat hsm (by decide)).mp (show Int32.ofNat xs.length ≤ Int32.ofNat 4 from hd)
  exact ⟨b, xs, Cond.one_arg hc (show args[0]? = some (.ref b) from hb), hx, hN, h⟩
theorem lw_comes (l : Launch) (hfl : l.flags = flags0) : Comes l x (Jvm.Cond.code x code maxLocals ret :: tables_1) room_1 (fun tb e args s => Calls_1 tb e args s ∧ rest_1 tb e args s ∧ Pre_1 tb e args s)
    (fun _ _ args s o t => lw_Q args s o t) := by
  intro p e ha hc hk s m args below hf hfit hheap happ hpre
  obtain ⟨b, xs, hP⟩ := lw_pre_spec hpre.2.2 hpre.2.1
  obtain ⟨k, o, h1, h2, h3, hQ⟩ := lw_walk l hfl b xs p e ha hc hk s m args below hf ((Spec.applies_iff_loose hf).mp happ).1 hP trivial
  exact ⟨k, o, h1, h2, h3, hQ⟩
theorem lw_frame {s t : State} {o : Outcome} {args : Array Value} (h : Framed s o t [] 600002 7302232) :
    Framed s o t (fieldLocs frame_1_writes args s ++ arrayLocs frame_1_arrays args s ++ staticLocs frame_1_statics s) 600002 7302232 := h
theorem lw_limb (L : Cond) (hL : ∀ (args : Array Value) (s t : State), L.after args s (.returned (some (.int 1))) t = true) :
    ArmFor flags0 classFile x code maxLocals ret World_1 tables_1 room_1 Calls_1 rest_1 Pre_1
      (fun tb e a s o t => postC L tb e a s o t ∧ Framed s o t (fieldLocs frame_1_writes a s ++ arrayLocs frame_1_arrays a s ++ staticLocs frame_1_statics s) 600002 7302232) := by
  intro l hfl _ _ p e ha hc hk s m args below hf hfit hheap happ hpre
  obtain ⟨k, o, h1, h2, h3, rfl, hF⟩ := lw_comes l hfl p e ha hc hk s m args below hf hfit hheap happ hpre
  exact ⟨k, _, h1, h2, h3, hL args s _, lw_frame hF⟩
theorem i_vc : Claimed_1_1 ∧ Claimed_1_2 := ⟨lw_limb limb_1_1 (fun args s t => by simp [limb_1_1, Cond.after, Cond.holds, Cond.value]), lw_limb limb_1_2 (fun args s t => Cond.after_iff.mpr (by
  first | (rw [show limb_1_2 = Cond.eq .result (.int 1) from rfl, Cond.eq_ints (x := 1) (y := 1) rfl rfl]; simp; done) | (simp [limb_1_2, Cond.value, Term.eval]; done)))⟩
