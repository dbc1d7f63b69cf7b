abbrev b_MD_load : ByteArray := prog_12_method_35_code
def y_MD_load : MethodName := ⟨R_MD, "load", "(Z)I"⟩
def s_MD_load : List Cond := .code y_MD_load b_MD_load 4 (some .int) :: tw_T
theorem w_855 : (Jvm.Cond.fieldLink "GlyphLinesModel" (207 : Nat) "GlyphLinesModel" "side" "I") ∈ tw_T := tw_of 855 (by decide +kernel) (by decide +kernel)
theorem w_989 : (Jvm.Cond.methodLink "GlyphLinesModel" (210 : Nat) ({ cls := "GlyphLinesModel", name := "isFile", desc := "(I)Z" } : Jvm.MethodName)) ∈ tw_T := tw_of 989 (by decide +kernel) (by decide +kernel)
theorem w_991 : (Jvm.Cond.instanceMethod ({ cls := "GlyphLinesModel", name := "isFile", desc := "(I)Z" } : Jvm.MethodName)) ∈ tw_T := tw_of 991 (by decide +kernel) (by decide +kernel)
theorem w_992 : (Jvm.Cond.code ({ cls := "GlyphLinesModel", name := "isFile", desc := "(I)Z" } : Jvm.MethodName) prog_12_method_12_code (13 : Nat) (Option.some Jvm.ClassFile.FieldType.boolean)) ∈ tw_T := tw_of 992 (by decide +kernel) (by decide +kernel)
theorem wp_35 : Cond.selects "GlyphLinesModel" ({ cls := "GlyphLinesModel", name := "isFile", desc := "(I)Z" } : Jvm.MethodName) ({ cls := "GlyphLinesModel", name := "isFile", desc := "(I)Z" } : Jvm.MethodName) ∈ tw_T := tw_priv 35 (({ cls := "GlyphLinesModel", name := "isFile", desc := "(I)Z" } : Jvm.MethodName), 36) (by decide +kernel) (by decide +kernel)
theorem d_MD_load_0 : decode b_MD_load 0 = .ok (.aload_n 0, 1) := by decide +kernel
theorem d_MD_load_1 : decode b_MD_load 1 = .ok (.iconst 0, 1) := by decide +kernel
theorem d_MD_load_10 : decode b_MD_load 10 = .ok (.isub, 1) := by decide +kernel
theorem d_MD_load_11 : decode b_MD_load 11 = .ok (.istore_n 2, 1) := by decide +kernel
theorem d_MD_load_12 : decode b_MD_load 12 = .ok (.iconst 0, 1) := by decide +kernel
theorem d_MD_load_13 : decode b_MD_load 13 = .ok (.istore_n 3, 1) := by decide +kernel
theorem d_MD_load_14 : decode b_MD_load 14 = .ok (.iload_n 3, 1) := by decide +kernel
theorem d_MD_load_15 : decode b_MD_load 15 = .ok (.sipush 1200, 3) := by decide +kernel
theorem d_MD_load_18 : decode b_MD_load 18 = .ok (.if_icmp .ge (39), 3) := by decide +kernel
theorem d_MD_load_2 : decode b_MD_load 2 = .ok (.putfield 90, 3) := by decide +kernel
theorem d_MD_load_21 : decode b_MD_load 21 = .ok (.aload_n 0, 1) := by decide +kernel
theorem d_MD_load_22 : decode b_MD_load 22 = .ok (.getfield 13, 3) := by decide +kernel
theorem d_MD_load_25 : decode b_MD_load 25 = .ok (.sipush 1200, 3) := by decide +kernel
theorem d_MD_load_28 : decode b_MD_load 28 = .ok (.iload_n 2, 1) := by decide +kernel
theorem d_MD_load_29 : decode b_MD_load 29 = .ok (.imul, 1) := by decide +kernel
theorem d_MD_load_30 : decode b_MD_load 30 = .ok (.iload_n 3, 1) := by decide +kernel
theorem d_MD_load_31 : decode b_MD_load 31 = .ok (.iadd, 1) := by decide +kernel
theorem d_MD_load_32 : decode b_MD_load 32 = .ok (.iload_n 3, 1) := by decide +kernel
theorem d_MD_load_33 : decode b_MD_load 33 = .ok (.aload_n 0, 1) := by decide +kernel
theorem d_MD_load_34 : decode b_MD_load 34 = .ok (.getfield 94, 3) := by decide +kernel
theorem d_MD_load_37 : decode b_MD_load 37 = .ok (.if_icmp .ge (12), 3) := by decide +kernel
theorem d_MD_load_49 : decode b_MD_load 49 = .ok (.iconst 0, 1) := by decide +kernel
theorem d_MD_load_5 : decode b_MD_load 5 = .ok (.iconst 1, 1) := by decide +kernel
theorem d_MD_load_50 : decode b_MD_load 50 = .ok (.iastore, 1) := by decide +kernel
theorem d_MD_load_51 : decode b_MD_load 51 = .ok (.iinc 3 (1), 3) := by decide +kernel
theorem d_MD_load_54 : decode b_MD_load 54 = .ok (.goto (-40), 3) := by decide +kernel
theorem d_MD_load_57 : decode b_MD_load 57 = .ok (.aload_n 0, 1) := by decide +kernel
theorem d_MD_load_58 : decode b_MD_load 58 = .ok (.iload_n 2, 1) := by decide +kernel
theorem d_MD_load_59 : decode b_MD_load 59 = .ok (.invokevirtual 210, 3) := by decide +kernel
theorem d_MD_load_6 : decode b_MD_load 6 = .ok (.aload_n 0, 1) := by decide +kernel
theorem d_MD_load_62 : decode b_MD_load 62 = .ok (.ifCond .ne (5), 3) := by decide +kernel
theorem d_MD_load_65 : decode b_MD_load 65 = .ok (.iconst (-1), 1) := by decide +kernel
theorem d_MD_load_66 : decode b_MD_load 66 = .ok (.ireturn, 1) := by decide +kernel
theorem d_MD_load_7 : decode b_MD_load 7 = .ok (.getfield 207, 3) := by decide +kernel
set_option maxHeartbeats 4000000 in
set_option maxRecDepth 100000 in
/-- GlyphLinesModel.load's own loop: 1200 bytes are laid, whatever they are -/
theorem md_loop {p : Program} {l : Launch} {e : Env} {R : Room} {s : State} {m : MethodId} {args : Array Value} {below : List Frame} {meth : Method} {c : Code} {cells slots : Nat} {Q : State → Prop} {A : Nat → Prop} (hx : p.tables.exec = Jvm.exec) (hb : c.code = b_MD_load) (hts : ∀ w ∈ s_MD_load, w.before args s = true) (hown : s.vm.findClass R_MD = some m.cls) (dC : Nat → ClassId) (dI : Nat → Nat → Nat) (h1 m_file m_bytes m_places m_lengths m_glyphCount m_ems m_wides m_forms m_parts m_charts m_pointCount m_contourCount m_depths m_xs m_ys m_ons m_contours m_flags m_part m_text m_ringX m_ringY m_ringOn m_curves m_windings m_rows : Nat) (c_bytes c_places : ClassId) (ck : Int32) (hK : va_K (dC, dI) cls_ [(c_bytes, .int), (c_places, .int)] s)
    (kx : ∀ (f : Nat → Int32) (H : Heap) (locs : List Loc) (ls : Array Slot), va_P (dC, dI) cls_ [(h1, .inr (10, [.int 0, .int 0, .ref m_file, .int 0, .int 0, .ref m_bytes, .ref m_places, .ref m_lengths, .ref m_glyphCount, .ref m_ems, .ref m_wides, .ref m_forms, .ref m_parts, .ref m_charts, .ref m_pointCount, .ref m_contourCount, .ref m_depths, .ref m_xs, .ref m_ys, .ref m_ons, .ref m_contours, .int 0, .int 0, .int 0, .ref m_flags, .ref m_part, .int 0, .ref m_text, .int 0, .ref m_ringX, .ref m_ringY, .ref m_ringOn, .int 0, .ref m_curves, .ref m_windings, .ref m_rows])), (m_bytes, .inl (c_bytes, 2400, .inl (f))), (m_places, .inl (c_places, 16, .inl (fun _ => 0)))] H → va_D A [(h1, .inr (10, [.int 0, .int 0, .ref m_file, .int 0, .int 0, .ref m_bytes, .ref m_places, .ref m_lengths, .ref m_glyphCount, .ref m_ems, .ref m_wides, .ref m_forms, .ref m_parts, .ref m_charts, .ref m_pointCount, .ref m_contourCount, .ref m_depths, .ref m_xs, .ref m_ys, .ref m_ons, .ref m_contours, .int 0, .int 0, .int 0, .ref m_flags, .ref m_part, .int 0, .ref m_text, .int 0, .ref m_ringX, .ref m_ringY, .ref m_ringOn, .int 0, .ref m_curves, .ref m_windings, .ref m_rows])), (m_bytes, .inl (c_bytes, 2400, .inl (f))), (m_places, .inl (c_places, 16, .inl (fun _ => 0)))] → va_S A s.heap H locs → lv_has ls 4 [(3, .int (nI (1200))), (2, .int 1), (0, .ref h1), (1, .int ck)] → W p l e R s m args below meth c H locs cells slots Q (F0 m 57 ls [])) :
    ∀ (n k : Nat), k + n = 1200 → ∀ (f : Nat → Int32) (H : Heap) (locs : List Loc) (ls : Array Slot), va_P (dC, dI) cls_ [(h1, .inr (10, [.int 0, .int 0, .ref m_file, .int 0, .int 0, .ref m_bytes, .ref m_places, .ref m_lengths, .ref m_glyphCount, .ref m_ems, .ref m_wides, .ref m_forms, .ref m_parts, .ref m_charts, .ref m_pointCount, .ref m_contourCount, .ref m_depths, .ref m_xs, .ref m_ys, .ref m_ons, .ref m_contours, .int 0, .int 0, .int 0, .ref m_flags, .ref m_part, .int 0, .ref m_text, .int 0, .ref m_ringX, .ref m_ringY, .ref m_ringOn, .int 0, .ref m_curves, .ref m_windings, .ref m_rows])), (m_bytes, .inl (c_bytes, 2400, .inl (f))), (m_places, .inl (c_places, 16, .inl (fun _ => 0)))] H → va_D A [(h1, .inr (10, [.int 0, .int 0, .ref m_file, .int 0, .int 0, .ref m_bytes, .ref m_places, .ref m_lengths, .ref m_glyphCount, .ref m_ems, .ref m_wides, .ref m_forms, .ref m_parts, .ref m_charts, .ref m_pointCount, .ref m_contourCount, .ref m_depths, .ref m_xs, .ref m_ys, .ref m_ons, .ref m_contours, .int 0, .int 0, .int 0, .ref m_flags, .ref m_part, .int 0, .ref m_text, .int 0, .ref m_ringX, .ref m_ringY, .ref m_ringOn, .int 0, .ref m_curves, .ref m_windings, .ref m_rows])), (m_bytes, .inl (c_bytes, 2400, .inl (f))), (m_places, .inl (c_places, 16, .inl (fun _ => 0)))] → va_S A s.heap H locs → lv_has ls 4 [(3, .int (nI (k))), (2, .int 1), (0, .ref h1), (1, .int ck)] → W p l e R s m args below meth c H locs cells slots Q (F0 m 14 ls []) := by
  intro n
  induction n with
  | zero =>
    intro k hk f H locs ls hP hD hS hl
    have hk : k = 1200 := by omega
    subst hk
    refine lv_iload_n hx hb d_MD_load_14 rfl (lv_at hl 0 rfl) ?_
    refine lv_sipush (v := 1200) hx hb d_MD_load_15 (by decide) ?_
    refine lv_icmp_ge (tgt := 57) hx hb d_MD_load_18 (by decide) (fun _ => ?_) (fun hc => absurd (by decide +kernel : (1200 : Int32) ≤ nI 1200) hc)
    exact kx f H locs ls hP hD hS hl
  | succ n ih =>
    intro k hk f H locs ls hP hD hS hl
    refine lv_iload_n hx hb d_MD_load_14 rfl (lv_at hl 0 rfl) ?_
    refine lv_sipush (v := 1200) hx hb d_MD_load_15 (by decide) ?_
    refine lv_icmp_ge (tgt := 57) hx hb d_MD_load_18 (by decide) (fun hc => absurd hc (nI_ge (a := k) (b := 1200) (by omega) (by decide))) (fun _ => ?_)
    refine lv_aload_n hx hb d_MD_load_21 rfl (lv_at hl 2 rfl) ?_
    refine va_get (D := (dC, dI)) (ci := 10) (v := .ref m_bytes) (C := R_MD) (T := F_MD) (N := 36) hx hb hts in_MD hown hK hP 0 rfl rfl 5 (by decide) (hts _ (List.mem_cons_of_mem _ w_857)) (fun _ h9 => h9) rfl d_MD_load_22 ?_
    refine lv_sipush (v := 1200) hx hb d_MD_load_25 (by decide) ?_
    refine lv_iload_n hx hb d_MD_load_28 rfl (lv_at hl 1 rfl) ?_
    refine lv_imul hx hb d_MD_load_29 ?_
    refine lv_ci (y := 1200) (by decide +kernel) ?_
    refine lv_iload_n hx hb d_MD_load_30 rfl (lv_at hl 0 rfl) ?_
    refine lv_iadd hx hb d_MD_load_31 ?_
    refine lv_iload_n hx hb d_MD_load_32 rfl (lv_at hl 0 rfl) ?_
    refine lv_aload_n hx hb d_MD_load_33 rfl (lv_at hl 2 rfl) ?_
    refine va_get (D := (dC, dI)) (ci := 10) (v := .int 0) (C := R_MD) (T := F_MD) (N := 36) hx hb hts in_MD hown hK hP 0 rfl rfl 1 (by decide) (hts _ (List.mem_cons_of_mem _ w_853)) (fun _ h9 => h9) rfl d_MD_load_34 ?_
    refine lv_icmp_ge (tgt := 49) hx hb d_MD_load_37 (by decide) (fun _ => ?_) (fun hc => absurd (nI_pos' (by omega)) hc)
    refine lv_iconst (v := 0) hx hb d_MD_load_49 (by decide) ?_
    refine va_iast hx hb hK hP hD hS 1 0 rfl rfl (pk_in (1200 + k) 2400 (by omega) (nI_add 1200 k) (by decide)) d_MD_load_50 (fun H locs hP hD hS => ?_)
    have hP : va_P (dC, dI) cls_ [(h1, .inr (10, [.int 0, .int 0, .ref m_file, .int 0, .int 0, .ref m_bytes, .ref m_places, .ref m_lengths, .ref m_glyphCount, .ref m_ems, .ref m_wides, .ref m_forms, .ref m_parts, .ref m_charts, .ref m_pointCount, .ref m_contourCount, .ref m_depths, .ref m_xs, .ref m_ys, .ref m_ons, .ref m_contours, .int 0, .int 0, .int 0, .ref m_flags, .ref m_part, .int 0, .ref m_text, .int 0, .ref m_ringX, .ref m_ringY, .ref m_ringOn, .int 0, .ref m_curves, .ref m_windings, .ref m_rows])), (m_bytes, .inl (c_bytes, 2400, .inl (upd (f) (Int32.toNatClampNeg (1200 + nI k)) (0)))), (m_places, .inl (c_places, 16, .inl (fun _ => 0)))] H := hP
    have hD : va_D A [(h1, .inr (10, [.int 0, .int 0, .ref m_file, .int 0, .int 0, .ref m_bytes, .ref m_places, .ref m_lengths, .ref m_glyphCount, .ref m_ems, .ref m_wides, .ref m_forms, .ref m_parts, .ref m_charts, .ref m_pointCount, .ref m_contourCount, .ref m_depths, .ref m_xs, .ref m_ys, .ref m_ons, .ref m_contours, .int 0, .int 0, .int 0, .ref m_flags, .ref m_part, .int 0, .ref m_text, .int 0, .ref m_ringX, .ref m_ringY, .ref m_ringOn, .int 0, .ref m_curves, .ref m_windings, .ref m_rows])), (m_bytes, .inl (c_bytes, 2400, .inl (upd (f) (Int32.toNatClampNeg (1200 + nI k)) (0)))), (m_places, .inl (c_places, 16, .inl (fun _ => 0)))] := hD
    refine lv_iinc (k := 0) (v := nI (k + 1)) (lv' := [(3, .int (nI (k + 1))), (2, .int 1), (0, .ref h1), (1, .int ck)]) hx hb d_MD_load_51 hl rfl (by rw [nI_succ]; rfl) (by decide) rfl (fun ls hl => ?_)
    refine lv_goto (tgt := 14) hx hb d_MD_load_54 (by decide) ?_
    exact ih (k + 1) (by omega) _ H locs ls hP hD hS hl
set_option maxHeartbeats 4000000 in
set_option maxRecDepth 100000 in
/-- GlyphLinesModel.load -/
theorem c_MD_load (l : Launch) (dC : Nat → ClassId) (dI : Nat → Nat → Nat) (h1 m_file m_bytes m_places m_lengths m_glyphCount m_ems m_wides m_forms m_parts m_charts m_pointCount m_contourCount m_depths m_xs m_ys m_ons m_contours m_flags m_part m_text m_ringX m_ringY m_ringOn m_curves m_windings m_rows : Nat) (c_bytes c_places : ClassId) (ck : Int32) (sz : Nat) : Met l y_MD_load s_MD_load ({ frames := 10, cells := 0, slots := 0, locals := 300 }) (va_Pc [.ref h1, .int ck] (fun U => U.heap.size = sz ∧ va_P (dC, dI) cls_ [(h1, .inr (10, [.int 0, .int 0, .ref m_file, .int 0, .int 0, .ref m_bytes, .ref m_places, .ref m_lengths, .ref m_glyphCount, .ref m_ems, .ref m_wides, .ref m_forms, .ref m_parts, .ref m_charts, .ref m_pointCount, .ref m_contourCount, .ref m_depths, .ref m_xs, .ref m_ys, .ref m_ons, .ref m_contours, .int 0, .int 0, .int 0, .ref m_flags, .ref m_part, .int 0, .ref m_text, .int 0, .ref m_ringX, .ref m_ringY, .ref m_ringOn, .int 0, .ref m_curves, .ref m_windings, .ref m_rows])), (m_bytes, .inl (c_bytes, 2400, .inl (fun _ => 0))), (m_places, .inl (c_places, 16, .inl (fun _ => 0)))] U.heap ∧ va_K (dC, dI) cls_ [(c_bytes, .int), (c_places, .int)] U ∧ va_D (fun _ => True) [(h1, .inr (10, [.int 0, .int 0, .ref m_file, .int 0, .int 0, .ref m_bytes, .ref m_places, .ref m_lengths, .ref m_glyphCount, .ref m_ems, .ref m_wides, .ref m_forms, .ref m_parts, .ref m_charts, .ref m_pointCount, .ref m_contourCount, .ref m_depths, .ref m_xs, .ref m_ys, .ref m_ons, .ref m_contours, .int 0, .int 0, .int 0, .ref m_flags, .ref m_part, .int 0, .ref m_text, .int 0, .ref m_ringX, .ref m_ringY, .ref m_ringOn, .int 0, .ref m_curves, .ref m_windings, .ref m_rows])), (m_bytes, .inl (c_bytes, 2400, .inl (fun _ => 0))), (m_places, .inl (c_places, 16, .inl (fun _ => 0)))])) (va_Qi (fun (r : Int32) (_ : Unit) => r = -1) (fun (_ : Unit) (t : State) => True) (va_A [(h1, .inr (10, [.int 0, .int 0, .ref m_file, .int 0, .int 0, .ref m_bytes, .ref m_places, .ref m_lengths, .ref m_glyphCount, .ref m_ems, .ref m_wides, .ref m_forms, .ref m_parts, .ref m_charts, .ref m_pointCount, .ref m_contourCount, .ref m_depths, .ref m_xs, .ref m_ys, .ref m_ons, .ref m_contours, .int 0, .int 0, .int 0, .ref m_flags, .ref m_part, .int 0, .ref m_text, .int 0, .ref m_ringX, .ref m_ringY, .ref m_ringOn, .int 0, .ref m_curves, .ref m_windings, .ref m_rows])), (m_bytes, .inl (c_bytes, 2400, .inl (fun _ => 0))), (m_places, .inl (c_places, 16, .inl (fun _ => 0)))] sz)) 0 0 (va_A [(h1, .inr (10, [.int 0, .int 0, .ref m_file, .int 0, .int 0, .ref m_bytes, .ref m_places, .ref m_lengths, .ref m_glyphCount, .ref m_ems, .ref m_wides, .ref m_forms, .ref m_parts, .ref m_charts, .ref m_pointCount, .ref m_contourCount, .ref m_depths, .ref m_xs, .ref m_ys, .ref m_ons, .ref m_contours, .int 0, .int 0, .int 0, .ref m_flags, .ref m_part, .int 0, .ref m_text, .int 0, .ref m_ringX, .ref m_ringY, .ref m_ringOn, .int 0, .ref m_curves, .ref m_windings, .ref m_rows])), (m_bytes, .inl (c_bytes, 2400, .inl (fun _ => 0))), (m_places, .inl (c_places, 16, .inl (fun _ => 0)))] sz) := by
  refine Met.ofW (cc := b_MD_load) (maxL := 4) (ret := (some .int)) (by decide) rfl ?_
  intro p e s m args below meth c s₁ B hml hv
  obtain ⟨rfl, hsz, hP, hK, hD0⟩ := hv
  have hx := B.exec
  have hb := B.bytes
  have hr := B.returns
  have hts := atoms_spec (ws := s_MD_load) B.pre
  have hown : s.vm.findClass R_MD = some m.cls := findClass_of_methodNamed B.named
  have hlocks := B.notSynchronized
  subst hsz
  have hD := hD0.self (sz := s.heap.size)
  generalize hAe : va_A [(h1, .inr (10, [.int 0, .int 0, .ref m_file, .int 0, .int 0, .ref m_bytes, .ref m_places, .ref m_lengths, .ref m_glyphCount, .ref m_ems, .ref m_wides, .ref m_forms, .ref m_parts, .ref m_charts, .ref m_pointCount, .ref m_contourCount, .ref m_depths, .ref m_xs, .ref m_ys, .ref m_ons, .ref m_contours, .int 0, .int 0, .int 0, .ref m_flags, .ref m_part, .int 0, .ref m_text, .int 0, .ref m_ringX, .ref m_ringY, .ref m_ringOn, .int 0, .ref m_curves, .ref m_windings, .ref m_rows])), (m_bytes, .inl (c_bytes, 2400, .inl (fun _ => 0))), (m_places, .inl (c_places, 16, .inl (fun _ => 0)))] s.heap.size = A at hD ⊢
  have hA : ∀ q : Nat, s.heap.size ≤ q → A q := fun q h => by rw [← hAe]; exact Or.inr h
  have hS : va_S A s.heap s.heap [] := va_S.rf
  have hP : va_P (dC, dI) cls_ [(h1, .inr (10, [.int 0, .int 0, .ref m_file, .int 0, .int 0, .ref m_bytes, .ref m_places, .ref m_lengths, .ref m_glyphCount, .ref m_ems, .ref m_wides, .ref m_forms, .ref m_parts, .ref m_charts, .ref m_pointCount, .ref m_contourCount, .ref m_depths, .ref m_xs, .ref m_ys, .ref m_ons, .ref m_contours, .int 0, .int 0, .int 0, .ref m_flags, .ref m_part, .int 0, .ref m_text, .int 0, .ref m_ringX, .ref m_ringY, .ref m_ringOn, .int 0, .ref m_curves, .ref m_windings, .ref m_rows])), (m_bytes, .inl (c_bytes, 2400, .inl (fun _ => 0))), (m_places, .inl (c_places, 16, .inl (fun _ => 0)))] s.heap := hP
  have hl := lv_entry ([.ref h1, .int ck]) (n := 4) (Nat.le_of_ble_eq_true rfl)
  rw [lg_entry_eq]
  generalize (lg_sl ([.ref h1, .int ck]) ++ List.replicate (4 - (lg_sl ([.ref h1, .int ck])).length) Slot.unset).toArray = ls at hl ⊢
  have hl : lv_has ls 4 [(0, .ref h1), (1, .int ck)] := hl
  refine lv_aload_n hx hb d_MD_load_0 rfl (lv_at hl 0 rfl) ?_
  refine lv_iconst (v := 0) hx hb d_MD_load_1 (by decide) ?_
  refine va_put (D := (dC, dI)) (ci := 10) (v := .int 0) (ty := .int) (C := R_MD) (T := F_MD) (N := 36) hx hb hts in_MD t_MD t_MD_ok n_MD hown hK hP hD hS 0 rfl rfl 0 (by decide) (hts _ (List.mem_cons_of_mem _ w_852)) (fun _ h9 => h9) rfl  (by decide +kernel) rfl rfl (Nat.le_of_ble_eq_true rfl) d_MD_load_2 (fun H locs hP hD hS => ?_)
  have hP : va_P (dC, dI) cls_ [(h1, .inr (10, [.int 0, .int 0, .ref m_file, .int 0, .int 0, .ref m_bytes, .ref m_places, .ref m_lengths, .ref m_glyphCount, .ref m_ems, .ref m_wides, .ref m_forms, .ref m_parts, .ref m_charts, .ref m_pointCount, .ref m_contourCount, .ref m_depths, .ref m_xs, .ref m_ys, .ref m_ons, .ref m_contours, .int 0, .int 0, .int 0, .ref m_flags, .ref m_part, .int 0, .ref m_text, .int 0, .ref m_ringX, .ref m_ringY, .ref m_ringOn, .int 0, .ref m_curves, .ref m_windings, .ref m_rows])), (m_bytes, .inl (c_bytes, 2400, .inl (fun _ => 0))), (m_places, .inl (c_places, 16, .inl (fun _ => 0)))] H := hP
  have hD : va_D A [(h1, .inr (10, [.int 0, .int 0, .ref m_file, .int 0, .int 0, .ref m_bytes, .ref m_places, .ref m_lengths, .ref m_glyphCount, .ref m_ems, .ref m_wides, .ref m_forms, .ref m_parts, .ref m_charts, .ref m_pointCount, .ref m_contourCount, .ref m_depths, .ref m_xs, .ref m_ys, .ref m_ons, .ref m_contours, .int 0, .int 0, .int 0, .ref m_flags, .ref m_part, .int 0, .ref m_text, .int 0, .ref m_ringX, .ref m_ringY, .ref m_ringOn, .int 0, .ref m_curves, .ref m_windings, .ref m_rows])), (m_bytes, .inl (c_bytes, 2400, .inl (fun _ => 0))), (m_places, .inl (c_places, 16, .inl (fun _ => 0)))] := hD
  refine lv_iconst (v := 1) hx hb d_MD_load_5 (by decide) ?_
  refine lv_aload_n hx hb d_MD_load_6 rfl (lv_at hl 0 rfl) ?_
  refine va_get (D := (dC, dI)) (ci := 10) (v := .int 0) (C := R_MD) (T := F_MD) (N := 36) hx hb hts in_MD hown hK hP 0 rfl rfl 3 (by decide) (hts _ (List.mem_cons_of_mem _ w_855)) (fun _ h9 => h9) rfl d_MD_load_7 ?_
  refine lv_isub hx hb d_MD_load_10 ?_
  refine lv_ci (y := 1) (by decide +kernel) ?_
  refine lv_istore_n (lv' := [(2, .int 1), (0, .ref h1), (1, .int ck)]) hx hb d_MD_load_11 rfl hl (by decide) rfl (fun ls hl => ?_)
  refine lv_iconst (v := 0) hx hb d_MD_load_12 (by decide) ?_
  refine lv_istore_n (lv' := [(3, .int 0), (2, .int 1), (0, .ref h1), (1, .int ck)]) hx hb d_MD_load_13 rfl hl (by decide) rfl (fun ls hl => ?_)
  refine md_loop hx hb hts hown dC dI h1 m_file m_bytes m_places m_lengths m_glyphCount m_ems m_wides m_forms m_parts m_charts m_pointCount m_contourCount m_depths m_xs m_ys m_ons m_contours m_flags m_part m_text m_ringX m_ringY m_ringOn m_curves m_windings m_rows c_bytes c_places ck hK (fun fb H locs ls hP hD hS hl => ?_) 1200 0 rfl _ _ _ _ hP hD hS hl
  have hP : va_P (dC, dI) cls_ [(h1, .inr (10, [.int 0, .int 0, .ref m_file, .int 0, .int 0, .ref m_bytes, .ref m_places, .ref m_lengths, .ref m_glyphCount, .ref m_ems, .ref m_wides, .ref m_forms, .ref m_parts, .ref m_charts, .ref m_pointCount, .ref m_contourCount, .ref m_depths, .ref m_xs, .ref m_ys, .ref m_ons, .ref m_contours, .int 0, .int 0, .int 0, .ref m_flags, .ref m_part, .int 0, .ref m_text, .int 0, .ref m_ringX, .ref m_ringY, .ref m_ringOn, .int 0, .ref m_curves, .ref m_windings, .ref m_rows])), (m_bytes, .inl (c_bytes, 2400, .inl (fb))), (m_places, .inl (c_places, 16, .inl (fun _ => 0)))] H := hP
  have hD : va_D A [(h1, .inr (10, [.int 0, .int 0, .ref m_file, .int 0, .int 0, .ref m_bytes, .ref m_places, .ref m_lengths, .ref m_glyphCount, .ref m_ems, .ref m_wides, .ref m_forms, .ref m_parts, .ref m_charts, .ref m_pointCount, .ref m_contourCount, .ref m_depths, .ref m_xs, .ref m_ys, .ref m_ons, .ref m_contours, .int 0, .int 0, .int 0, .ref m_flags, .ref m_part, .int 0, .ref m_text, .int 0, .ref m_ringX, .ref m_ringY, .ref m_ringOn, .int 0, .ref m_curves, .ref m_windings, .ref m_rows])), (m_bytes, .inl (c_bytes, 2400, .inl (fb))), (m_places, .inl (c_places, 16, .inl (fun _ => 0)))] := hD
  refine lv_aload_n hx hb d_MD_load_57 rfl (lv_at hl 2 rfl) ?_
  refine lv_iload_n hx hb d_MD_load_58 rfl (lv_at hl 1 rfl) ?_
  have hPc := hP.sub (ws' := [(h1, .inr (10, [.int 0, .int 0, .ref m_file, .int 0, .int 0, .ref m_bytes, .ref m_places, .ref m_lengths, .ref m_glyphCount, .ref m_ems, .ref m_wides, .ref m_forms, .ref m_parts, .ref m_charts, .ref m_pointCount, .ref m_contourCount, .ref m_depths, .ref m_xs, .ref m_ys, .ref m_ons, .ref m_contours, .int 0, .int 0, .int 0, .ref m_flags, .ref m_part, .int 0, .ref m_text, .int 0, .ref m_ringX, .ref m_ringY, .ref m_ringOn, .int 0, .ref m_curves, .ref m_windings, .ref m_rows])), (m_places, .inl (c_places, 16, .inl (fun _ => 0)))]) [0, 2] rfl
  have hDc := hD.sub (ws' := [(h1, .inr (10, [.int 0, .int 0, .ref m_file, .int 0, .int 0, .ref m_bytes, .ref m_places, .ref m_lengths, .ref m_glyphCount, .ref m_ems, .ref m_wides, .ref m_forms, .ref m_parts, .ref m_charts, .ref m_pointCount, .ref m_contourCount, .ref m_depths, .ref m_xs, .ref m_ys, .ref m_ons, .ref m_contours, .int 0, .int 0, .int 0, .ref m_flags, .ref m_part, .int 0, .ref m_text, .int 0, .ref m_ringX, .ref m_ringY, .ref m_ringOn, .int 0, .ref m_curves, .ref m_windings, .ref m_rows])), (m_places, .inl (c_places, 16, .inl (fun _ => 0)))]) [0, 2] (by decide) rfl
  have hKc := hK.sub (tys' := [(c_places, .int)]) [1] rfl
  have hFc := va_free (wc := [(h1, .inr (10, [.int 0, .int 0, .ref m_file, .int 0, .int 0, .ref m_bytes, .ref m_places, .ref m_lengths, .ref m_glyphCount, .ref m_ems, .ref m_wides, .ref m_forms, .ref m_parts, .ref m_charts, .ref m_pointCount, .ref m_contourCount, .ref m_depths, .ref m_xs, .ref m_ys, .ref m_ons, .ref m_contours, .int 0, .int 0, .int 0, .ref m_flags, .ref m_part, .int 0, .ref m_text, .int 0, .ref m_ringX, .ref m_ringY, .ref m_ringOn, .int 0, .ref m_curves, .ref m_windings, .ref m_rows])), (m_places, .inl (c_places, 16, .inl (fun _ => 0)))]) hD hS hA [0, 2] rfl
  refine va_calli (va_runV (As := [.int 1]) (rest := []) ⟨hx, hb, hml, hown, hts⟩ (c_MD_isFile l dC dI h1 m_file m_bytes m_places m_lengths m_glyphCount m_ems m_wides m_forms m_parts m_charts m_pointCount m_contourCount m_depths m_xs m_ys m_ons m_contours m_flags m_part m_text m_ringX m_ringY m_ringOn m_curves m_windings m_rows c_places H.size) (cwV 1 hts (tw_inV w_989 w_991 wp_35 w_11 w_992) rfl rfl rfl (by decide +kernel) ⟨Nat.le_of_ble_eq_true rfl, Nat.le_of_ble_eq_true rfl⟩) ⟨fun a U g mk q => by obtain ⟨q0, q1, qP, qK, qD⟩ := q; exact ⟨q0, q1, qP, va_K.moved (u := U) (U := U.calling g mk a) (Vm.Alike.refl U.vm) qK, qD⟩, va_recv (hK := hK) (hP := hP) (q0 := 0) (ci := 10) rfl rfl, fun U hU hW => ⟨rfl, by rw [hU], by rw [hU]; exact hPc, va_K.moved hW.alike hKc, hDc.weaken (fun _ _ _ _ => trivial)⟩⟩ rfl rfl hl.1 rfl (lv_room (Nat.le_of_ble_eq_true rfl)) d_MD_load_59 ⟨Nat.le_of_ble_eq_true rfl, Nat.le_of_ble_eq_true rfl⟩) hS (fun q _ h => hFc q h) hFc (fun r182 u t H1 locs ht hvm hw hB hz1 hk1 hS => ?_)
  have hP1 : va_P (dC, dI) cls_ [] H1 := fun k q h => by simp at h
  have hD1 : va_D (va_A [(h1, .inr (10, [.int 0, .int 0, .ref m_file, .int 0, .int 0, .ref m_bytes, .ref m_places, .ref m_lengths, .ref m_glyphCount, .ref m_ems, .ref m_wides, .ref m_forms, .ref m_parts, .ref m_charts, .ref m_pointCount, .ref m_contourCount, .ref m_depths, .ref m_xs, .ref m_ys, .ref m_ons, .ref m_contours, .int 0, .int 0, .int 0, .ref m_flags, .ref m_part, .int 0, .ref m_text, .int 0, .ref m_ringX, .ref m_ringY, .ref m_ringOn, .int 0, .ref m_curves, .ref m_windings, .ref m_rows])), (m_places, .inl (c_places, 16, .inl (fun _ => 0)))] H.size) [] := ⟨fun i j p q h => by simp at h, fun k q h => by simp at h⟩
  obtain ⟨hP, hD⟩ := va_join (wr := [(m_bytes, .inl (c_bytes, 2400, .inl (fb)))]) (w1 := []) hP hD [0, 2] [1] rfl rfl (by decide) (by decide) hk1 hFc hP1 hD1
  generalize H1 = H at hP hS ⊢
  have hP : va_P (dC, dI) cls_ [(m_bytes, .inl (c_bytes, 2400, .inl (fb)))] H := hP
  have hD : va_D A [(m_bytes, .inl (c_bytes, 2400, .inl (fb)))] := hD
  have hw : r182 = 0 := hw
  subst hw
  refine lv_if_ne (tgt := 67) hx hb d_MD_load_62 (by decide) (fun hc => absurd hc (by decide +kernel)) (fun _ => ?_)
  refine lv_iconst (v := (-1)) hx hb d_MD_load_65 (by decide) ?_
  refine W.widen (k := 0) (n := 0) (Nat.le_of_ble_eq_true rfl) (Nat.le_of_ble_eq_true rfl) ?_
  exact W.iret (v := (-1)) hx hb hr (fun t ht hW => ⟨⟨(-1), (), rfl, rfl, trivial⟩, hS.F ht⟩) hS.2.2 d_MD_load_66
