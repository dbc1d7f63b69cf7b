abbrev b_OU_isInRange : ByteArray := prog_7_method_9_code
def y_OU_isInRange : MethodName := ⟨R_OU, "isInRange", "(I)Z"⟩
def s_OU_isInRange : List Cond := .code y_OU_isInRange b_OU_isInRange 3 (some .boolean) :: tw_T
abbrev b_OU_movePoints : ByteArray := prog_7_method_5_code
def y_OU_movePoints : MethodName := ⟨R_OU, "movePoints", "(I)V"⟩
def s_OU_movePoints : List Cond := .code y_OU_movePoints b_OU_movePoints 4 none :: tw_T
theorem w_198 : (Jvm.Cond.fieldLink "GlyphLines$Outline" (9 : Nat) "GlyphLines$Outline" "xs" "[I") ∈ tw_T := tw_of 198 (by decide +kernel) (by decide +kernel)
theorem w_201 : (Jvm.Cond.fieldLink "GlyphLines$Outline" (13 : Nat) "GlyphLines$Outline" "ys" "[I") ∈ tw_T := tw_of 201 (by decide +kernel) (by decide +kernel)
theorem w_211 : (Jvm.Cond.fieldLink "GlyphLines$Outline" (29 : Nat) "GlyphLines$Outline" "move" "LGlyphLines$Move;") ∈ tw_T := tw_of 211 (by decide +kernel) (by decide +kernel)
theorem w_212 : (Jvm.Cond.fieldLink "GlyphLines$Outline" (33 : Nat) "GlyphLines$Outline" "points" "I") ∈ tw_T := tw_of 212 (by decide +kernel) (by decide +kernel)
theorem w_511 : (Jvm.Cond.methodLink "GlyphLines$Outline" (89 : Nat) ({ cls := "GlyphLines$Move", name := "newX", desc := "(II)I" } : Jvm.MethodName)) ∈ tw_T := tw_of 511 (by decide +kernel) (by decide +kernel)
theorem w_512 : (Jvm.Cond.instanceMethod ({ cls := "GlyphLines$Move", name := "newX", desc := "(II)I" } : Jvm.MethodName)) ∈ tw_T := tw_of 512 (by decide +kernel) (by decide +kernel)
theorem w_513 : (Jvm.Cond.selects "GlyphLines$Move" ({ cls := "GlyphLines$Move", name := "newX", desc := "(II)I" } : Jvm.MethodName) ({ cls := "GlyphLines$Move", name := "newX", desc := "(II)I" } : Jvm.MethodName)) ∈ tw_T := tw_of 513 (by decide +kernel) (by decide +kernel)
theorem w_514 : (Jvm.Cond.code ({ cls := "GlyphLines$Move", name := "newX", desc := "(II)I" } : Jvm.MethodName) prog_6_method_5_code (3 : Nat) (Option.some Jvm.ClassFile.FieldType.int)) ∈ tw_T := tw_of 514 (by decide +kernel) (by decide +kernel)
theorem w_515 : (Jvm.Cond.methodLink "GlyphLines$Outline" (93 : Nat) ({ cls := "GlyphLines$Move", name := "newY", desc := "(II)I" } : Jvm.MethodName)) ∈ tw_T := tw_of 515 (by decide +kernel) (by decide +kernel)
theorem w_516 : (Jvm.Cond.instanceMethod ({ cls := "GlyphLines$Move", name := "newY", desc := "(II)I" } : Jvm.MethodName)) ∈ tw_T := tw_of 516 (by decide +kernel) (by decide +kernel)
theorem w_517 : (Jvm.Cond.selects "GlyphLines$Move" ({ cls := "GlyphLines$Move", name := "newY", desc := "(II)I" } : Jvm.MethodName) ({ cls := "GlyphLines$Move", name := "newY", desc := "(II)I" } : Jvm.MethodName)) ∈ tw_T := tw_of 517 (by decide +kernel) (by decide +kernel)
theorem w_518 : (Jvm.Cond.code ({ cls := "GlyphLines$Move", name := "newY", desc := "(II)I" } : Jvm.MethodName) prog_6_method_6_code (3 : Nat) (Option.some Jvm.ClassFile.FieldType.int)) ∈ tw_T := tw_of 518 (by decide +kernel) (by decide +kernel)
theorem d_OU_isInRange_0 : decode b_OU_isInRange 0 = .ok (.iload_n 1, 1) := by decide +kernel
theorem d_OU_isInRange_1 : decode b_OU_isInRange 1 = .ok (.istore_n 2, 1) := by decide +kernel
theorem d_OU_isInRange_10 : decode b_OU_isInRange 10 = .ok (.aload_n 0, 1) := by decide +kernel
theorem d_OU_isInRange_11 : decode b_OU_isInRange 11 = .ok (.getfield 9, 3) := by decide +kernel
theorem d_OU_isInRange_14 : decode b_OU_isInRange 14 = .ok (.iload_n 2, 1) := by decide +kernel
theorem d_OU_isInRange_15 : decode b_OU_isInRange 15 = .ok (.iaload, 1) := by decide +kernel
theorem d_OU_isInRange_16 : decode b_OU_isInRange 16 = .ok (.sipush (-4096), 3) := by decide +kernel
theorem d_OU_isInRange_19 : decode b_OU_isInRange 19 = .ok (.if_icmp .lt (39), 3) := by decide +kernel
theorem d_OU_isInRange_2 : decode b_OU_isInRange 2 = .ok (.iload_n 2, 1) := by decide +kernel
theorem d_OU_isInRange_22 : decode b_OU_isInRange 22 = .ok (.aload_n 0, 1) := by decide +kernel
theorem d_OU_isInRange_23 : decode b_OU_isInRange 23 = .ok (.getfield 9, 3) := by decide +kernel
theorem d_OU_isInRange_26 : decode b_OU_isInRange 26 = .ok (.iload_n 2, 1) := by decide +kernel
theorem d_OU_isInRange_27 : decode b_OU_isInRange 27 = .ok (.iaload, 1) := by decide +kernel
theorem d_OU_isInRange_28 : decode b_OU_isInRange 28 = .ok (.sipush 4095, 3) := by decide +kernel
theorem d_OU_isInRange_3 : decode b_OU_isInRange 3 = .ok (.aload_n 0, 1) := by decide +kernel
theorem d_OU_isInRange_31 : decode b_OU_isInRange 31 = .ok (.if_icmp .gt (27), 3) := by decide +kernel
theorem d_OU_isInRange_34 : decode b_OU_isInRange 34 = .ok (.aload_n 0, 1) := by decide +kernel
theorem d_OU_isInRange_35 : decode b_OU_isInRange 35 = .ok (.getfield 13, 3) := by decide +kernel
theorem d_OU_isInRange_38 : decode b_OU_isInRange 38 = .ok (.iload_n 2, 1) := by decide +kernel
theorem d_OU_isInRange_39 : decode b_OU_isInRange 39 = .ok (.iaload, 1) := by decide +kernel
theorem d_OU_isInRange_4 : decode b_OU_isInRange 4 = .ok (.getfield 33, 3) := by decide +kernel
theorem d_OU_isInRange_40 : decode b_OU_isInRange 40 = .ok (.sipush (-4096), 3) := by decide +kernel
theorem d_OU_isInRange_43 : decode b_OU_isInRange 43 = .ok (.if_icmp .lt (15), 3) := by decide +kernel
theorem d_OU_isInRange_46 : decode b_OU_isInRange 46 = .ok (.aload_n 0, 1) := by decide +kernel
theorem d_OU_isInRange_47 : decode b_OU_isInRange 47 = .ok (.getfield 13, 3) := by decide +kernel
theorem d_OU_isInRange_50 : decode b_OU_isInRange 50 = .ok (.iload_n 2, 1) := by decide +kernel
theorem d_OU_isInRange_51 : decode b_OU_isInRange 51 = .ok (.iaload, 1) := by decide +kernel
theorem d_OU_isInRange_52 : decode b_OU_isInRange 52 = .ok (.sipush 4095, 3) := by decide +kernel
theorem d_OU_isInRange_55 : decode b_OU_isInRange 55 = .ok (.if_icmp .le (5), 3) := by decide +kernel
theorem d_OU_isInRange_58 : decode b_OU_isInRange 58 = .ok (.iconst 0, 1) := by decide +kernel
theorem d_OU_isInRange_59 : decode b_OU_isInRange 59 = .ok (.ireturn, 1) := by decide +kernel
theorem d_OU_isInRange_60 : decode b_OU_isInRange 60 = .ok (.iinc 2 (1), 3) := by decide +kernel
theorem d_OU_isInRange_63 : decode b_OU_isInRange 63 = .ok (.goto (-61), 3) := by decide +kernel
theorem d_OU_isInRange_66 : decode b_OU_isInRange 66 = .ok (.iconst 1, 1) := by decide +kernel
theorem d_OU_isInRange_67 : decode b_OU_isInRange 67 = .ok (.ireturn, 1) := by decide +kernel
theorem d_OU_isInRange_7 : decode b_OU_isInRange 7 = .ok (.if_icmp .ge (59), 3) := by decide +kernel
theorem d_OU_movePoints_0 : decode b_OU_movePoints 0 = .ok (.iload_n 1, 1) := by decide +kernel
theorem d_OU_movePoints_1 : decode b_OU_movePoints 1 = .ok (.istore_n 2, 1) := by decide +kernel
theorem d_OU_movePoints_10 : decode b_OU_movePoints 10 = .ok (.aload_n 0, 1) := by decide +kernel
theorem d_OU_movePoints_11 : decode b_OU_movePoints 11 = .ok (.getfield 29, 3) := by decide +kernel
theorem d_OU_movePoints_14 : decode b_OU_movePoints 14 = .ok (.aload_n 0, 1) := by decide +kernel
theorem d_OU_movePoints_15 : decode b_OU_movePoints 15 = .ok (.getfield 9, 3) := by decide +kernel
theorem d_OU_movePoints_18 : decode b_OU_movePoints 18 = .ok (.iload_n 2, 1) := by decide +kernel
theorem d_OU_movePoints_19 : decode b_OU_movePoints 19 = .ok (.iaload, 1) := by decide +kernel
theorem d_OU_movePoints_2 : decode b_OU_movePoints 2 = .ok (.iload_n 2, 1) := by decide +kernel
theorem d_OU_movePoints_20 : decode b_OU_movePoints 20 = .ok (.aload_n 0, 1) := by decide +kernel
theorem d_OU_movePoints_21 : decode b_OU_movePoints 21 = .ok (.getfield 13, 3) := by decide +kernel
theorem d_OU_movePoints_24 : decode b_OU_movePoints 24 = .ok (.iload_n 2, 1) := by decide +kernel
theorem d_OU_movePoints_25 : decode b_OU_movePoints 25 = .ok (.iaload, 1) := by decide +kernel
theorem d_OU_movePoints_26 : decode b_OU_movePoints 26 = .ok (.invokevirtual 89, 3) := by decide +kernel
theorem d_OU_movePoints_29 : decode b_OU_movePoints 29 = .ok (.istore_n 3, 1) := by decide +kernel
theorem d_OU_movePoints_3 : decode b_OU_movePoints 3 = .ok (.aload_n 0, 1) := by decide +kernel
theorem d_OU_movePoints_30 : decode b_OU_movePoints 30 = .ok (.aload_n 0, 1) := by decide +kernel
theorem d_OU_movePoints_31 : decode b_OU_movePoints 31 = .ok (.getfield 13, 3) := by decide +kernel
theorem d_OU_movePoints_34 : decode b_OU_movePoints 34 = .ok (.iload_n 2, 1) := by decide +kernel
theorem d_OU_movePoints_35 : decode b_OU_movePoints 35 = .ok (.aload_n 0, 1) := by decide +kernel
theorem d_OU_movePoints_36 : decode b_OU_movePoints 36 = .ok (.getfield 29, 3) := by decide +kernel
theorem d_OU_movePoints_39 : decode b_OU_movePoints 39 = .ok (.aload_n 0, 1) := by decide +kernel
theorem d_OU_movePoints_4 : decode b_OU_movePoints 4 = .ok (.getfield 33, 3) := by decide +kernel
theorem d_OU_movePoints_40 : decode b_OU_movePoints 40 = .ok (.getfield 9, 3) := by decide +kernel
theorem d_OU_movePoints_43 : decode b_OU_movePoints 43 = .ok (.iload_n 2, 1) := by decide +kernel
theorem d_OU_movePoints_44 : decode b_OU_movePoints 44 = .ok (.iaload, 1) := by decide +kernel
theorem d_OU_movePoints_45 : decode b_OU_movePoints 45 = .ok (.aload_n 0, 1) := by decide +kernel
theorem d_OU_movePoints_46 : decode b_OU_movePoints 46 = .ok (.getfield 13, 3) := by decide +kernel
theorem d_OU_movePoints_49 : decode b_OU_movePoints 49 = .ok (.iload_n 2, 1) := by decide +kernel
theorem d_OU_movePoints_50 : decode b_OU_movePoints 50 = .ok (.iaload, 1) := by decide +kernel
theorem d_OU_movePoints_51 : decode b_OU_movePoints 51 = .ok (.invokevirtual 93, 3) := by decide +kernel
theorem d_OU_movePoints_54 : decode b_OU_movePoints 54 = .ok (.iastore, 1) := by decide +kernel
theorem d_OU_movePoints_55 : decode b_OU_movePoints 55 = .ok (.aload_n 0, 1) := by decide +kernel
theorem d_OU_movePoints_56 : decode b_OU_movePoints 56 = .ok (.getfield 9, 3) := by decide +kernel
theorem d_OU_movePoints_59 : decode b_OU_movePoints 59 = .ok (.iload_n 2, 1) := by decide +kernel
theorem d_OU_movePoints_60 : decode b_OU_movePoints 60 = .ok (.iload_n 3, 1) := by decide +kernel
theorem d_OU_movePoints_61 : decode b_OU_movePoints 61 = .ok (.iastore, 1) := by decide +kernel
theorem d_OU_movePoints_62 : decode b_OU_movePoints 62 = .ok (.iinc 2 (1), 3) := by decide +kernel
theorem d_OU_movePoints_65 : decode b_OU_movePoints 65 = .ok (.goto (-63), 3) := by decide +kernel
theorem d_OU_movePoints_68 : decode b_OU_movePoints 68 = .ok (.return_, 1) := by decide +kernel
theorem d_OU_movePoints_7 : decode b_OU_movePoints 7 = .ok (.if_icmp .ge (61), 3) := by decide +kernel
set_option maxHeartbeats 8000000 in
set_option maxRecDepth 100000 in
/-- a loop of GlyphLines$Outline.isInRange -/
theorem ou_range_loop {p : Program} {l : Launch} {e : Env} {s : State} {m : MethodId} {args : Array Value} {below : List Frame} {meth : Method} {c : Code} {Q : State → Prop} {A : Nat → Prop} (hx : p.tables.exec = Jvm.exec) (hb : c.code = b_OU_isInRange) (hml : c.maxLocals = 3) (hts : ∀ w ∈ s_OU_isInRange, w.before args s = true) (hown : s.vm.findClass R_OU = some m.cls) (hA : ∀ q : Nat, s.heap.size ≤ q → A q) (dC : Nat → ClassId) (dI : Nat → Nat → Nat) (h0 : Nat) (qx : Nat) (qy : Nat) (qo : Nat) (qc : Nat) (qg : Nat) (qm : Nat) (p0 : Nat) (ct : Int32) (cX : ClassId) (cY : ClassId) (fx : Nat → Int32) (fy : Nat → Int32) (fr : Nat) (hq0 : p0 ≤ 64) (hq1 : fr ≤ 64) (hK : va_K (dC, dI) cls_ [(cX, .int), (cY, .int)] s)
    (kx58 : ∀ (k : Nat), (k ≤ 64) → ∀ (H : Heap) (locs : List Loc) (ls : Array Slot), va_P (dC, dI) cls_ [(h0, .inr (6, [.ref qx, .ref qy, .ref qo, .ref qc, .ref qg, .ref qm, .int (nI (p0)), .int ct])), (qx, .inl (cX, 64, .inl (fx))), (qy, .inl (cY, 64, .inl (fy)))] H → va_D A [(h0, .inr (6, [.ref qx, .ref qy, .ref qo, .ref qc, .ref qg, .ref qm, .int (nI (p0)), .int ct])), (qx, .inl (cX, 64, .inl (fx))), (qy, .inl (cY, 64, .inl (fy)))] → va_S A s.heap H locs → lv_has ls 3 [(2, .int (nI (k))), (0, .ref h0), (1, .int (nI (fr)))] → W p l e (headSpec s_OU_isInRange ({ frames := 8, cells := 0, slots := 0, locals := 200 })).room s m args below meth c H locs 0 0 Q (F0 m 58 ls []))
    (kx66 : ∀ (k : Nat), (k ≤ 64) → ∀ (H : Heap) (locs : List Loc) (ls : Array Slot), va_P (dC, dI) cls_ [(h0, .inr (6, [.ref qx, .ref qy, .ref qo, .ref qc, .ref qg, .ref qm, .int (nI (p0)), .int ct])), (qx, .inl (cX, 64, .inl (fx))), (qy, .inl (cY, 64, .inl (fy)))] H → va_D A [(h0, .inr (6, [.ref qx, .ref qy, .ref qo, .ref qc, .ref qg, .ref qm, .int (nI (p0)), .int ct])), (qx, .inl (cX, 64, .inl (fx))), (qy, .inl (cY, 64, .inl (fy)))] → va_S A s.heap H locs → lv_has ls 3 [(2, .int (nI (k))), (0, .ref h0), (1, .int (nI (fr)))] → W p l e (headSpec s_OU_isInRange ({ frames := 8, cells := 0, slots := 0, locals := 200 })).room s m args below meth c H locs 0 0 Q (F0 m 66 ls []))
    : ∀ (fu : Nat) (k : Nat), (k ≤ 64) → 65 - k < fu → ∀ (H : Heap) (locs : List Loc) (ls : Array Slot), va_P (dC, dI) cls_ [(h0, .inr (6, [.ref qx, .ref qy, .ref qo, .ref qc, .ref qg, .ref qm, .int (nI (p0)), .int ct])), (qx, .inl (cX, 64, .inl (fx))), (qy, .inl (cY, 64, .inl (fy)))] H → va_D A [(h0, .inr (6, [.ref qx, .ref qy, .ref qo, .ref qc, .ref qg, .ref qm, .int (nI (p0)), .int ct])), (qx, .inl (cX, 64, .inl (fx))), (qy, .inl (cY, 64, .inl (fy)))] → va_S A s.heap H locs → lv_has ls 3 [(2, .int (nI (k))), (0, .ref h0), (1, .int (nI (fr)))] → W p l e (headSpec s_OU_isInRange ({ frames := 8, cells := 0, slots := 0, locals := 200 })).room s m args below meth c H locs 0 0 Q (F0 m 2 ls []) := by
  intro fu
  induction fu with
  | zero => intro k hf0 hm; exact absurd hm (Nat.not_lt_zero _)
  | succ fu ih =>
    intro k hf0 hm H locs ls hP hD hS hl
    refine lv_iload_n hx hb d_OU_isInRange_2 rfl (lv_at hl 0 rfl) ?_
    refine lv_aload_n hx hb d_OU_isInRange_3 rfl (lv_at hl 1 rfl) ?_
    refine va_get (D := (dC, dI)) (ci := 6) (v := .int (nI (p0))) (C := R_OU) (T := F_OU) (N := 8) hx hb hts in_OU hown hK hP 0 rfl rfl 6 (by decide) (hts _ (List.mem_cons_of_mem _ w_212)) (fun _ h9 => h9) rfl d_OU_isInRange_4 ?_
    refine lv_icmp_ge (tgt := 66) hx hb d_OU_isInRange_7 (by decide) (fun hc416 => ?_) (fun hc416 => ?_)
    · skip
      have hc416n : p0 ≤ k := (nI_leI (a := p0) (b := k) (by omega) (by omega)).mp hc416
      have hP8 := hP.sub (ws' := [(h0, .inr (6, [.ref qx, .ref qy, .ref qo, .ref qc, .ref qg, .ref qm, .int (nI (p0)), .int ct])), (qx, .inl (cX, 64, .inl (fx))), (qy, .inl (cY, 64, .inl (fy)))]) [0, 1, 2] rfl
      have hD8 := hD.sub (ws' := [(h0, .inr (6, [.ref qx, .ref qy, .ref qo, .ref qc, .ref qg, .ref qm, .int (nI (p0)), .int ct])), (qx, .inl (cX, 64, .inl (fx))), (qy, .inl (cY, 64, .inl (fy)))]) [0, 1, 2] (by decide) rfl
      exact kx66 k (by omega) H locs ls hP8 hD8 hS (lv_sub hl [0, 1, 2] rfl)
    · skip
      have hc416n : ¬ (p0 ≤ k) := fun z => hc416 ((nI_leI (a := p0) (b := k) (by omega) (by omega)).mpr z)
      refine lv_aload_n hx hb d_OU_isInRange_10 rfl (lv_at hl 1 rfl) ?_
      refine va_get (D := (dC, dI)) (ci := 6) (v := .ref qx) (C := R_OU) (T := F_OU) (N := 8) hx hb hts in_OU hown hK hP 0 rfl rfl 0 (by decide) (hts _ (List.mem_cons_of_mem _ w_198)) (fun _ h9 => h9) rfl d_OU_isInRange_11 ?_
      refine lv_iload_n hx hb d_OU_isInRange_14 rfl (lv_at hl 0 rfl) ?_
      refine va_iald hx hb hK hP 1 0 rfl rfl (pk_in (k) 64 (by omega) rfl (by decide)) d_OU_isInRange_15 ?_
      refine lv_topi (fun v417 ev417 => ?_)
      refine lv_sipush (v := (-4096)) hx hb d_OU_isInRange_16 (by decide) ?_
      refine lv_icmp_lt (tgt := 58) hx hb d_OU_isInRange_19 (by decide) (fun hc418 => ?_) (fun hc418 => ?_)
      · skip
        have hP8 := hP.sub (ws' := [(h0, .inr (6, [.ref qx, .ref qy, .ref qo, .ref qc, .ref qg, .ref qm, .int (nI (p0)), .int ct])), (qx, .inl (cX, 64, .inl (fx))), (qy, .inl (cY, 64, .inl (fy)))]) [0, 1, 2] rfl
        have hD8 := hD.sub (ws' := [(h0, .inr (6, [.ref qx, .ref qy, .ref qo, .ref qc, .ref qg, .ref qm, .int (nI (p0)), .int ct])), (qx, .inl (cX, 64, .inl (fx))), (qy, .inl (cY, 64, .inl (fy)))]) [0, 1, 2] (by decide) rfl
        exact kx58 k (by omega) H locs ls hP8 hD8 hS (lv_sub hl [0, 1, 2] rfl)
      · skip
        refine lv_aload_n hx hb d_OU_isInRange_22 rfl (lv_at hl 1 rfl) ?_
        refine va_get (D := (dC, dI)) (ci := 6) (v := .ref qx) (C := R_OU) (T := F_OU) (N := 8) hx hb hts in_OU hown hK hP 0 rfl rfl 0 (by decide) (hts _ (List.mem_cons_of_mem _ w_198)) (fun _ h9 => h9) rfl d_OU_isInRange_23 ?_
        refine lv_iload_n hx hb d_OU_isInRange_26 rfl (lv_at hl 0 rfl) ?_
        refine va_iald hx hb hK hP 1 0 rfl rfl (pk_in (k) 64 (by omega) rfl (by decide)) d_OU_isInRange_27 ?_
        refine lv_topi (fun v419 ev419 => ?_)
        refine lv_sipush (v := 4095) hx hb d_OU_isInRange_28 (by decide) ?_
        refine lv_icmp_gt (tgt := 58) hx hb d_OU_isInRange_31 (by decide) (fun hc420 => ?_) (fun hc420 => ?_)
        · skip
          have hP8 := hP.sub (ws' := [(h0, .inr (6, [.ref qx, .ref qy, .ref qo, .ref qc, .ref qg, .ref qm, .int (nI (p0)), .int ct])), (qx, .inl (cX, 64, .inl (fx))), (qy, .inl (cY, 64, .inl (fy)))]) [0, 1, 2] rfl
          have hD8 := hD.sub (ws' := [(h0, .inr (6, [.ref qx, .ref qy, .ref qo, .ref qc, .ref qg, .ref qm, .int (nI (p0)), .int ct])), (qx, .inl (cX, 64, .inl (fx))), (qy, .inl (cY, 64, .inl (fy)))]) [0, 1, 2] (by decide) rfl
          exact kx58 k (by omega) H locs ls hP8 hD8 hS (lv_sub hl [0, 1, 2] rfl)
        · skip
          refine lv_aload_n hx hb d_OU_isInRange_34 rfl (lv_at hl 1 rfl) ?_
          refine va_get (D := (dC, dI)) (ci := 6) (v := .ref qy) (C := R_OU) (T := F_OU) (N := 8) hx hb hts in_OU hown hK hP 0 rfl rfl 1 (by decide) (hts _ (List.mem_cons_of_mem _ w_201)) (fun _ h9 => h9) rfl d_OU_isInRange_35 ?_
          refine lv_iload_n hx hb d_OU_isInRange_38 rfl (lv_at hl 0 rfl) ?_
          refine va_iald hx hb hK hP 2 1 rfl rfl (pk_in (k) 64 (by omega) rfl (by decide)) d_OU_isInRange_39 ?_
          refine lv_topi (fun v421 ev421 => ?_)
          refine lv_sipush (v := (-4096)) hx hb d_OU_isInRange_40 (by decide) ?_
          refine lv_icmp_lt (tgt := 58) hx hb d_OU_isInRange_43 (by decide) (fun hc422 => ?_) (fun hc422 => ?_)
          · skip
            have hP8 := hP.sub (ws' := [(h0, .inr (6, [.ref qx, .ref qy, .ref qo, .ref qc, .ref qg, .ref qm, .int (nI (p0)), .int ct])), (qx, .inl (cX, 64, .inl (fx))), (qy, .inl (cY, 64, .inl (fy)))]) [0, 1, 2] rfl
            have hD8 := hD.sub (ws' := [(h0, .inr (6, [.ref qx, .ref qy, .ref qo, .ref qc, .ref qg, .ref qm, .int (nI (p0)), .int ct])), (qx, .inl (cX, 64, .inl (fx))), (qy, .inl (cY, 64, .inl (fy)))]) [0, 1, 2] (by decide) rfl
            exact kx58 k (by omega) H locs ls hP8 hD8 hS (lv_sub hl [0, 1, 2] rfl)
          · skip
            refine lv_aload_n hx hb d_OU_isInRange_46 rfl (lv_at hl 1 rfl) ?_
            refine va_get (D := (dC, dI)) (ci := 6) (v := .ref qy) (C := R_OU) (T := F_OU) (N := 8) hx hb hts in_OU hown hK hP 0 rfl rfl 1 (by decide) (hts _ (List.mem_cons_of_mem _ w_201)) (fun _ h9 => h9) rfl d_OU_isInRange_47 ?_
            refine lv_iload_n hx hb d_OU_isInRange_50 rfl (lv_at hl 0 rfl) ?_
            refine va_iald hx hb hK hP 2 1 rfl rfl (pk_in (k) 64 (by omega) rfl (by decide)) d_OU_isInRange_51 ?_
            refine lv_topi (fun v423 ev423 => ?_)
            refine lv_sipush (v := 4095) hx hb d_OU_isInRange_52 (by decide) ?_
            refine lv_icmp_le (tgt := 60) hx hb d_OU_isInRange_55 (by decide) (fun hc424 => ?_) (fun hc424 => ?_)
            · skip
              refine lv_iinc (k := 0) (v := nI (k + 1)) (lv' := [(2, .int (nI (k + 1))), (0, .ref h0), (1, .int (nI (fr)))]) hx hb d_OU_isInRange_60 hl rfl (nI_add (k) 1) (by decide) rfl (fun ls hl => ?_)
              refine lv_goto (tgt := 2) hx hb d_OU_isInRange_63 (by decide) ?_
              have hP8 := hP.sub (ws' := [(h0, .inr (6, [.ref qx, .ref qy, .ref qo, .ref qc, .ref qg, .ref qm, .int (nI (p0)), .int ct])), (qx, .inl (cX, 64, .inl (fx))), (qy, .inl (cY, 64, .inl (fy)))]) [0, 1, 2] rfl
              have hD8 := hD.sub (ws' := [(h0, .inr (6, [.ref qx, .ref qy, .ref qo, .ref qc, .ref qg, .ref qm, .int (nI (p0)), .int ct])), (qx, .inl (cX, 64, .inl (fx))), (qy, .inl (cY, 64, .inl (fy)))]) [0, 1, 2] (by decide) rfl
              exact ih (k + 1) (by omega) (by omega) H locs ls hP8 hD8 hS (lv_sub hl [0, 1, 2] rfl)
            · skip
              have hP8 := hP.sub (ws' := [(h0, .inr (6, [.ref qx, .ref qy, .ref qo, .ref qc, .ref qg, .ref qm, .int (nI (p0)), .int ct])), (qx, .inl (cX, 64, .inl (fx))), (qy, .inl (cY, 64, .inl (fy)))]) [0, 1, 2] rfl
              have hD8 := hD.sub (ws' := [(h0, .inr (6, [.ref qx, .ref qy, .ref qo, .ref qc, .ref qg, .ref qm, .int (nI (p0)), .int ct])), (qx, .inl (cX, 64, .inl (fx))), (qy, .inl (cY, 64, .inl (fy)))]) [0, 1, 2] (by decide) rfl
              exact kx58 k (by omega) H locs ls hP8 hD8 hS (lv_sub hl [0, 1, 2] rfl)
set_option maxHeartbeats 4000000 in
set_option maxRecDepth 100000 in
/-- GlyphLines$Outline.isInRange -/
theorem g_OU_isInRange (l : Launch) (dC : Nat → ClassId) (dI : Nat → Nat → Nat) (h0 : Nat) (qx : Nat) (qy : Nat) (qo : Nat) (qc : Nat) (qg : Nat) (qm : Nat) (p0 : Nat) (ct : Int32) (cX : ClassId) (cY : ClassId) (fx : Nat → Int32) (fy : Nat → Int32) (fr : Nat) (sz : Nat) (hq0 : p0 ≤ 64) (hq1 : fr ≤ 64) : Met l y_OU_isInRange s_OU_isInRange ({ frames := 8, cells := 0, slots := 0, locals := 200 }) (va_Pc [.ref h0, .int (nI (fr))] (fun U => U.heap.size = sz ∧ va_P (dC, dI) cls_ [(h0, .inr (6, [.ref qx, .ref qy, .ref qo, .ref qc, .ref qg, .ref qm, .int (nI (p0)), .int ct])), (qx, .inl (cX, 64, .inl (fx))), (qy, .inl (cY, 64, .inl (fy)))] U.heap ∧ va_K (dC, dI) cls_ [(cX, .int), (cY, .int)] U ∧ va_D (fun _ => True) [(h0, .inr (6, [.ref qx, .ref qy, .ref qo, .ref qc, .ref qg, .ref qm, .int (nI (p0)), .int ct])), (qx, .inl (cX, 64, .inl (fx))), (qy, .inl (cY, 64, .inl (fy)))])) (va_Qi (fun (r : Int32) (_ : Unit) => True) (fun (_ : Unit) (t : State) => va_P (dC, dI) cls_ [(h0, .inr (6, [.ref qx, .ref qy, .ref qo, .ref qc, .ref qg, .ref qm, .int (nI (p0)), .int ct])), (qx, .inl (cX, 64, .inl (fx))), (qy, .inl (cY, 64, .inl (fy)))] t.heap ∧ va_K (dC, dI) cls_ [(cX, .int), (cY, .int)] t ∧ va_D (va_A [(h0, .inr (6, [.ref qx, .ref qy, .ref qo, .ref qc, .ref qg, .ref qm, .int (nI (p0)), .int ct])), (qx, .inl (cX, 64, .inl (fx))), (qy, .inl (cY, 64, .inl (fy)))] sz) [(h0, .inr (6, [.ref qx, .ref qy, .ref qo, .ref qc, .ref qg, .ref qm, .int (nI (p0)), .int ct])), (qx, .inl (cX, 64, .inl (fx))), (qy, .inl (cY, 64, .inl (fy)))]) (va_A [(h0, .inr (6, [.ref qx, .ref qy, .ref qo, .ref qc, .ref qg, .ref qm, .int (nI (p0)), .int ct])), (qx, .inl (cX, 64, .inl (fx))), (qy, .inl (cY, 64, .inl (fy)))] sz)) 0 0 (va_A [(h0, .inr (6, [.ref qx, .ref qy, .ref qo, .ref qc, .ref qg, .ref qm, .int (nI (p0)), .int ct])), (qx, .inl (cX, 64, .inl (fx))), (qy, .inl (cY, 64, .inl (fy)))] sz) := by
  refine Met.ofW (cc := b_OU_isInRange) (maxL := 3) (ret := (some .boolean)) (by decide) rfl ?_
  intro p e s m args below meth c s₁ B hml hv
  obtain ⟨rfl, hsz, hP, hK, hD0⟩ := hv
  have hx := B.exec
  have hb := B.bytes
  have hr := B.returns
  have hts := atoms_spec (ws := s_OU_isInRange) B.pre
  have hown : s.vm.findClass R_OU = some m.cls := findClass_of_methodNamed B.named
  have hlocks := B.notSynchronized
  subst hsz
  have hD := hD0.self (sz := s.heap.size)
  generalize hAe : va_A [(h0, .inr (6, [.ref qx, .ref qy, .ref qo, .ref qc, .ref qg, .ref qm, .int (nI (p0)), .int ct])), (qx, .inl (cX, 64, .inl (fx))), (qy, .inl (cY, 64, .inl (fy)))] s.heap.size = A at hD ⊢
  have hA : ∀ q : Nat, s.heap.size ≤ q → A q := fun q h => by rw [← hAe]; exact Or.inr h
  have hS : va_S A s.heap s.heap [] := va_S.rf
  have hP : va_P (dC, dI) cls_ [(h0, .inr (6, [.ref qx, .ref qy, .ref qo, .ref qc, .ref qg, .ref qm, .int (nI (p0)), .int ct])), (qx, .inl (cX, 64, .inl (fx))), (qy, .inl (cY, 64, .inl (fy)))] s.heap := hP
  have hl := lv_entry ([.ref h0, .int (nI (fr))]) (n := 3) (Nat.le_of_ble_eq_true rfl)
  rw [lg_entry_eq]
  generalize (lg_sl ([.ref h0, .int (nI (fr))]) ++ List.replicate (3 - (lg_sl ([.ref h0, .int (nI (fr))])).length) Slot.unset).toArray = ls at hl ⊢
  have hl : lv_has ls 3 [(0, .ref h0), (1, .int (nI (fr)))] := hl
  refine lv_iload_n hx hb d_OU_isInRange_0 rfl (lv_at hl 1 rfl) ?_
  refine lv_istore_n (lv' := [(2, .int (nI (fr))), (0, .ref h0), (1, .int (nI (fr)))]) hx hb d_OU_isInRange_1 rfl hl (by decide) rfl (fun ls hl => ?_)
  have hP8 := hP.sub (ws' := [(h0, .inr (6, [.ref qx, .ref qy, .ref qo, .ref qc, .ref qg, .ref qm, .int (nI (p0)), .int ct])), (qx, .inl (cX, 64, .inl (fx))), (qy, .inl (cY, 64, .inl (fy)))]) [0, 1, 2] rfl
  have hD8 := hD.sub (ws' := [(h0, .inr (6, [.ref qx, .ref qy, .ref qo, .ref qc, .ref qg, .ref qm, .int (nI (p0)), .int ct])), (qx, .inl (cX, 64, .inl (fx))), (qy, .inl (cY, 64, .inl (fy)))]) [0, 1, 2] (by decide) rfl
  have hK9 := hK.sub (tys' := [(cX, .int), (cY, .int)]) [0, 1] rfl
  refine ou_range_loop hx hb hml hts hown hA dC dI h0 qx qy qo qc qg qm p0 ct cX cY fx fy fr (by omega) (by omega) hK9 (fun k_425 hf_426 H locs ls hP hD hS hl => ?_) (fun k_427 hf_428 H locs ls hP hD hS hl => ?_) (65 - fr + 1) fr (by omega) (by omega) s.heap _ ls hP8 hD8 hS (lv_sub hl [0, 1, 2] rfl)
  · skip
    have hK := hK9
    have hP : va_P (dC, dI) cls_ [(h0, .inr (6, [.ref qx, .ref qy, .ref qo, .ref qc, .ref qg, .ref qm, .int (nI (p0)), .int ct])), (qx, .inl (cX, 64, .inl (fx))), (qy, .inl (cY, 64, .inl (fy)))] H := hP
    have hD : va_D A [(h0, .inr (6, [.ref qx, .ref qy, .ref qo, .ref qc, .ref qg, .ref qm, .int (nI (p0)), .int ct])), (qx, .inl (cX, 64, .inl (fx))), (qy, .inl (cY, 64, .inl (fy)))] := hD
    have hK : va_K (dC, dI) cls_ [(cX, .int), (cY, .int)] s := hK
    refine lv_iconst (v := 0) hx hb d_OU_isInRange_58 (by decide) ?_
    refine W.widen (k := 0) (n := 0) (Nat.le_of_ble_eq_true rfl) (Nat.le_of_ble_eq_true rfl) ?_
    have hP9 := hP.sub (ws' := [(h0, .inr (6, [.ref qx, .ref qy, .ref qo, .ref qc, .ref qg, .ref qm, .int (nI (p0)), .int ct])), (qx, .inl (cX, 64, .inl (fx))), (qy, .inl (cY, 64, .inl (fy)))]) [0, 1, 2] rfl
    have hD9 := hD.sub (ws' := [(h0, .inr (6, [.ref qx, .ref qy, .ref qo, .ref qc, .ref qg, .ref qm, .int (nI (p0)), .int ct])), (qx, .inl (cX, 64, .inl (fx))), (qy, .inl (cY, 64, .inl (fy)))]) [0, 1, 2] (by decide) rfl
    have hK9 := hK.sub (tys' := [(cX, .int), (cY, .int)]) [0, 1] rfl
    exact W.zret (v := 0) (ty := .boolean) hx hb hr (by decide +kernel) (fun t ht hW => ⟨⟨0, (), rfl, trivial, by rw [ht]; exact hP9, va_K.moved hW.alike hK9, hD9⟩, hS.F ht⟩) hS.2.2 d_OU_isInRange_59
  · skip
    have hK := hK9
    have hP : va_P (dC, dI) cls_ [(h0, .inr (6, [.ref qx, .ref qy, .ref qo, .ref qc, .ref qg, .ref qm, .int (nI (p0)), .int ct])), (qx, .inl (cX, 64, .inl (fx))), (qy, .inl (cY, 64, .inl (fy)))] H := hP
    have hD : va_D A [(h0, .inr (6, [.ref qx, .ref qy, .ref qo, .ref qc, .ref qg, .ref qm, .int (nI (p0)), .int ct])), (qx, .inl (cX, 64, .inl (fx))), (qy, .inl (cY, 64, .inl (fy)))] := hD
    have hK : va_K (dC, dI) cls_ [(cX, .int), (cY, .int)] s := hK
    refine lv_iconst (v := 1) hx hb d_OU_isInRange_66 (by decide) ?_
    refine W.widen (k := 0) (n := 0) (Nat.le_of_ble_eq_true rfl) (Nat.le_of_ble_eq_true rfl) ?_
    have hP9 := hP.sub (ws' := [(h0, .inr (6, [.ref qx, .ref qy, .ref qo, .ref qc, .ref qg, .ref qm, .int (nI (p0)), .int ct])), (qx, .inl (cX, 64, .inl (fx))), (qy, .inl (cY, 64, .inl (fy)))]) [0, 1, 2] rfl
    have hD9 := hD.sub (ws' := [(h0, .inr (6, [.ref qx, .ref qy, .ref qo, .ref qc, .ref qg, .ref qm, .int (nI (p0)), .int ct])), (qx, .inl (cX, 64, .inl (fx))), (qy, .inl (cY, 64, .inl (fy)))]) [0, 1, 2] (by decide) rfl
    have hK9 := hK.sub (tys' := [(cX, .int), (cY, .int)]) [0, 1] rfl
    exact W.zret (v := 1) (ty := .boolean) hx hb hr (by decide +kernel) (fun t ht hW => ⟨⟨1, (), rfl, trivial, by rw [ht]; exact hP9, va_K.moved hW.alike hK9, hD9⟩, hS.F ht⟩) hS.2.2 d_OU_isInRange_67
set_option maxHeartbeats 8000000 in
set_option maxRecDepth 100000 in
/-- a loop of GlyphLines$Outline.movePoints -/
theorem ou_move_loop {p : Program} {l : Launch} {e : Env} {s : State} {m : MethodId} {args : Array Value} {below : List Frame} {meth : Method} {c : Code} {Q : State → Prop} {A : Nat → Prop} (hx : p.tables.exec = Jvm.exec) (hb : c.code = b_OU_movePoints) (hml : c.maxLocals = 4) (hts : ∀ w ∈ s_OU_movePoints, w.before args s = true) (hown : s.vm.findClass R_OU = some m.cls) (hA : ∀ q : Nat, s.heap.size ≤ q → A q) (dC : Nat → ClassId) (dI : Nat → Nat → Nat) (h0 : Nat) (qx : Nat) (qy : Nat) (qo : Nat) (qc : Nat) (qg : Nat) (qm : Nat) (p0 : Nat) (ct : Int32) (cX : ClassId) (cY : ClassId) (fx : Nat → Int32) (fy : Nat → Int32) (fr : Nat) (u1 : Int32) (u2 : Int32) (u3 : Int32) (u4 : Int32) (u5 : Int32) (u6 : Int32) (hq0 : p0 ≤ 64) (hq1 : fr ≤ 64) (hK : va_K (dC, dI) cls_ [(cX, .int), (cY, .int)] s)
    (kx68 : ∀ (k : Nat) (gx : Nat → Int32) (gy : Nat → Int32), (k ≤ 64) → ∀ (H : Heap) (locs : List Loc) (ls : Array Slot), va_P (dC, dI) cls_ [(h0, .inr (6, [.ref qx, .ref qy, .ref qo, .ref qc, .ref qg, .ref qm, .int (nI (p0)), .int ct])), (qx, .inl (cX, 64, .inl (gx))), (qy, .inl (cY, 64, .inl (gy))), (qm, .inr (5, [.int u1, .int u2, .int u3, .int u4, .int u5, .int u6]))] H → va_D A [(h0, .inr (6, [.ref qx, .ref qy, .ref qo, .ref qc, .ref qg, .ref qm, .int (nI (p0)), .int ct])), (qx, .inl (cX, 64, .inl (gx))), (qy, .inl (cY, 64, .inl (gy))), (qm, .inr (5, [.int u1, .int u2, .int u3, .int u4, .int u5, .int u6]))] → va_S A s.heap H locs → lv_has ls 4 [(2, .int (nI (k))), (0, .ref h0), (1, .int (nI (fr)))] → W p l e (headSpec s_OU_movePoints ({ frames := 10, cells := 0, slots := 0, locals := 300 })).room s m args below meth c H locs 0 0 Q (F0 m 68 ls []))
    : ∀ (fu : Nat) (k : Nat) (gx : Nat → Int32) (gy : Nat → Int32), (k ≤ 64) → 65 - k < fu → ∀ (H : Heap) (locs : List Loc) (ls : Array Slot), va_P (dC, dI) cls_ [(h0, .inr (6, [.ref qx, .ref qy, .ref qo, .ref qc, .ref qg, .ref qm, .int (nI (p0)), .int ct])), (qx, .inl (cX, 64, .inl (gx))), (qy, .inl (cY, 64, .inl (gy))), (qm, .inr (5, [.int u1, .int u2, .int u3, .int u4, .int u5, .int u6]))] H → va_D A [(h0, .inr (6, [.ref qx, .ref qy, .ref qo, .ref qc, .ref qg, .ref qm, .int (nI (p0)), .int ct])), (qx, .inl (cX, 64, .inl (gx))), (qy, .inl (cY, 64, .inl (gy))), (qm, .inr (5, [.int u1, .int u2, .int u3, .int u4, .int u5, .int u6]))] → va_S A s.heap H locs → lv_has ls 4 [(2, .int (nI (k))), (0, .ref h0), (1, .int (nI (fr)))] → W p l e (headSpec s_OU_movePoints ({ frames := 10, cells := 0, slots := 0, locals := 300 })).room s m args below meth c H locs 0 0 Q (F0 m 2 ls []) := by
  intro fu
  induction fu with
  | zero => intro k gx gy hf0 hm; exact absurd hm (Nat.not_lt_zero _)
  | succ fu ih =>
    intro k gx gy hf0 hm H locs ls hP hD hS hl
    refine lv_iload_n hx hb d_OU_movePoints_2 rfl (lv_at hl 0 rfl) ?_
    refine lv_aload_n hx hb d_OU_movePoints_3 rfl (lv_at hl 1 rfl) ?_
    refine va_get (D := (dC, dI)) (ci := 6) (v := .int (nI (p0))) (C := R_OU) (T := F_OU) (N := 8) hx hb hts in_OU hown hK hP 0 rfl rfl 6 (by decide) (hts _ (List.mem_cons_of_mem _ w_212)) (fun _ h9 => h9) rfl d_OU_movePoints_4 ?_
    refine lv_icmp_ge (tgt := 68) hx hb d_OU_movePoints_7 (by decide) (fun hc429 => ?_) (fun hc429 => ?_)
    · skip
      have hc429n : p0 ≤ k := (nI_leI (a := p0) (b := k) (by omega) (by omega)).mp hc429
      have hP8 := hP.sub (ws' := [(h0, .inr (6, [.ref qx, .ref qy, .ref qo, .ref qc, .ref qg, .ref qm, .int (nI (p0)), .int ct])), (qx, .inl (cX, 64, .inl (gx))), (qy, .inl (cY, 64, .inl (gy))), (qm, .inr (5, [.int u1, .int u2, .int u3, .int u4, .int u5, .int u6]))]) [0, 1, 2, 3] rfl
      have hD8 := hD.sub (ws' := [(h0, .inr (6, [.ref qx, .ref qy, .ref qo, .ref qc, .ref qg, .ref qm, .int (nI (p0)), .int ct])), (qx, .inl (cX, 64, .inl (gx))), (qy, .inl (cY, 64, .inl (gy))), (qm, .inr (5, [.int u1, .int u2, .int u3, .int u4, .int u5, .int u6]))]) [0, 1, 2, 3] (by decide) rfl
      exact kx68 k gx gy (by omega) H locs ls hP8 hD8 hS (lv_sub hl [0, 1, 2] rfl)
    · skip
      have hc429n : ¬ (p0 ≤ k) := fun z => hc429 ((nI_leI (a := p0) (b := k) (by omega) (by omega)).mpr z)
      refine lv_aload_n hx hb d_OU_movePoints_10 rfl (lv_at hl 1 rfl) ?_
      refine va_get (D := (dC, dI)) (ci := 6) (v := .ref qm) (C := R_OU) (T := F_OU) (N := 8) hx hb hts in_OU hown hK hP 0 rfl rfl 5 (by decide) (hts _ (List.mem_cons_of_mem _ w_211)) (fun _ h9 => h9) rfl d_OU_movePoints_11 ?_
      refine lv_aload_n hx hb d_OU_movePoints_14 rfl (lv_at hl 1 rfl) ?_
      refine va_get (D := (dC, dI)) (ci := 6) (v := .ref qx) (C := R_OU) (T := F_OU) (N := 8) hx hb hts in_OU hown hK hP 0 rfl rfl 0 (by decide) (hts _ (List.mem_cons_of_mem _ w_198)) (fun _ h9 => h9) rfl d_OU_movePoints_15 ?_
      refine lv_iload_n hx hb d_OU_movePoints_18 rfl (lv_at hl 0 rfl) ?_
      refine va_iald hx hb hK hP 1 0 rfl rfl (pk_in (k) 64 (by omega) rfl (by decide)) d_OU_movePoints_19 ?_
      refine lv_topi (fun v430 ev430 => ?_)
      refine lv_aload_n hx hb d_OU_movePoints_20 rfl (lv_at hl 1 rfl) ?_
      refine va_get (D := (dC, dI)) (ci := 6) (v := .ref qy) (C := R_OU) (T := F_OU) (N := 8) hx hb hts in_OU hown hK hP 0 rfl rfl 1 (by decide) (hts _ (List.mem_cons_of_mem _ w_201)) (fun _ h9 => h9) rfl d_OU_movePoints_21 ?_
      refine lv_iload_n hx hb d_OU_movePoints_24 rfl (lv_at hl 0 rfl) ?_
      refine va_iald hx hb hK hP 2 1 rfl rfl (pk_in (k) 64 (by omega) rfl (by decide)) d_OU_movePoints_25 ?_
      refine lv_topi (fun v431 ev431 => ?_)
      have hPc := hP.sub (ws' := [(qm, .inr (5, [.int u1, .int u2, .int u3, .int u4, .int u5, .int u6]))]) [3] rfl
      have hDc := hD.sub (ws' := [(qm, .inr (5, [.int u1, .int u2, .int u3, .int u4, .int u5, .int u6]))]) [3] (by decide) rfl
      have hKc := hK.sub (tys' := []) [] rfl
      have hFc := va_free (wc := [(qm, .inr (5, [.int u1, .int u2, .int u3, .int u4, .int u5, .int u6]))]) hD hS hA [3] rfl
      refine va_calli (va_runV (As := [.int v430, .int v431]) (rest := []) ⟨hx, hb, hml, hown, hts⟩ (g_MO_newX l dC dI qm u1 u2 u3 u4 u5 u6 v430 v431 H.size) (cwV 2 hts (tw_inV w_511 w_512 w_513 w_8 w_514) rfl rfl rfl (by decide +kernel) ⟨Nat.le_of_ble_eq_true rfl, Nat.le_of_ble_eq_true rfl⟩) ⟨fun a U g mk q => by obtain ⟨q0, q1, qP, qK, qD⟩ := q; exact ⟨q0, q1, qP, va_K.moved (u := U) (U := U.calling g mk a) (Vm.Alike.refl U.vm) qK, qD⟩, va_recv (hK := hK) (hP := hP) (q0 := 3) (ci := 5) rfl rfl, fun U hU hW => ⟨rfl, by rw [hU], by rw [hU]; exact hPc, va_K.moved hW.alike hKc, hDc.weaken (fun _ _ _ _ => trivial)⟩⟩ rfl rfl hl.1 rfl (lv_room (Nat.le_of_ble_eq_true rfl)) d_OU_movePoints_26 ⟨Nat.le_of_ble_eq_true rfl, Nat.le_of_ble_eq_true rfl⟩) hS (fun q _ h => hFc q h) hFc (fun r432 u t H1 locs ht hvm hw hB hz1 hk1 hS => ?_)
      obtain ⟨hP1, hK1, hD1⟩ := hB
      rw [ht] at hP1
      have hK1 := va_K.moved hvm.symm hK1
      obtain ⟨hP, hD⟩ := va_join (wr := [(h0, .inr (6, [.ref qx, .ref qy, .ref qo, .ref qc, .ref qg, .ref qm, .int (nI (p0)), .int ct])), (qx, .inl (cX, 64, .inl (gx))), (qy, .inl (cY, 64, .inl (gy)))]) (w1 := [(qm, .inr (5, [.int u1, .int u2, .int u3, .int u4, .int u5, .int u6]))]) hP hD [3] [0, 1, 2] rfl rfl (by decide) (by decide) hk1 hFc hP1 hD1
      have hK := (hK.sub (tys' := [(cX, .int), (cY, .int)]) [0, 1] rfl).app hK1
      generalize H1 = H at hP hS ⊢
      have hP : va_P (dC, dI) cls_ [(h0, .inr (6, [.ref qx, .ref qy, .ref qo, .ref qc, .ref qg, .ref qm, .int (nI (p0)), .int ct])), (qx, .inl (cX, 64, .inl (gx))), (qy, .inl (cY, 64, .inl (gy))), (qm, .inr (5, [.int u1, .int u2, .int u3, .int u4, .int u5, .int u6]))] H := hP
      have hD : va_D A [(h0, .inr (6, [.ref qx, .ref qy, .ref qo, .ref qc, .ref qg, .ref qm, .int (nI (p0)), .int ct])), (qx, .inl (cX, 64, .inl (gx))), (qy, .inl (cY, 64, .inl (gy))), (qm, .inr (5, [.int u1, .int u2, .int u3, .int u4, .int u5, .int u6]))] := hD
      have hK : va_K (dC, dI) cls_ [(cX, .int), (cY, .int)] s := hK
      have hw_r432 := hw
      refine lv_istore_n (lv' := [(3, .int r432), (2, .int (nI (k))), (0, .ref h0), (1, .int (nI (fr)))]) hx hb d_OU_movePoints_29 rfl hl (by decide) rfl (fun ls hl => ?_)
      refine lv_aload_n hx hb d_OU_movePoints_30 rfl (lv_at hl 2 rfl) ?_
      refine va_get (D := (dC, dI)) (ci := 6) (v := .ref qy) (C := R_OU) (T := F_OU) (N := 8) hx hb hts in_OU hown hK hP 0 rfl rfl 1 (by decide) (hts _ (List.mem_cons_of_mem _ w_201)) (fun _ h9 => h9) rfl d_OU_movePoints_31 ?_
      refine lv_iload_n hx hb d_OU_movePoints_34 rfl (lv_at hl 1 rfl) ?_
      refine lv_aload_n hx hb d_OU_movePoints_35 rfl (lv_at hl 2 rfl) ?_
      refine va_get (D := (dC, dI)) (ci := 6) (v := .ref qm) (C := R_OU) (T := F_OU) (N := 8) hx hb hts in_OU hown hK hP 0 rfl rfl 5 (by decide) (hts _ (List.mem_cons_of_mem _ w_211)) (fun _ h9 => h9) rfl d_OU_movePoints_36 ?_
      refine lv_aload_n hx hb d_OU_movePoints_39 rfl (lv_at hl 2 rfl) ?_
      refine va_get (D := (dC, dI)) (ci := 6) (v := .ref qx) (C := R_OU) (T := F_OU) (N := 8) hx hb hts in_OU hown hK hP 0 rfl rfl 0 (by decide) (hts _ (List.mem_cons_of_mem _ w_198)) (fun _ h9 => h9) rfl d_OU_movePoints_40 ?_
      refine lv_iload_n hx hb d_OU_movePoints_43 rfl (lv_at hl 1 rfl) ?_
      refine va_iald hx hb hK hP 1 0 rfl rfl (pk_in (k) 64 (by omega) rfl (by decide)) d_OU_movePoints_44 ?_
      refine lv_topi (fun v433 ev433 => ?_)
      refine lv_aload_n hx hb d_OU_movePoints_45 rfl (lv_at hl 2 rfl) ?_
      refine va_get (D := (dC, dI)) (ci := 6) (v := .ref qy) (C := R_OU) (T := F_OU) (N := 8) hx hb hts in_OU hown hK hP 0 rfl rfl 1 (by decide) (hts _ (List.mem_cons_of_mem _ w_201)) (fun _ h9 => h9) rfl d_OU_movePoints_46 ?_
      refine lv_iload_n hx hb d_OU_movePoints_49 rfl (lv_at hl 1 rfl) ?_
      refine va_iald hx hb hK hP 2 1 rfl rfl (pk_in (k) 64 (by omega) rfl (by decide)) d_OU_movePoints_50 ?_
      refine lv_topi (fun v434 ev434 => ?_)
      have hPc := hP.sub (ws' := [(qm, .inr (5, [.int u1, .int u2, .int u3, .int u4, .int u5, .int u6]))]) [3] rfl
      have hDc := hD.sub (ws' := [(qm, .inr (5, [.int u1, .int u2, .int u3, .int u4, .int u5, .int u6]))]) [3] (by decide) rfl
      have hKc := hK.sub (tys' := []) [] rfl
      have hFc := va_free (wc := [(qm, .inr (5, [.int u1, .int u2, .int u3, .int u4, .int u5, .int u6]))]) hD hS hA [3] rfl
      refine va_calli (va_runV (As := [.int v433, .int v434]) (rest := [.int (nI (k)), .ref qy]) ⟨hx, hb, hml, hown, hts⟩ (g_MO_newY l dC dI qm u1 u2 u3 u4 u5 u6 v433 v434 H.size) (cwV 2 hts (tw_inV w_515 w_516 w_517 w_8 w_518) rfl rfl rfl (by decide +kernel) ⟨Nat.le_of_ble_eq_true rfl, Nat.le_of_ble_eq_true rfl⟩) ⟨fun a U g mk q => by obtain ⟨q0, q1, qP, qK, qD⟩ := q; exact ⟨q0, q1, qP, va_K.moved (u := U) (U := U.calling g mk a) (Vm.Alike.refl U.vm) qK, qD⟩, va_recv (hK := hK) (hP := hP) (q0 := 3) (ci := 5) rfl rfl, fun U hU hW => ⟨rfl, by rw [hU], by rw [hU]; exact hPc, va_K.moved hW.alike hKc, hDc.weaken (fun _ _ _ _ => trivial)⟩⟩ rfl rfl hl.1 rfl (lv_room (Nat.le_of_ble_eq_true rfl)) d_OU_movePoints_51 ⟨Nat.le_of_ble_eq_true rfl, Nat.le_of_ble_eq_true rfl⟩) hS (fun q _ h => hFc q h) hFc (fun r435 u t H1 locs ht hvm hw hB hz1 hk1 hS => ?_)
      obtain ⟨hP1, hK1, hD1⟩ := hB
      rw [ht] at hP1
      have hK1 := va_K.moved hvm.symm hK1
      obtain ⟨hP, hD⟩ := va_join (wr := [(h0, .inr (6, [.ref qx, .ref qy, .ref qo, .ref qc, .ref qg, .ref qm, .int (nI (p0)), .int ct])), (qx, .inl (cX, 64, .inl (gx))), (qy, .inl (cY, 64, .inl (gy)))]) (w1 := [(qm, .inr (5, [.int u1, .int u2, .int u3, .int u4, .int u5, .int u6]))]) hP hD [3] [0, 1, 2] rfl rfl (by decide) (by decide) hk1 hFc hP1 hD1
      have hK := (hK.sub (tys' := [(cX, .int), (cY, .int)]) [0, 1] rfl).app hK1
      generalize H1 = H at hP hS ⊢
      have hP : va_P (dC, dI) cls_ [(h0, .inr (6, [.ref qx, .ref qy, .ref qo, .ref qc, .ref qg, .ref qm, .int (nI (p0)), .int ct])), (qx, .inl (cX, 64, .inl (gx))), (qy, .inl (cY, 64, .inl (gy))), (qm, .inr (5, [.int u1, .int u2, .int u3, .int u4, .int u5, .int u6]))] H := hP
      have hD : va_D A [(h0, .inr (6, [.ref qx, .ref qy, .ref qo, .ref qc, .ref qg, .ref qm, .int (nI (p0)), .int ct])), (qx, .inl (cX, 64, .inl (gx))), (qy, .inl (cY, 64, .inl (gy))), (qm, .inr (5, [.int u1, .int u2, .int u3, .int u4, .int u5, .int u6]))] := hD
      have hK : va_K (dC, dI) cls_ [(cX, .int), (cY, .int)] s := hK
      have hw_r435 := hw
      refine va_iast hx hb hK hP hD hS 2 1 rfl rfl (pk_in (k) 64 (by omega) rfl (by decide)) d_OU_movePoints_54 (fun H locs hP hD hS => ?_)
      have hP : va_P (dC, dI) cls_ [(h0, .inr (6, [.ref qx, .ref qy, .ref qo, .ref qc, .ref qg, .ref qm, .int (nI (p0)), .int ct])), (qx, .inl (cX, 64, .inl (gx))), (qy, .inl (cY, 64, .inl (upd (gy) (Int32.toNatClampNeg (nI (k))) (r435)))), (qm, .inr (5, [.int u1, .int u2, .int u3, .int u4, .int u5, .int u6]))] H := hP
      have hD : va_D A [(h0, .inr (6, [.ref qx, .ref qy, .ref qo, .ref qc, .ref qg, .ref qm, .int (nI (p0)), .int ct])), (qx, .inl (cX, 64, .inl (gx))), (qy, .inl (cY, 64, .inl (upd (gy) (Int32.toNatClampNeg (nI (k))) (r435)))), (qm, .inr (5, [.int u1, .int u2, .int u3, .int u4, .int u5, .int u6]))] := hD
      obtain ⟨g436, eg436⟩ : ∃ z : Nat → Int32, z = upd (gy) (Int32.toNatClampNeg (nI (k))) (r435) := ⟨_, rfl⟩
      rw [← eg436] at hP hD
      have hP : va_P (dC, dI) cls_ [(h0, .inr (6, [.ref qx, .ref qy, .ref qo, .ref qc, .ref qg, .ref qm, .int (nI (p0)), .int ct])), (qx, .inl (cX, 64, .inl (gx))), (qy, .inl (cY, 64, .inl (g436))), (qm, .inr (5, [.int u1, .int u2, .int u3, .int u4, .int u5, .int u6]))] H := hP
      have hD : va_D A [(h0, .inr (6, [.ref qx, .ref qy, .ref qo, .ref qc, .ref qg, .ref qm, .int (nI (p0)), .int ct])), (qx, .inl (cX, 64, .inl (gx))), (qy, .inl (cY, 64, .inl (g436))), (qm, .inr (5, [.int u1, .int u2, .int u3, .int u4, .int u5, .int u6]))] := hD
      refine lv_aload_n hx hb d_OU_movePoints_55 rfl (lv_at hl 2 rfl) ?_
      refine va_get (D := (dC, dI)) (ci := 6) (v := .ref qx) (C := R_OU) (T := F_OU) (N := 8) hx hb hts in_OU hown hK hP 0 rfl rfl 0 (by decide) (hts _ (List.mem_cons_of_mem _ w_198)) (fun _ h9 => h9) rfl d_OU_movePoints_56 ?_
      refine lv_iload_n hx hb d_OU_movePoints_59 rfl (lv_at hl 1 rfl) ?_
      refine lv_iload_n hx hb d_OU_movePoints_60 rfl (lv_at hl 0 rfl) ?_
      refine va_iast hx hb hK hP hD hS 1 0 rfl rfl (pk_in (k) 64 (by omega) rfl (by decide)) d_OU_movePoints_61 (fun H locs hP hD hS => ?_)
      have hP : va_P (dC, dI) cls_ [(h0, .inr (6, [.ref qx, .ref qy, .ref qo, .ref qc, .ref qg, .ref qm, .int (nI (p0)), .int ct])), (qx, .inl (cX, 64, .inl (upd (gx) (Int32.toNatClampNeg (nI (k))) (r432)))), (qy, .inl (cY, 64, .inl (g436))), (qm, .inr (5, [.int u1, .int u2, .int u3, .int u4, .int u5, .int u6]))] H := hP
      have hD : va_D A [(h0, .inr (6, [.ref qx, .ref qy, .ref qo, .ref qc, .ref qg, .ref qm, .int (nI (p0)), .int ct])), (qx, .inl (cX, 64, .inl (upd (gx) (Int32.toNatClampNeg (nI (k))) (r432)))), (qy, .inl (cY, 64, .inl (g436))), (qm, .inr (5, [.int u1, .int u2, .int u3, .int u4, .int u5, .int u6]))] := hD
      obtain ⟨g437, eg437⟩ : ∃ z : Nat → Int32, z = upd (gx) (Int32.toNatClampNeg (nI (k))) (r432) := ⟨_, rfl⟩
      rw [← eg437] at hP hD
      have hP : va_P (dC, dI) cls_ [(h0, .inr (6, [.ref qx, .ref qy, .ref qo, .ref qc, .ref qg, .ref qm, .int (nI (p0)), .int ct])), (qx, .inl (cX, 64, .inl (g437))), (qy, .inl (cY, 64, .inl (g436))), (qm, .inr (5, [.int u1, .int u2, .int u3, .int u4, .int u5, .int u6]))] H := hP
      have hD : va_D A [(h0, .inr (6, [.ref qx, .ref qy, .ref qo, .ref qc, .ref qg, .ref qm, .int (nI (p0)), .int ct])), (qx, .inl (cX, 64, .inl (g437))), (qy, .inl (cY, 64, .inl (g436))), (qm, .inr (5, [.int u1, .int u2, .int u3, .int u4, .int u5, .int u6]))] := hD
      refine lv_iinc (k := 1) (v := nI (k + 1)) (lv' := [(2, .int (nI (k + 1))), (3, .int r432), (0, .ref h0), (1, .int (nI (fr)))]) hx hb d_OU_movePoints_62 hl rfl (nI_add (k) 1) (by decide) rfl (fun ls hl => ?_)
      refine lv_goto (tgt := 2) hx hb d_OU_movePoints_65 (by decide) ?_
      have hP8 := hP.sub (ws' := [(h0, .inr (6, [.ref qx, .ref qy, .ref qo, .ref qc, .ref qg, .ref qm, .int (nI (p0)), .int ct])), (qx, .inl (cX, 64, .inl (g437))), (qy, .inl (cY, 64, .inl (g436))), (qm, .inr (5, [.int u1, .int u2, .int u3, .int u4, .int u5, .int u6]))]) [0, 1, 2, 3] rfl
      have hD8 := hD.sub (ws' := [(h0, .inr (6, [.ref qx, .ref qy, .ref qo, .ref qc, .ref qg, .ref qm, .int (nI (p0)), .int ct])), (qx, .inl (cX, 64, .inl (g437))), (qy, .inl (cY, 64, .inl (g436))), (qm, .inr (5, [.int u1, .int u2, .int u3, .int u4, .int u5, .int u6]))]) [0, 1, 2, 3] (by decide) rfl
      exact ih (k + 1) g437 g436 (by omega) (by omega) H locs ls hP8 hD8 hS (lv_sub hl [0, 2, 3] rfl)
set_option maxHeartbeats 4000000 in
set_option maxRecDepth 100000 in
/-- GlyphLines$Outline.movePoints -/
theorem g_OU_movePoints (l : Launch) (dC : Nat → ClassId) (dI : Nat → Nat → Nat) (h0 : Nat) (qx : Nat) (qy : Nat) (qo : Nat) (qc : Nat) (qg : Nat) (qm : Nat) (p0 : Nat) (ct : Int32) (cX : ClassId) (cY : ClassId) (fx : Nat → Int32) (fy : Nat → Int32) (fr : Nat) (u1 : Int32) (u2 : Int32) (u3 : Int32) (u4 : Int32) (u5 : Int32) (u6 : Int32) (sz : Nat) (hq0 : p0 ≤ 64) (hq1 : fr ≤ 64) : Met l y_OU_movePoints s_OU_movePoints ({ frames := 10, cells := 0, slots := 0, locals := 300 }) (va_Pc [.ref h0, .int (nI (fr))] (fun U => U.heap.size = sz ∧ va_P (dC, dI) cls_ [(h0, .inr (6, [.ref qx, .ref qy, .ref qo, .ref qc, .ref qg, .ref qm, .int (nI (p0)), .int ct])), (qx, .inl (cX, 64, .inl (fx))), (qy, .inl (cY, 64, .inl (fy))), (qm, .inr (5, [.int u1, .int u2, .int u3, .int u4, .int u5, .int u6]))] U.heap ∧ va_K (dC, dI) cls_ [(cX, .int), (cY, .int)] U ∧ va_D (fun _ => True) [(h0, .inr (6, [.ref qx, .ref qy, .ref qo, .ref qc, .ref qg, .ref qm, .int (nI (p0)), .int ct])), (qx, .inl (cX, 64, .inl (fx))), (qy, .inl (cY, 64, .inl (fy))), (qm, .inr (5, [.int u1, .int u2, .int u3, .int u4, .int u5, .int u6]))])) (va_Qv (fun _ : Unit => True) (fun (_ : Unit) (t : State) => ∃ (gx : Nat → Int32) (gy : Nat → Int32), va_P (dC, dI) cls_ [(h0, .inr (6, [.ref qx, .ref qy, .ref qo, .ref qc, .ref qg, .ref qm, .int (nI (p0)), .int ct])), (qx, .inl (cX, 64, .inl (gx))), (qy, .inl (cY, 64, .inl (gy))), (qm, .inr (5, [.int u1, .int u2, .int u3, .int u4, .int u5, .int u6]))] t.heap ∧ va_K (dC, dI) cls_ [(cX, .int), (cY, .int)] t ∧ va_D (va_A [(h0, .inr (6, [.ref qx, .ref qy, .ref qo, .ref qc, .ref qg, .ref qm, .int (nI (p0)), .int ct])), (qx, .inl (cX, 64, .inl (fx))), (qy, .inl (cY, 64, .inl (fy))), (qm, .inr (5, [.int u1, .int u2, .int u3, .int u4, .int u5, .int u6]))] sz) [(h0, .inr (6, [.ref qx, .ref qy, .ref qo, .ref qc, .ref qg, .ref qm, .int (nI (p0)), .int ct])), (qx, .inl (cX, 64, .inl (gx))), (qy, .inl (cY, 64, .inl (gy))), (qm, .inr (5, [.int u1, .int u2, .int u3, .int u4, .int u5, .int u6]))]) (va_A [(h0, .inr (6, [.ref qx, .ref qy, .ref qo, .ref qc, .ref qg, .ref qm, .int (nI (p0)), .int ct])), (qx, .inl (cX, 64, .inl (fx))), (qy, .inl (cY, 64, .inl (fy))), (qm, .inr (5, [.int u1, .int u2, .int u3, .int u4, .int u5, .int u6]))] sz)) 0 0 (va_A [(h0, .inr (6, [.ref qx, .ref qy, .ref qo, .ref qc, .ref qg, .ref qm, .int (nI (p0)), .int ct])), (qx, .inl (cX, 64, .inl (fx))), (qy, .inl (cY, 64, .inl (fy))), (qm, .inr (5, [.int u1, .int u2, .int u3, .int u4, .int u5, .int u6]))] sz) := by
  refine Met.ofW (cc := b_OU_movePoints) (maxL := 4) (ret := none) (by decide) rfl ?_
  intro p e s m args below meth c s₁ B hml hv
  obtain ⟨rfl, hsz, hP, hK, hD0⟩ := hv
  have hx := B.exec
  have hb := B.bytes
  have hr := B.returns
  have hts := atoms_spec (ws := s_OU_movePoints) B.pre
  have hown : s.vm.findClass R_OU = some m.cls := findClass_of_methodNamed B.named
  have hlocks := B.notSynchronized
  subst hsz
  have hD := hD0.self (sz := s.heap.size)
  generalize hAe : va_A [(h0, .inr (6, [.ref qx, .ref qy, .ref qo, .ref qc, .ref qg, .ref qm, .int (nI (p0)), .int ct])), (qx, .inl (cX, 64, .inl (fx))), (qy, .inl (cY, 64, .inl (fy))), (qm, .inr (5, [.int u1, .int u2, .int u3, .int u4, .int u5, .int u6]))] s.heap.size = A at hD ⊢
  have hA : ∀ q : Nat, s.heap.size ≤ q → A q := fun q h => by rw [← hAe]; exact Or.inr h
  have hS : va_S A s.heap s.heap [] := va_S.rf
  have hP : va_P (dC, dI) cls_ [(h0, .inr (6, [.ref qx, .ref qy, .ref qo, .ref qc, .ref qg, .ref qm, .int (nI (p0)), .int ct])), (qx, .inl (cX, 64, .inl (fx))), (qy, .inl (cY, 64, .inl (fy))), (qm, .inr (5, [.int u1, .int u2, .int u3, .int u4, .int u5, .int u6]))] s.heap := hP
  have hl := lv_entry ([.ref h0, .int (nI (fr))]) (n := 4) (Nat.le_of_ble_eq_true rfl)
  rw [lg_entry_eq]
  generalize (lg_sl ([.ref h0, .int (nI (fr))]) ++ List.replicate (4 - (lg_sl ([.ref h0, .int (nI (fr))])).length) Slot.unset).toArray = ls at hl ⊢
  have hl : lv_has ls 4 [(0, .ref h0), (1, .int (nI (fr)))] := hl
  refine lv_iload_n hx hb d_OU_movePoints_0 rfl (lv_at hl 1 rfl) ?_
  refine lv_istore_n (lv' := [(2, .int (nI (fr))), (0, .ref h0), (1, .int (nI (fr)))]) hx hb d_OU_movePoints_1 rfl hl (by decide) rfl (fun ls hl => ?_)
  have hP8 := hP.sub (ws' := [(h0, .inr (6, [.ref qx, .ref qy, .ref qo, .ref qc, .ref qg, .ref qm, .int (nI (p0)), .int ct])), (qx, .inl (cX, 64, .inl (fx))), (qy, .inl (cY, 64, .inl (fy))), (qm, .inr (5, [.int u1, .int u2, .int u3, .int u4, .int u5, .int u6]))]) [0, 1, 2, 3] rfl
  have hD8 := hD.sub (ws' := [(h0, .inr (6, [.ref qx, .ref qy, .ref qo, .ref qc, .ref qg, .ref qm, .int (nI (p0)), .int ct])), (qx, .inl (cX, 64, .inl (fx))), (qy, .inl (cY, 64, .inl (fy))), (qm, .inr (5, [.int u1, .int u2, .int u3, .int u4, .int u5, .int u6]))]) [0, 1, 2, 3] (by decide) rfl
  have hK9 := hK.sub (tys' := [(cX, .int), (cY, .int)]) [0, 1] rfl
  refine ou_move_loop hx hb hml hts hown hA dC dI h0 qx qy qo qc qg qm p0 ct cX cY fx fy fr u1 u2 u3 u4 u5 u6 (by omega) (by omega) hK9 (fun k_438 gx_439 gy_440 hf_441 H locs ls hP hD hS hl => ?_) (65 - fr + 1) fr fx fy (by omega) (by omega) s.heap _ ls hP8 hD8 hS (lv_sub hl [0, 1, 2] rfl)
  · skip
    have hK := hK9
    have hP : va_P (dC, dI) cls_ [(h0, .inr (6, [.ref qx, .ref qy, .ref qo, .ref qc, .ref qg, .ref qm, .int (nI (p0)), .int ct])), (qx, .inl (cX, 64, .inl (gx_439))), (qy, .inl (cY, 64, .inl (gy_440))), (qm, .inr (5, [.int u1, .int u2, .int u3, .int u4, .int u5, .int u6]))] H := hP
    have hD : va_D A [(h0, .inr (6, [.ref qx, .ref qy, .ref qo, .ref qc, .ref qg, .ref qm, .int (nI (p0)), .int ct])), (qx, .inl (cX, 64, .inl (gx_439))), (qy, .inl (cY, 64, .inl (gy_440))), (qm, .inr (5, [.int u1, .int u2, .int u3, .int u4, .int u5, .int u6]))] := hD
    have hK : va_K (dC, dI) cls_ [(cX, .int), (cY, .int)] s := hK
    refine W.widen (k := 0) (n := 0) (Nat.le_of_ble_eq_true rfl) (Nat.le_of_ble_eq_true rfl) ?_
    have hP9 := hP.sub (ws' := [(h0, .inr (6, [.ref qx, .ref qy, .ref qo, .ref qc, .ref qg, .ref qm, .int (nI (p0)), .int ct])), (qx, .inl (cX, 64, .inl (gx_439))), (qy, .inl (cY, 64, .inl (gy_440))), (qm, .inr (5, [.int u1, .int u2, .int u3, .int u4, .int u5, .int u6]))]) [0, 1, 2, 3] rfl
    have hD9 := hD.sub (ws' := [(h0, .inr (6, [.ref qx, .ref qy, .ref qo, .ref qc, .ref qg, .ref qm, .int (nI (p0)), .int ct])), (qx, .inl (cX, 64, .inl (gx_439))), (qy, .inl (cY, 64, .inl (gy_440))), (qm, .inr (5, [.int u1, .int u2, .int u3, .int u4, .int u5, .int u6]))]) [0, 1, 2, 3] (by decide) rfl
    have hK9 := hK.sub (tys' := [(cX, .int), (cY, .int)]) [0, 1] rfl
    exact W.vret hx hb hr (fun t ht hW => ⟨⟨(), rfl, trivial, gx_439, gy_440, by rw [ht]; exact hP9, va_K.moved hW.alike hK9, hD9⟩, hS.F ht⟩) hS.2.2 d_OU_movePoints_68
