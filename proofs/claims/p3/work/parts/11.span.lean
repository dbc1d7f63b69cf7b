abbrev b_SP_u32 : ByteArray := prog_10_method_6_code
def y_SP_u32 : MethodName := ⟨R_SP, "u32", "(I)J"⟩
def s_SP_u32 : List Cond := .code y_SP_u32 b_SP_u32 6 (some .long) :: tw_T
theorem d_SP_u32_0 : decode b_SP_u32 0 = .ok (.lconst 0, 1) := by decide +kernel
theorem d_SP_u32_1 : decode b_SP_u32 1 = .ok (.lstore_n 2, 1) := by decide +kernel
theorem d_SP_u32_10 : decode b_SP_u32 10 = .ok (.if_icmp .ge (77), 3) := by decide +kernel
theorem d_SP_u32_13 : decode b_SP_u32 13 = .ok (.iload 4, 2) := by decide +kernel
theorem d_SP_u32_15 : decode b_SP_u32 15 = .ok (.ifCond .lt (16), 3) := by decide +kernel
theorem d_SP_u32_18 : decode b_SP_u32 18 = .ok (.iload 4, 2) := by decide +kernel
theorem d_SP_u32_2 : decode b_SP_u32 2 = .ok (.iload_n 1, 1) := by decide +kernel
theorem d_SP_u32_20 : decode b_SP_u32 20 = .ok (.aload_n 0, 1) := by decide +kernel
theorem d_SP_u32_21 : decode b_SP_u32 21 = .ok (.getfield 13, 3) := by decide +kernel
theorem d_SP_u32_24 : decode b_SP_u32 24 = .ok (.if_icmp .ge (7), 3) := by decide +kernel
theorem d_SP_u32_27 : decode b_SP_u32 27 = .ok (.iconst 1, 1) := by decide +kernel
theorem d_SP_u32_28 : decode b_SP_u32 28 = .ok (.goto (4), 3) := by decide +kernel
theorem d_SP_u32_3 : decode b_SP_u32 3 = .ok (.istore 4, 2) := by decide +kernel
theorem d_SP_u32_31 : decode b_SP_u32 31 = .ok (.iconst 0, 1) := by decide +kernel
theorem d_SP_u32_32 : decode b_SP_u32 32 = .ok (.istore 5, 2) := by decide +kernel
theorem d_SP_u32_34 : decode b_SP_u32 34 = .ok (.aload_n 0, 1) := by decide +kernel
theorem d_SP_u32_35 : decode b_SP_u32 35 = .ok (.dup, 1) := by decide +kernel
theorem d_SP_u32_36 : decode b_SP_u32 36 = .ok (.getfield 16, 3) := by decide +kernel
theorem d_SP_u32_39 : decode b_SP_u32 39 = .ok (.iload 5, 2) := by decide +kernel
theorem d_SP_u32_41 : decode b_SP_u32 41 = .ok (.ifCond .ne (7), 3) := by decide +kernel
theorem d_SP_u32_44 : decode b_SP_u32 44 = .ok (.iconst 1, 1) := by decide +kernel
theorem d_SP_u32_45 : decode b_SP_u32 45 = .ok (.goto (4), 3) := by decide +kernel
theorem d_SP_u32_48 : decode b_SP_u32 48 = .ok (.iconst 0, 1) := by decide +kernel
theorem d_SP_u32_49 : decode b_SP_u32 49 = .ok (.ior, 1) := by decide +kernel
theorem d_SP_u32_5 : decode b_SP_u32 5 = .ok (.iload 4, 2) := by decide +kernel
theorem d_SP_u32_50 : decode b_SP_u32 50 = .ok (.putfield 16, 3) := by decide +kernel
theorem d_SP_u32_53 : decode b_SP_u32 53 = .ok (.lload_n 2, 1) := by decide +kernel
theorem d_SP_u32_54 : decode b_SP_u32 54 = .ok (.bipush 8, 2) := by decide +kernel
theorem d_SP_u32_56 : decode b_SP_u32 56 = .ok (.lshl, 1) := by decide +kernel
theorem d_SP_u32_57 : decode b_SP_u32 57 = .ok (.iload 5, 2) := by decide +kernel
theorem d_SP_u32_59 : decode b_SP_u32 59 = .ok (.ifCond .eq (18), 3) := by decide +kernel
theorem d_SP_u32_62 : decode b_SP_u32 62 = .ok (.aload_n 0, 1) := by decide +kernel
theorem d_SP_u32_63 : decode b_SP_u32 63 = .ok (.getfield 20, 3) := by decide +kernel
theorem d_SP_u32_66 : decode b_SP_u32 66 = .ok (.aload_n 0, 1) := by decide +kernel
theorem d_SP_u32_67 : decode b_SP_u32 67 = .ok (.getfield 7, 3) := by decide +kernel
theorem d_SP_u32_7 : decode b_SP_u32 7 = .ok (.iload_n 1, 1) := by decide +kernel
theorem d_SP_u32_70 : decode b_SP_u32 70 = .ok (.iload 4, 2) := by decide +kernel
theorem d_SP_u32_72 : decode b_SP_u32 72 = .ok (.iadd, 1) := by decide +kernel
theorem d_SP_u32_73 : decode b_SP_u32 73 = .ok (.iaload, 1) := by decide +kernel
theorem d_SP_u32_74 : decode b_SP_u32 74 = .ok (.goto (4), 3) := by decide +kernel
theorem d_SP_u32_77 : decode b_SP_u32 77 = .ok (.iconst 0, 1) := by decide +kernel
theorem d_SP_u32_78 : decode b_SP_u32 78 = .ok (.i2l, 1) := by decide +kernel
theorem d_SP_u32_79 : decode b_SP_u32 79 = .ok (.lor, 1) := by decide +kernel
theorem d_SP_u32_8 : decode b_SP_u32 8 = .ok (.iconst 4, 1) := by decide +kernel
theorem d_SP_u32_80 : decode b_SP_u32 80 = .ok (.lstore_n 2, 1) := by decide +kernel
theorem d_SP_u32_81 : decode b_SP_u32 81 = .ok (.iinc 4 (1), 3) := by decide +kernel
theorem d_SP_u32_84 : decode b_SP_u32 84 = .ok (.goto (-79), 3) := by decide +kernel
theorem d_SP_u32_87 : decode b_SP_u32 87 = .ok (.lload_n 2, 1) := by decide +kernel
theorem d_SP_u32_88 : decode b_SP_u32 88 = .ok (.lreturn, 1) := by decide +kernel
theorem d_SP_u32_9 : decode b_SP_u32 9 = .ok (.iadd, 1) := by decide +kernel
theorem u32_inc (i : Int32) (c : Nat) : (i + nI c) + Int32.ofInt 1 = i + nI (c + 1) := by
  rw [nI_succ, Int32.add_assoc]
  rfl
theorem u32_lt {i : Int32} {c : Nat} (hc : c ≤ 4) (h : i + nI c < i + 4) : c < 4 := by
  rcases Nat.lt_or_eq_of_le hc with h1 | rfl
  · exact h1
  · exact absurd h (fun z => Int32.lt_irrefl z)
set_option maxHeartbeats 8000000 in
set_option maxRecDepth 100000 in
/-- a loop of GlyphLines$Span.u32 -/
theorem sp_u32_loop {p : Program} {l : Launch} {e : Env} {s : State} {m : MethodId} {args : Array Value} {below : List Frame} {meth : Method} {c : Code} {Q : State → Prop} {A : Nat → Prop} (hx : p.tables.exec = Jvm.exec) (hb : c.code = b_SP_u32) (hml : c.maxLocals = 6) (hts : ∀ w ∈ s_SP_u32, w.before args s = true) (hown : s.vm.findClass R_SP = some m.cls) (hA : ∀ q : Nat, s.heap.size ≤ q → A q) (dC : Nat → ClassId) (dI : Nat → Nat → Nat) (h0 : Nat) (qa : Nat) (a : Nat) (n : Nat) (mi : Bool) (cA : ClassId) (f : Nat → Int32) (i : Int32) (hq0 : a + n ≤ 1200) (hq1 : isB f) (hK : va_K (dC, dI) cls_ [(cA, .int)] s)
    (kx87 : ∀ (cn : Nat) (vl : Int64) (m3 : Bool), (cn ≤ 4) → ∀ (H : Heap) (locs : List Loc) (ls : Array Slot), va_P (dC, dI) cls_ [(h0, .inr (0, [.ref qa, .int (nI (a)), .int (nI (n)), .int (bI m3)])), (qa, .inl (cA, 1200, .inl (f)))] H → va_D A [(h0, .inr (0, [.ref qa, .int (nI (a)), .int (nI (n)), .int (bI m3)])), (qa, .inl (cA, 1200, .inl (f)))] → va_S A s.heap H locs → lv_has ls 6 [(4, .int (i + nI (cn))), (2, .long vl), (0, .ref h0), (1, .int i)] → W p l e (headSpec s_SP_u32 ({ frames := 8, cells := 0, slots := 0, locals := 200 })).room s m args below meth c H locs 0 0 Q (F0 m 87 ls []))
    : ∀ (fu : Nat) (cn : Nat) (vl : Int64) (m3 : Bool), (cn ≤ 4) → 4 - cn < fu → ∀ (H : Heap) (locs : List Loc) (ls : Array Slot), va_P (dC, dI) cls_ [(h0, .inr (0, [.ref qa, .int (nI (a)), .int (nI (n)), .int (bI m3)])), (qa, .inl (cA, 1200, .inl (f)))] H → va_D A [(h0, .inr (0, [.ref qa, .int (nI (a)), .int (nI (n)), .int (bI m3)])), (qa, .inl (cA, 1200, .inl (f)))] → va_S A s.heap H locs → lv_has ls 6 [(4, .int (i + nI (cn))), (2, .long vl), (0, .ref h0), (1, .int i)] → W p l e (headSpec s_SP_u32 ({ frames := 8, cells := 0, slots := 0, locals := 200 })).room s m args below meth c H locs 0 0 Q (F0 m 5 ls []) := by
  intro fu
  induction fu with
  | zero => intro cn vl m3 hf0 hm; exact absurd hm (Nat.not_lt_zero _)
  | succ fu ih =>
    intro cn vl m3 hf0 hm H locs ls hP hD hS hl
    refine lv_iload hx hb d_SP_u32_5 (lv_at hl 0 rfl) ?_
    refine lv_iload_n hx hb d_SP_u32_7 rfl (lv_at hl 3 rfl) ?_
    refine lv_iconst (v := 4) hx hb d_SP_u32_8 (by decide) ?_
    refine lv_iadd hx hb d_SP_u32_9 ?_
    refine lv_icmp_ge (tgt := 87) hx hb d_SP_u32_10 (by decide) (fun hc15 => ?_) (fun hc15 => ?_)
    · skip
      have hP8 := hP.sub (ws' := [(h0, .inr (0, [.ref qa, .int (nI (a)), .int (nI (n)), .int (bI m3)])), (qa, .inl (cA, 1200, .inl (f)))]) [0, 1] rfl
      have hD8 := hD.sub (ws' := [(h0, .inr (0, [.ref qa, .int (nI (a)), .int (nI (n)), .int (bI m3)])), (qa, .inl (cA, 1200, .inl (f)))]) [0, 1] (by decide) rfl
      exact kx87 cn vl m3 (by omega) H locs ls hP8 hD8 hS (lv_sub hl [0, 1, 2, 3] rfl)
    · skip
      have hc4 : cn < 4 := u32_lt hf0 (Int32.not_le.mp hc15)
      refine lv_iload hx hb d_SP_u32_13 (lv_at hl 0 rfl) ?_
      refine lv_if_lt (tgt := 31) hx hb d_SP_u32_15 (by decide) (fun hc16 => ?_) (fun hc16 => ?_)
      · skip
        refine lv_iconst (v := 0) hx hb d_SP_u32_31 (by decide) ?_
        refine lv_istore (lv' := [(5, .int 0), (4, .int (i + nI (cn))), (2, .long vl), (0, .ref h0), (1, .int i)]) hx hb d_SP_u32_32 hl (by decide) rfl (fun ls hl => ?_)
        refine lv_aload_n hx hb d_SP_u32_34 rfl (lv_at hl 3 rfl) ?_
        refine lv_dup hx hb d_SP_u32_35 rfl ?_
        refine va_get (D := (dC, dI)) (ci := 0) (v := .int (bI m3)) (C := R_SP) (T := F_SP) (N := 4) hx hb hts in_SP hown hK hP 0 rfl rfl 3 (by decide) (hts _ (List.mem_cons_of_mem _ w_55)) (fun _ h9 => h9) rfl d_SP_u32_36 ?_
        refine lv_iload hx hb d_SP_u32_39 (lv_at hl 0 rfl) ?_
        refine lv_if_ne (tgt := 48) hx hb d_SP_u32_41 (by decide) (fun hc => absurd hc (by decide +kernel)) (fun _ => ?_)
        refine lv_iconst (v := 1) hx hb d_SP_u32_44 (by decide) ?_
        refine lv_goto (tgt := 49) hx hb d_SP_u32_45 (by decide) ?_
        refine lv_ior hx hb d_SP_u32_49 ?_
        refine lv_ci (y := bI (m3 || true)) (bI_or (m3) (true)) ?_
        refine va_put (D := (dC, dI)) (ci := 0) (v := .int (bI (m3 || true))) (ty := .boolean) (C := R_SP) (T := F_SP) (N := 4) hx hb hts in_SP t_SP t_SP_ok n_SP hown hK hP hD hS 0 rfl rfl 3 (by decide) (hts _ (List.mem_cons_of_mem _ w_55)) (fun _ h9 => h9) rfl  (by decide +kernel) (bI_n _) (bI_f _) (Nat.le_of_ble_eq_true rfl) d_SP_u32_50 (fun H locs hP hD hS => ?_)
        have hP : va_P (dC, dI) cls_ [(h0, .inr (0, [.ref qa, .int (nI (a)), .int (nI (n)), .int (bI (m3 || true))])), (qa, .inl (cA, 1200, .inl (f)))] H := hP
        have hD : va_D A [(h0, .inr (0, [.ref qa, .int (nI (a)), .int (nI (n)), .int (bI (m3 || true))])), (qa, .inl (cA, 1200, .inl (f)))] := hD
        refine lv_lload_n hx hb d_SP_u32_53 rfl (lv_at hl 2 rfl) ?_
        refine lv_bipush (v := 8) hx hb d_SP_u32_54 (by decide) ?_
        refine lv_lshl (v := (vl : Int64) <<< ((8 : Int32).toInt64 &&& 63)) hx hb d_SP_u32_56 rfl ?_
        refine lv_topl (fun v17 ev17 => ?_)
        refine lv_iload hx hb d_SP_u32_57 (lv_at hl 0 rfl) ?_
        refine lv_if_eq (tgt := 77) hx hb d_SP_u32_59 (by decide) (fun _ => ?_) (fun hc => absurd hc (by decide +kernel))
        refine lv_iconst (v := 0) hx hb d_SP_u32_77 (by decide) ?_
        refine lv_i2l (v := 0) hx hb d_SP_u32_78 (by first | rfl | decide +kernel) ?_
        refine lv_lor hx hb d_SP_u32_79 ?_
        refine lv_topl (fun v18 ev18 => ?_)
        refine lv_lstore_n (lv' := [(2, .long v18), (5, .int 0), (4, .int (i + nI (cn))), (0, .ref h0), (1, .int i)]) hx hb d_SP_u32_80 rfl hl (by decide) rfl (fun ls hl => ?_)
        refine lv_iinc (k := 2) (v := i + nI (cn + 1)) (lv' := [(4, .int (i + nI (cn + 1))), (2, .long v18), (5, .int 0), (0, .ref h0), (1, .int i)]) hx hb d_SP_u32_81 hl rfl (u32_inc i cn) (by decide) rfl (fun ls hl => ?_)
        refine lv_goto (tgt := 5) hx hb d_SP_u32_84 (by decide) ?_
        have hP8 := hP.sub (ws' := [(h0, .inr (0, [.ref qa, .int (nI (a)), .int (nI (n)), .int (bI (m3 || true))])), (qa, .inl (cA, 1200, .inl (f)))]) [0, 1] rfl
        have hD8 := hD.sub (ws' := [(h0, .inr (0, [.ref qa, .int (nI (a)), .int (nI (n)), .int (bI (m3 || true))])), (qa, .inl (cA, 1200, .inl (f)))]) [0, 1] (by decide) rfl
        exact ih (cn + 1) v18 (m3 || true) (by omega) (by omega) H locs ls hP8 hD8 hS (lv_sub hl [0, 1, 3, 4] rfl)
      · skip
        refine lv_iload hx hb d_SP_u32_18 (lv_at hl 0 rfl) ?_
        refine lv_aload_n hx hb d_SP_u32_20 rfl (lv_at hl 2 rfl) ?_
        refine va_get (D := (dC, dI)) (ci := 0) (v := .int (nI (n))) (C := R_SP) (T := F_SP) (N := 4) hx hb hts in_SP hown hK hP 0 rfl rfl 2 (by decide) (hts _ (List.mem_cons_of_mem _ w_51)) (fun _ h9 => h9) rfl d_SP_u32_21 ?_
        refine lv_icmp_ge (tgt := 31) hx hb d_SP_u32_24 (by decide) (fun hc19 => ?_) (fun hc19 => ?_)
        · skip
          refine lv_iconst (v := 0) hx hb d_SP_u32_31 (by decide) ?_
          refine lv_istore (lv' := [(5, .int 0), (4, .int (i + nI (cn))), (2, .long vl), (0, .ref h0), (1, .int i)]) hx hb d_SP_u32_32 hl (by decide) rfl (fun ls hl => ?_)
          refine lv_aload_n hx hb d_SP_u32_34 rfl (lv_at hl 3 rfl) ?_
          refine lv_dup hx hb d_SP_u32_35 rfl ?_
          refine va_get (D := (dC, dI)) (ci := 0) (v := .int (bI m3)) (C := R_SP) (T := F_SP) (N := 4) hx hb hts in_SP hown hK hP 0 rfl rfl 3 (by decide) (hts _ (List.mem_cons_of_mem _ w_55)) (fun _ h9 => h9) rfl d_SP_u32_36 ?_
          refine lv_iload hx hb d_SP_u32_39 (lv_at hl 0 rfl) ?_
          refine lv_if_ne (tgt := 48) hx hb d_SP_u32_41 (by decide) (fun hc => absurd hc (by decide +kernel)) (fun _ => ?_)
          refine lv_iconst (v := 1) hx hb d_SP_u32_44 (by decide) ?_
          refine lv_goto (tgt := 49) hx hb d_SP_u32_45 (by decide) ?_
          refine lv_ior hx hb d_SP_u32_49 ?_
          refine lv_ci (y := bI (m3 || true)) (bI_or (m3) (true)) ?_
          refine va_put (D := (dC, dI)) (ci := 0) (v := .int (bI (m3 || true))) (ty := .boolean) (C := R_SP) (T := F_SP) (N := 4) hx hb hts in_SP t_SP t_SP_ok n_SP hown hK hP hD hS 0 rfl rfl 3 (by decide) (hts _ (List.mem_cons_of_mem _ w_55)) (fun _ h9 => h9) rfl  (by decide +kernel) (bI_n _) (bI_f _) (Nat.le_of_ble_eq_true rfl) d_SP_u32_50 (fun H locs hP hD hS => ?_)
          have hP : va_P (dC, dI) cls_ [(h0, .inr (0, [.ref qa, .int (nI (a)), .int (nI (n)), .int (bI (m3 || true))])), (qa, .inl (cA, 1200, .inl (f)))] H := hP
          have hD : va_D A [(h0, .inr (0, [.ref qa, .int (nI (a)), .int (nI (n)), .int (bI (m3 || true))])), (qa, .inl (cA, 1200, .inl (f)))] := hD
          refine lv_lload_n hx hb d_SP_u32_53 rfl (lv_at hl 2 rfl) ?_
          refine lv_bipush (v := 8) hx hb d_SP_u32_54 (by decide) ?_
          refine lv_lshl (v := (vl : Int64) <<< ((8 : Int32).toInt64 &&& 63)) hx hb d_SP_u32_56 rfl ?_
          refine lv_topl (fun v20 ev20 => ?_)
          refine lv_iload hx hb d_SP_u32_57 (lv_at hl 0 rfl) ?_
          refine lv_if_eq (tgt := 77) hx hb d_SP_u32_59 (by decide) (fun _ => ?_) (fun hc => absurd hc (by decide +kernel))
          refine lv_iconst (v := 0) hx hb d_SP_u32_77 (by decide) ?_
          refine lv_i2l (v := 0) hx hb d_SP_u32_78 (by first | rfl | decide +kernel) ?_
          refine lv_lor hx hb d_SP_u32_79 ?_
          refine lv_topl (fun v21 ev21 => ?_)
          refine lv_lstore_n (lv' := [(2, .long v21), (5, .int 0), (4, .int (i + nI (cn))), (0, .ref h0), (1, .int i)]) hx hb d_SP_u32_80 rfl hl (by decide) rfl (fun ls hl => ?_)
          refine lv_iinc (k := 2) (v := i + nI (cn + 1)) (lv' := [(4, .int (i + nI (cn + 1))), (2, .long v21), (5, .int 0), (0, .ref h0), (1, .int i)]) hx hb d_SP_u32_81 hl rfl (u32_inc i cn) (by decide) rfl (fun ls hl => ?_)
          refine lv_goto (tgt := 5) hx hb d_SP_u32_84 (by decide) ?_
          have hP8 := hP.sub (ws' := [(h0, .inr (0, [.ref qa, .int (nI (a)), .int (nI (n)), .int (bI (m3 || true))])), (qa, .inl (cA, 1200, .inl (f)))]) [0, 1] rfl
          have hD8 := hD.sub (ws' := [(h0, .inr (0, [.ref qa, .int (nI (a)), .int (nI (n)), .int (bI (m3 || true))])), (qa, .inl (cA, 1200, .inl (f)))]) [0, 1] (by decide) rfl
          exact ih (cn + 1) v21 (m3 || true) (by omega) (by omega) H locs ls hP8 hD8 hS (lv_sub hl [0, 1, 3, 4] rfl)
        · skip
          refine lv_iconst (v := 1) hx hb d_SP_u32_27 (by decide) ?_
          refine lv_goto (tgt := 32) hx hb d_SP_u32_28 (by decide) ?_
          refine lv_istore (lv' := [(5, .int 1), (4, .int (i + nI (cn))), (2, .long vl), (0, .ref h0), (1, .int i)]) hx hb d_SP_u32_32 hl (by decide) rfl (fun ls hl => ?_)
          refine lv_aload_n hx hb d_SP_u32_34 rfl (lv_at hl 3 rfl) ?_
          refine lv_dup hx hb d_SP_u32_35 rfl ?_
          refine va_get (D := (dC, dI)) (ci := 0) (v := .int (bI m3)) (C := R_SP) (T := F_SP) (N := 4) hx hb hts in_SP hown hK hP 0 rfl rfl 3 (by decide) (hts _ (List.mem_cons_of_mem _ w_55)) (fun _ h9 => h9) rfl d_SP_u32_36 ?_
          refine lv_iload hx hb d_SP_u32_39 (lv_at hl 0 rfl) ?_
          refine lv_if_ne (tgt := 48) hx hb d_SP_u32_41 (by decide) (fun _ => ?_) (fun hc => absurd hc (by decide +kernel))
          refine lv_iconst (v := 0) hx hb d_SP_u32_48 (by decide) ?_
          refine lv_ior hx hb d_SP_u32_49 ?_
          refine lv_ci (y := bI (m3 || false)) (bI_or (m3) (false)) ?_
          refine va_put (D := (dC, dI)) (ci := 0) (v := .int (bI (m3 || false))) (ty := .boolean) (C := R_SP) (T := F_SP) (N := 4) hx hb hts in_SP t_SP t_SP_ok n_SP hown hK hP hD hS 0 rfl rfl 3 (by decide) (hts _ (List.mem_cons_of_mem _ w_55)) (fun _ h9 => h9) rfl  (by decide +kernel) (bI_n _) (bI_f _) (Nat.le_of_ble_eq_true rfl) d_SP_u32_50 (fun H locs hP hD hS => ?_)
          have hP : va_P (dC, dI) cls_ [(h0, .inr (0, [.ref qa, .int (nI (a)), .int (nI (n)), .int (bI (m3 || false))])), (qa, .inl (cA, 1200, .inl (f)))] H := hP
          have hD : va_D A [(h0, .inr (0, [.ref qa, .int (nI (a)), .int (nI (n)), .int (bI (m3 || false))])), (qa, .inl (cA, 1200, .inl (f)))] := hD
          refine lv_lload_n hx hb d_SP_u32_53 rfl (lv_at hl 2 rfl) ?_
          refine lv_bipush (v := 8) hx hb d_SP_u32_54 (by decide) ?_
          refine lv_lshl (v := (vl : Int64) <<< ((8 : Int32).toInt64 &&& 63)) hx hb d_SP_u32_56 rfl ?_
          refine lv_topl (fun v22 ev22 => ?_)
          refine lv_iload hx hb d_SP_u32_57 (lv_at hl 0 rfl) ?_
          refine lv_if_eq (tgt := 77) hx hb d_SP_u32_59 (by decide) (fun hc => absurd hc (by decide +kernel)) (fun _ => ?_)
          refine lv_aload_n hx hb d_SP_u32_62 rfl (lv_at hl 3 rfl) ?_
          refine va_get (D := (dC, dI)) (ci := 0) (v := .ref qa) (C := R_SP) (T := F_SP) (N := 4) hx hb hts in_SP hown hK hP 0 rfl rfl 0 (by decide) (hts _ (List.mem_cons_of_mem _ w_48)) (fun _ h9 => h9) rfl d_SP_u32_63 ?_
          refine lv_aload_n hx hb d_SP_u32_66 rfl (lv_at hl 3 rfl) ?_
          refine va_get (D := (dC, dI)) (ci := 0) (v := .int (nI (a))) (C := R_SP) (T := F_SP) (N := 4) hx hb hts in_SP hown hK hP 0 rfl rfl 1 (by decide) (hts _ (List.mem_cons_of_mem _ w_49)) (fun _ h9 => h9) rfl d_SP_u32_67 ?_
          refine lv_iload hx hb d_SP_u32_70 (lv_at hl 1 rfl) ?_
          obtain ⟨j, hj, ej⟩ := sp_ix (n := n) (by omega) hc16 (Int32.not_le.mp hc19)
          refine lv_ci ej ?_
          refine lv_iadd hx hb d_SP_u32_72 ?_
          refine lv_ci (y := nI (a + j)) (nI_add (a) (j)) ?_
          refine va_iald hx hb hK hP 1 0 rfl rfl (pk_in (a + j) 1200 (by omega) rfl (by decide)) d_SP_u32_73 ?_
          refine lv_topi (fun v23 ev23 => ?_)
          refine lv_goto (tgt := 78) hx hb d_SP_u32_74 (by decide) ?_
          refine lv_i2l (v := v23.toInt64) hx hb d_SP_u32_78 (by first | rfl | decide +kernel) ?_
          refine lv_lor hx hb d_SP_u32_79 ?_
          refine lv_topl (fun v24 ev24 => ?_)
          refine lv_lstore_n (lv' := [(2, .long v24), (5, .int 1), (4, .int (i + nI (cn))), (0, .ref h0), (1, .int i)]) hx hb d_SP_u32_80 rfl hl (by decide) rfl (fun ls hl => ?_)
          refine lv_iinc (k := 2) (v := i + nI (cn + 1)) (lv' := [(4, .int (i + nI (cn + 1))), (2, .long v24), (5, .int 1), (0, .ref h0), (1, .int i)]) hx hb d_SP_u32_81 hl rfl (u32_inc i cn) (by decide) rfl (fun ls hl => ?_)
          refine lv_goto (tgt := 5) hx hb d_SP_u32_84 (by decide) ?_
          have hP8 := hP.sub (ws' := [(h0, .inr (0, [.ref qa, .int (nI (a)), .int (nI (n)), .int (bI (m3 || false))])), (qa, .inl (cA, 1200, .inl (f)))]) [0, 1] rfl
          have hD8 := hD.sub (ws' := [(h0, .inr (0, [.ref qa, .int (nI (a)), .int (nI (n)), .int (bI (m3 || false))])), (qa, .inl (cA, 1200, .inl (f)))]) [0, 1] (by decide) rfl
          exact ih (cn + 1) v24 (m3 || false) (by omega) (by omega) H locs ls hP8 hD8 hS (lv_sub hl [0, 1, 3, 4] rfl)
set_option maxHeartbeats 4000000 in
set_option maxRecDepth 100000 in
/-- GlyphLines$Span.u32 -/
theorem g_SP_u32 (l : Launch) (dC : Nat → ClassId) (dI : Nat → Nat → Nat) (h0 : Nat) (qa : Nat) (a : Nat) (n : Nat) (mi : Bool) (cA : ClassId) (f : Nat → Int32) (i : Int32) (sz : Nat) (hq0 : a + n ≤ 1200) (hq1 : isB f) : Met l y_SP_u32 s_SP_u32 ({ frames := 8, cells := 0, slots := 0, locals := 200 }) (va_Pc [.ref h0, .int i] (fun U => U.heap.size = sz ∧ va_P (dC, dI) cls_ [(h0, .inr (0, [.ref qa, .int (nI (a)), .int (nI (n)), .int (bI mi)])), (qa, .inl (cA, 1200, .inl (f)))] U.heap ∧ va_K (dC, dI) cls_ [(cA, .int)] U ∧ va_D (fun _ => True) [(h0, .inr (0, [.ref qa, .int (nI (a)), .int (nI (n)), .int (bI mi)])), (qa, .inl (cA, 1200, .inl (f)))])) (va_Ql (fun (r : Int64) (_ : Unit) => True) (fun (_ : Unit) (t : State) => ∃ (m2 : Bool), va_P (dC, dI) cls_ [(h0, .inr (0, [.ref qa, .int (nI (a)), .int (nI (n)), .int (bI m2)])), (qa, .inl (cA, 1200, .inl (f)))] t.heap ∧ va_K (dC, dI) cls_ [(cA, .int)] t ∧ va_D (va_A [(h0, .inr (0, [.ref qa, .int (nI (a)), .int (nI (n)), .int (bI mi)])), (qa, .inl (cA, 1200, .inl (f)))] sz) [(h0, .inr (0, [.ref qa, .int (nI (a)), .int (nI (n)), .int (bI m2)])), (qa, .inl (cA, 1200, .inl (f)))]) (va_A [(h0, .inr (0, [.ref qa, .int (nI (a)), .int (nI (n)), .int (bI mi)])), (qa, .inl (cA, 1200, .inl (f)))] sz)) 0 0 (va_A [(h0, .inr (0, [.ref qa, .int (nI (a)), .int (nI (n)), .int (bI mi)])), (qa, .inl (cA, 1200, .inl (f)))] sz) := by
  refine Met.ofW (cc := b_SP_u32) (maxL := 6) (ret := (some .long)) (by decide) rfl ?_
  intro p e s m args below meth c s₁ B hml hv
  obtain ⟨rfl, hsz, hP, hK, hD0⟩ := hv
  have hx := B.exec
  have hb := B.bytes
  have hr := B.returns
  have hts := atoms_spec (ws := s_SP_u32) B.pre
  have hown : s.vm.findClass R_SP = some m.cls := findClass_of_methodNamed B.named
  have hlocks := B.notSynchronized
  subst hsz
  have hD := hD0.self (sz := s.heap.size)
  generalize hAe : va_A [(h0, .inr (0, [.ref qa, .int (nI (a)), .int (nI (n)), .int (bI mi)])), (qa, .inl (cA, 1200, .inl (f)))] s.heap.size = A at hD ⊢
  have hA : ∀ q : Nat, s.heap.size ≤ q → A q := fun q h => by rw [← hAe]; exact Or.inr h
  have hS : va_S A s.heap s.heap [] := va_S.rf
  have hP : va_P (dC, dI) cls_ [(h0, .inr (0, [.ref qa, .int (nI (a)), .int (nI (n)), .int (bI mi)])), (qa, .inl (cA, 1200, .inl (f)))] s.heap := hP
  have hl := lv_entry ([.ref h0, .int i]) (n := 6) (Nat.le_of_ble_eq_true rfl)
  rw [lg_entry_eq]
  generalize (lg_sl ([.ref h0, .int i]) ++ List.replicate (6 - (lg_sl ([.ref h0, .int i])).length) Slot.unset).toArray = ls at hl ⊢
  have hl : lv_has ls 6 [(0, .ref h0), (1, .int i)] := hl
  refine lv_lconst (v := 0) hx hb d_SP_u32_0 (by decide) ?_
  refine lv_lstore_n (lv' := [(2, .long 0), (0, .ref h0), (1, .int i)]) hx hb d_SP_u32_1 rfl hl (by decide) rfl (fun ls hl => ?_)
  refine lv_iload_n hx hb d_SP_u32_2 rfl (lv_at hl 2 rfl) ?_
  refine lv_ci (y := i + nI 0) (by rw [nI_0, Int32.add_zero]) ?_
  refine lv_istore (lv' := [(4, .int (i + nI (0))), (2, .long 0), (0, .ref h0), (1, .int i)]) hx hb d_SP_u32_3 hl (by decide) rfl (fun ls hl => ?_)
  have hP8 := hP.sub (ws' := [(h0, .inr (0, [.ref qa, .int (nI (a)), .int (nI (n)), .int (bI mi)])), (qa, .inl (cA, 1200, .inl (f)))]) [0, 1] rfl
  have hD8 := hD.sub (ws' := [(h0, .inr (0, [.ref qa, .int (nI (a)), .int (nI (n)), .int (bI mi)])), (qa, .inl (cA, 1200, .inl (f)))]) [0, 1] (by decide) rfl
  have hK9 := hK.sub (tys' := [(cA, .int)]) [0] rfl
  refine sp_u32_loop hx hb hml hts hown hA dC dI h0 qa a n mi cA f i (by omega) (by assumption) hK9 (fun cn_25 vl_26 m_27 hf_28 H locs ls hP hD hS hl => ?_) (4 - 0 + 1) 0 0 mi (by omega) (by omega) s.heap _ ls hP8 hD8 hS (lv_sub hl [0, 1, 2, 3] rfl)
  · skip
    have hK := hK9
    have hP : va_P (dC, dI) cls_ [(h0, .inr (0, [.ref qa, .int (nI (a)), .int (nI (n)), .int (bI m_27)])), (qa, .inl (cA, 1200, .inl (f)))] H := hP
    have hD : va_D A [(h0, .inr (0, [.ref qa, .int (nI (a)), .int (nI (n)), .int (bI m_27)])), (qa, .inl (cA, 1200, .inl (f)))] := hD
    have hK : va_K (dC, dI) cls_ [(cA, .int)] s := hK
    refine lv_lload_n hx hb d_SP_u32_87 rfl (lv_at hl 1 rfl) ?_
    refine W.widen (k := 0) (n := 0) (Nat.le_of_ble_eq_true rfl) (Nat.le_of_ble_eq_true rfl) ?_
    have hP9 := hP.sub (ws' := [(h0, .inr (0, [.ref qa, .int (nI (a)), .int (nI (n)), .int (bI m_27)])), (qa, .inl (cA, 1200, .inl (f)))]) [0, 1] rfl
    have hD9 := hD.sub (ws' := [(h0, .inr (0, [.ref qa, .int (nI (a)), .int (nI (n)), .int (bI m_27)])), (qa, .inl (cA, 1200, .inl (f)))]) [0, 1] (by decide) rfl
    have hK9 := hK.sub (tys' := [(cA, .int)]) [0] rfl
    exact W.lret (v := vl_26) hx hb hr (fun t ht hW => ⟨⟨vl_26, (), rfl, trivial, m_27, by rw [ht]; exact hP9, va_K.moved hW.alike hK9, hD9⟩, hS.F ht⟩) hS.2.2 d_SP_u32_88
