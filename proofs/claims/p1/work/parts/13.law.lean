theorem w_23 : (Jvm.Cond.instantiable "GlyphLines" (10 : Nat)) ∈ tw_T := tw_of 23 (by decide +kernel) (by decide +kernel)
theorem w_847 : (Jvm.Cond.instantiable "GlyphLinesModel" (36 : Nat)) ∈ tw_T := tw_of 847 (by decide +kernel) (by decide +kernel)
theorem d_LW_law_23 : decode b_LW_law 23 = .ok (.iload 4, 2) := by decide +kernel
theorem d_LW_law_25 : decode b_LW_law 25 = .ok (.aload_n 0, 1) := by decide +kernel
theorem d_LW_law_26 : decode b_LW_law 26 = .ok (.arraylength, 1) := by decide +kernel
theorem d_LW_law_27 : decode b_LW_law 27 = .ok (.iconst 4, 1) := by decide +kernel
theorem d_LW_law_28 : decode b_LW_law 28 = .ok (.isub, 1) := by decide +kernel
theorem d_LW_law_29 : decode b_LW_law 29 = .ok (.if_icmp .gt (717), 3) := by decide +kernel
theorem d_LW_law_740 : decode b_LW_law 740 = .ok (.iinc 4 (4), 3) := by decide +kernel
theorem d_LW_law_743 : decode b_LW_law 743 = .ok (.goto (-720), 3) := by decide +kernel
theorem d_LW_law_746 : decode b_LW_law 746 = .ok (.iconst 1, 1) := by decide +kernel
theorem d_LW_law_747 : decode b_LW_law 747 = .ok (.ireturn, 1) := by decide +kernel
/-! THE CLAIM OUT OF ONE WALK OF THE LAW'S BODY. Your part is whole_start (and what it stands on); all else here is the same for every law, but numbers. -/
def R_law : String := "GlyphLinesLaw"
def lw_P (b : Addr) (xs : List Int32) (args : Array Value) (s : State) : Prop := args = #[.ref b] ∧ s.IntsAt b xs ∧ xs.length ≤ 4 ∧ (Jvm.Cond.and given_1 narrow_1).before args s = true
def lw_Q (_ : Array Value) (s : State) (o : Outcome) (t : State) : Prop := o = .returned (some (.int 1)) ∧ Framed s o t [] 600002 7302232
def lw_Z (below : List Frame) (a : Array Value) (s : State) : State → Prop := fun t => ∃ o, t.status = .running ∧ Ended t below o ∧ lw_Q a s o t
/-- the law's own end, with 1 on the stack, nothing written that was there before, its room as the claim has it -/
theorem lw_ret {p : Program} {l : Launch} {e : Env} {s : State} {m : MethodId} {below : List Frame} {meth : Method} {c : Code} {b : Nat} (hx : p.tables.exec = Jvm.exec) (hb : c.code = code) (hr : meth.sig.returnType = ret) (hlocks : meth.locks = false) {pc : Nat} {H : Heap} {ls : Array Slot} (hdg : decode code pc = .ok (.ireturn, 1)) : W p l e room_1 s m #[Value.ref b] below meth c H [] 600002 7302232 (lw_Z below #[Value.ref b] s) (F0 m pc ls [.int 1]) := by
  intro T hT X
  obtain ⟨fs, hret, hrun, hended, hW, hframe⟩ := X.leave (v := some (.int 1)) (hlocks := hlocks) (fun h => by rw [hr] at h; cases h)
  have hmeth' : T.vm.method? m = some meth := X.method'
  refine ⟨T.setFrames fs, ?_, .returned (some (.int 1)), hrun, hended, rfl, ⟨_, rfl⟩, hW, hframe⟩
  jvm_step X.here [X.here.top, hx, hb, hdg, hmeth', hr, ret, narrow_b1]
  (try refine ⟨rfl, ?_⟩); (try refine ⟨rfl, ?_⟩)
  first | (intro acts; rw [hret _ acts rfl rfl rfl]) | rw [hret _ _ rfl rfl rfl]
  exact Steps.refl _
/-- what holds at the law's entry: the machine, the code, the tables' words (any of lw_tbl by 'hts w (by decide +kernel)'), the script of L ints xs at the cell b, what the Statement gives of the start (any of its parts by flat_of_before) -/
def lw_At (p : Program) (s : State) (m : MethodId) (meth : Method) (c : Code) (b L : Nat) (xs : Nat → Int32) : Prop :=
  p.tables.exec = Jvm.exec ∧ c.code = code ∧ meth.sig.returnType = ret ∧ c.maxLocals = 8 ∧ s.vm.findClass R_law = some m.cls ∧ (∀ w ∈ lw_tbl, w.before #[Value.ref b] s = true) ∧ va_X b L xs s s.heap ∧ b < s.heap.size ∧ meth.locks = false ∧ (Jvm.Cond.and given_1 narrow_1).before #[Value.ref b] s = true
set_option maxRecDepth 100000 in
theorem lw_known {b : Nat} {s : State} (hts : ∀ w ∈ lw_tbl, w.before #[Value.ref b] s = true) : ∃ (dC : Nat → ClassId) (dI : Nat → Nat → Nat), va_K (dC, dI) cls_ [] s := by
  obtain ⟨c0, i0, h0⟩ := u_known (C := R_SP) (T := F_SP) (N := 4) hts inl_SP (hts _ (tw_sub w_43))
  obtain ⟨c1, i1, h1⟩ := u_known (C := R_CM) (T := F_CM) (N := 3) hts inl_CM (hts _ (tw_sub w_82))
  obtain ⟨c2, i2, h2⟩ := u_known (C := R_DI) (T := F_DI) (N := 3) hts inl_DI (hts _ (tw_sub w_37))
  obtain ⟨c3, i3, h3⟩ := u_known (C := R_PA) (T := F_PA) (N := 2) hts inl_PA (hts _ (tw_sub w_101))
  obtain ⟨c4, i4, h4⟩ := u_known (C := R_FO) (T := F_FO) (N := 15) hts inl_FO (hts _ (tw_sub w_31))
  obtain ⟨c5, i5, h5⟩ := u_known (C := R_MO) (T := F_MO) (N := 6) hts inl_MO (hts _ (tw_sub w_173))
  obtain ⟨c6, i6, h6⟩ := u_known (C := R_OU) (T := F_OU) (N := 8) hts inl_OU (hts _ (tw_sub w_167))
  obtain ⟨c7, i7, h7⟩ := u_known (C := R_PI) (T := F_PI) (N := 2) hts inl_PI (hts _ (tw_sub w_235))
  obtain ⟨c8, i8, h8⟩ := u_known (C := R_BR) (T := F_BR) (N := 10) hts inl_BR (hts _ (tw_sub w_250))
  obtain ⟨c9, i9, h9⟩ := u_known (C := R_GL) (T := F_GL) (N := 10) hts inl_GL (hts _ (tw_sub w_23))
  obtain ⟨c10, i10, h10⟩ := u_known (C := R_MD) (T := F_MD) (N := 36) hts inl_MD (hts _ (tw_sub w_847))
  refine ⟨fun k => match k with | 0 => c0 | 1 => c1 | 2 => c2 | 3 => c3 | 4 => c4 | 5 => c5 | 6 => c6 | 7 => c7 | 8 => c8 | 9 => c9 | _ => c10, fun k => match k with | 0 => i0 | 1 => i1 | 2 => i2 | 3 => i3 | 4 => i4 | 5 => i5 | 6 => i6 | 7 => i7 | 8 => i8 | 9 => i9 | _ => i10, ⟨?_, fun k q h => by simp at h⟩⟩
  intro c q hq
  match c, hq with
  | 0, hq => cases hq; exact h0
  | 1, hq => cases hq; exact h1
  | 2, hq => cases hq; exact h2
  | 3, hq => cases hq; exact h3
  | 4, hq => cases hq; exact h4
  | 5, hq => cases hq; exact h5
  | 6, hq => cases hq; exact h6
  | 7, hq => cases hq; exact h7
  | 8, hq => cases hq; exact h8
  | 9, hq => cases hq; exact h9
  | 10, hq => cases hq; exact h10
  | n + 11, hq => simp [cls_] at hq
def th_isr : Cond → Bool
  | .isRef _ => true
  | _ => false
theorem th_src {L : List Cond} (ps : List Nat) (h1 : L.filter (fun a => !th_isr a) = ps.filterMap (fun i => tables_1[i]?)) (h2 : L.filter th_isr = [(Cond.isRef (.static "java/lang/Throwable" "UNASSIGNED_STACK" "[Ljava/lang/StackTraceElement;")), (Cond.isRef (.static "java/lang/Throwable" "SUPPRESSED_SENTINEL" "Ljava/util/List;"))]) : ∀ a ∈ L, a ∈ lw_tbl ∨ a = (Cond.isRef (.static "java/lang/Throwable" "UNASSIGNED_STACK" "[Ljava/lang/StackTraceElement;")) ∨ a = (Cond.isRef (.static "java/lang/Throwable" "SUPPRESSED_SENTINEL" "Ljava/util/List;")) := by
  intro a ha
  by_cases hi : th_isr a = true
  · have : a ∈ L.filter th_isr := List.mem_filter.mpr ⟨ha, hi⟩
    rw [h2] at this
    right
    simpa using this
  · have : a ∈ L.filter (fun a => !th_isr a) := List.mem_filter.mpr ⟨ha, by simpa using hi⟩
    rw [h1] at this
    obtain ⟨i, -, hi⟩ := List.mem_filterMap.mp this
    exact Or.inl (List.mem_append_right _ (List.mem_of_getElem? hi))
set_option maxRecDepth 100000 in
theorem th_s_io : ∀ a ∈ Bundle.ownAtoms "GlyphLines" 64 X_io th_nm, a ∈ lw_tbl ∨ a = (Cond.isRef (.static "java/lang/Throwable" "UNASSIGNED_STACK" "[Ljava/lang/StackTraceElement;")) ∨ a = (Cond.isRef (.static "java/lang/Throwable" "SUPPRESSED_SENTINEL" "Ljava/util/List;")) := th_src [12, 579, 588, 592, 595, 597, 580, 581, 28, 29, 582, 587, 593, 613, 569, 614, 571, 615, 573, 583, 584, 585, 586, 575, 609, 610, 612, 575, 600, 601, 602, 603, 561, 603, 604, 605, 606, 563, 606, 607, 608, 609, 565, 599, 558, 559, 566, 567, 568, 570, 572, 574, 578, 577, 576] (by decide +kernel) (by decide +kernel)
set_option maxRecDepth 100000 in
theorem th_s_ia : ∀ a ∈ Bundle.ownAtoms "GlyphLines" 71 X_ia th_nm, a ∈ lw_tbl ∨ a = (Cond.isRef (.static "java/lang/Throwable" "UNASSIGNED_STACK" "[Ljava/lang/StackTraceElement;")) ∨ a = (Cond.isRef (.static "java/lang/Throwable" "SUPPRESSED_SENTINEL" "Ljava/util/List;")) := th_src [12, 579, 588, 592, 595, 597, 580, 581, 28, 29, 582, 587, 593, 613, 569, 614, 571, 615, 573, 583, 584, 585, 586, 575, 609, 610, 612, 575, 636, 637, 638, 603, 561, 603, 604, 605, 606, 563, 606, 607, 608, 609, 565, 635, 626, 627, 628, 590, 629, 630, 631, 632, 578, 577, 633] (by decide +kernel) (by decide +kernel)
set_option maxRecDepth 100000 in
theorem th_s_is : ∀ a ∈ Bundle.ownAtoms "GlyphLines" 161 X_is th_nm, a ∈ lw_tbl ∨ a = (Cond.isRef (.static "java/lang/Throwable" "UNASSIGNED_STACK" "[Ljava/lang/StackTraceElement;")) ∨ a = (Cond.isRef (.static "java/lang/Throwable" "SUPPRESSED_SENTINEL" "Ljava/util/List;")) := th_src [12, 579, 588, 592, 595, 597, 580, 581, 28, 29, 582, 587, 593, 613, 569, 614, 571, 615, 573, 583, 584, 585, 586, 575, 609, 610, 612, 575, 673, 674, 675, 603, 561, 603, 604, 605, 606, 563, 606, 607, 608, 609, 565, 672, 663, 664, 665, 591, 666, 667, 668, 669, 578, 577, 670] (by decide +kernel) (by decide +kernel)
set_option maxRecDepth 100000 in
theorem lw_all {b : Nat} {s : State} (hts : ∀ w ∈ lw_tbl, w.before #[Value.ref b] s = true) (hgv : (Jvm.Cond.and given_1 narrow_1).before #[Value.ref b] s = true) : th_All s := by
  have hs := flat_of_before _ hgv
  have hr1 : (Cond.isRef (.static "java/lang/Throwable" "UNASSIGNED_STACK" "[Ljava/lang/StackTraceElement;")).before #[Value.ref b] s = true := hs _ (by decide +kernel)
  have hr2 : (Cond.isRef (.static "java/lang/Throwable" "SUPPRESSED_SENTINEL" "Ljava/util/List;")).before #[Value.ref b] s = true := hs _ (by decide +kernel)
  have ok : ∀ {L : List Cond}, (∀ a ∈ L, a ∈ lw_tbl ∨ a = (Cond.isRef (.static "java/lang/Throwable" "UNASSIGNED_STACK" "[Ljava/lang/StackTraceElement;")) ∨ a = (Cond.isRef (.static "java/lang/Throwable" "SUPPRESSED_SENTINEL" "Ljava/util/List;"))) → ∀ a ∈ L, a.before #[Value.ref b] s = true := fun h a ha => by
    rcases h a ha with h | rfl | rfl
    · exact hts a h
    · exact hr1
    · exact hr2
  have e62 : (Cond.exactly (Term.string "GlyphLines" 62) "java/lang/String").before #[Value.ref b] s = true := hs _ (by decide +kernel)
  obtain ⟨q62, _, _, _, z62, -⟩ := Cond.exactly_spec (args := #[Value.ref b]) (first := s) (o := none) (s := s) (idx := []) e62
  have t62 : (Cond.stringRef "GlyphLines" 62 "no such byte").before #[Value.ref b] s = true := hts _ (List.mem_append_right _ (List.mem_of_getElem? (i := 598) (by decide +kernel)))
  have e72 : (Cond.exactly (Term.string "GlyphLines" 72) "java/lang/String").before #[Value.ref b] s = true := hs _ (by decide +kernel)
  obtain ⟨q72, _, _, _, z72, -⟩ := Cond.exactly_spec (args := #[Value.ref b]) (first := s) (o := none) (s := s) (idx := []) e72
  have t72 : (Cond.stringRef "GlyphLines" 72 "fewer than no bytes").before #[Value.ref b] s = true := hts _ (List.mem_append_right _ (List.mem_of_getElem? (i := 648) (by decide +kernel)))
  have e159 : (Cond.exactly (Term.string "GlyphLines" 159) "java/lang/String").before #[Value.ref b] s = true := hs _ (by decide +kernel)
  obtain ⟨q159, _, _, _, z159, -⟩ := Cond.exactly_spec (args := #[Value.ref b]) (first := s) (o := none) (s := s) (idx := []) e159
  have t159 : (Cond.stringRef "GlyphLines" 159 "there is no font").before #[Value.ref b] s = true := hts _ (List.mem_append_right _ (List.mem_of_getElem? (i := 671) (by decide +kernel)))
  have e151 : (Cond.exactly (Term.string "GlyphLines" 151) "java/lang/String").before #[Value.ref b] s = true := hs _ (by decide +kernel)
  obtain ⟨q151, _, _, _, z151, -⟩ := Cond.exactly_spec (args := #[Value.ref b]) (first := s) (o := none) (s := s) (idx := []) e151
  have t151 : (Cond.stringRef "GlyphLines" 151 "no such row").before #[Value.ref b] s = true := hts _ (List.mem_append_right _ (List.mem_of_getElem? (i := 845) (by decide +kernel)))
  exact ⟨th_own (ok th_s_io) th_k_io (State.WarmedH.refl s) (fun _ _ => rfl), th_own (ok th_s_ia) th_k_ia (State.WarmedH.refl s) (fun _ _ => rfl), th_own (ok th_s_is) th_k_is (State.WarmedH.refl s) (fun _ _ => rfl), ⟨q62, vk_R.of t62 z62⟩, ⟨q72, vk_R.of t72 z72⟩, ⟨q159, vk_R.of t159 z159⟩, ⟨q151, vk_R.of t151 z151⟩⟩
set_option maxHeartbeats 4000000 in
set_option maxRecDepth 100000 in
/-- behind a call: the loop's end -/
theorem lw_end {p : Program} {e : Env} {s : State} {m : MethodId} {below : List Frame} {meth : Method} {c : Code} (l : Launch) {b : Nat} {xs : Nat → Int32} (C0 : lw_At p s m meth c b 4 xs) {A : Nat → Prop} (hAe : ∀ q, A q ↔ s.heap.size ≤ q) {H : Heap} {locs : List Loc} {ls : Array Slot} {cells slots : Nat} (hS : va_S A s.heap H locs) (hl : lv_has ls 8 [(4, .int 0), (0, .ref b)]) (hc : cells ≤ 600002) (hs : slots ≤ 7302232) : W p l e room_1 s m #[Value.ref b] below meth c H locs cells slots (lw_Z below #[Value.ref b] s) (F0 m 740 ls []) := by
  obtain ⟨hx, hb, hr, hml, hown, hts, hX, hbl, hlocks, hgv⟩ := id C0
  have hA : ∀ q : Nat, s.heap.size ≤ q → A q := fun q h => (hAe q).mpr h
  have hbA : ¬ A b := fun h => absurd hbl (Nat.not_lt.mpr ((hAe b).mp h))
  refine lv_iinc (k := 0) (v := 4) (lv' := [(4, .int 4), (0, .ref b)]) hx hb d_LW_law_740 hl rfl (by first | rfl | decide +kernel) (by decide) rfl (fun ls hl => ?_)
  refine lv_goto (tgt := 23) hx hb d_LW_law_743 (by decide) ?_
  refine lv_iload hx hb d_LW_law_23 (lv_at hl 0 rfl) ?_
  refine lv_aload_n hx hb d_LW_law_25 rfl (lv_at hl 1 rfl) ?_
  refine va_slen hx hb hX hbl hbA hS d_LW_law_26 ?_
  refine lv_ci (y := 4) (by decide +kernel) ?_
  refine lv_iconst (v := 4) hx hb d_LW_law_27 (by decide) ?_
  refine lv_isub hx hb d_LW_law_28 ?_
  refine lv_ci (y := 0) (by decide +kernel) ?_
  refine lv_icmp_gt (tgt := 746) hx hb d_LW_law_29 (by decide) (fun _ => ?_) (fun hc => absurd hc (by decide +kernel))
  refine lv_iconst (v := 1) hx hb d_LW_law_746 (by decide) ?_
  refine va_forget (fun q hq => (hAe _).mp (hS.2.2 q hq)) ?_
  refine W.widen (k := 600002) (n := 7302232) hc hs ?_
  exact lw_ret hx hb hr hlocks d_LW_law_747
