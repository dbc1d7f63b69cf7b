theorem d_LW_law_23 : decode b_LW_law 23 = .ok (.iload 4, 2) := by decide +kernel
theorem d_LW_law_25 : decode b_LW_law 25 = .ok (.aload_n 0, 1) := by decide +kernel
theorem d_LW_law_26 : decode b_LW_law 26 = .ok (.arraylength, 1) := by decide +kernel
theorem d_LW_law_27 : decode b_LW_law 27 = .ok (.iconst 4, 1) := by decide +kernel
theorem d_LW_law_28 : decode b_LW_law 28 = .ok (.isub, 1) := by decide +kernel
theorem d_LW_law_29 : decode b_LW_law 29 = .ok (.if_icmp .gt (522), 3) := by decide +kernel
theorem d_LW_law_32 : decode b_LW_law 32 = .ok (.aload_n 0, 1) := by decide +kernel
theorem d_LW_law_33 : decode b_LW_law 33 = .ok (.iload 4, 2) := by decide +kernel
theorem d_LW_law_35 : decode b_LW_law 35 = .ok (.iaload, 1) := by decide +kernel
theorem d_LW_law_36 : decode b_LW_law 36 = .ok (.bipush 15, 2) := by decide +kernel
theorem d_LW_law_38 : decode b_LW_law 38 = .ok (.iand, 1) := by decide +kernel
theorem d_LW_law_39 : decode b_LW_law 39 = .ok (.tableswitch (506) (0) (12) #[65, 90, 158, 183, 211, 252, 280, 320, 372, 412, 437, 450, 478], 65) := by decide +kernel
theorem d_LW_law_545 : decode b_LW_law 545 = .ok (.iinc 4 (4), 3) := by decide +kernel
theorem d_LW_law_548 : decode b_LW_law 548 = .ok (.goto (-525), 3) := by decide +kernel
theorem d_LW_law_551 : decode b_LW_law 551 = .ok (.iconst 1, 1) := by decide +kernel
theorem d_LW_law_552 : decode b_LW_law 552 = .ok (.ireturn, 1) := by decide +kernel
set_option maxHeartbeats 16000000 in
set_option maxRecDepth 100000 in
theorem lw_loop {p : Program} {e : Env} {s : State} {m : MethodId} {below : List Frame} {meth : Method} {c : Code} (l : Launch) (hfl : l.flags = flags0) {b L : Nat} {xs : Nat → Int32} (hL : L ≤ 2048) (C0 : lw_At p s m meth c b L xs) {A : Nat → Prop} (hAe : ∀ q, A q ↔ s.heap.size ≤ q) (dC : Nat → ClassId) (dI : Nat → Nat → Nat) (hT9 : th_All s) (hNs : nests s) (g0 m0 r_out : Nat) : ∀ (fu i9 : Nat) (H : Heap) (locs : List Loc) (ls : Array Slot) (cells slots : Nat), L - i9 < fu → i9 ≤ L + 4 → 4 * cells + (L - i9) ≤ 2404096 → 4 * slots + 6 * (L - i9) ≤ 29172136 → linv dC dI g0 m0 r_out A s H → va_S A s.heap H locs → lv_has ls 8 [(4, .int (nI (i9))), (3, .ref r_out), (2, .ref m0), (1, .ref g0), (0, .ref b)] → W p l e room_1 s m #[Value.ref b] below meth c H locs cells slots (lw_Z below #[Value.ref b] s) (F0 m 23 ls []) := by
  obtain ⟨hx, hb, hr, hml, hown, hts, hX, hbl, hlocks, hgv⟩ := id C0
  have hA : ∀ q : Nat, s.heap.size ≤ q → A q := fun q h => (hAe q).mpr h
  have hbA : ¬ A b := fun h => absurd hbl (Nat.not_lt.mpr ((hAe b).mp h))
  intro fu
  induction fu with
  | zero => intro i9 H locs ls cells slots h; exact absurd h (Nat.not_lt_zero _)
  | succ fu ih =>
    intro i9 H locs ls cells slots hfu hiL hc hs hI hS hl
    have back0 : i9 + 4 ≤ L → ∀ (H : Heap) (locs : List Loc) (ls : Array Slot), linv dC dI g0 m0 r_out A s H → va_S A s.heap H locs → lv_has ls 8 [(4, .int (nI (i9))), (3, .ref r_out), (2, .ref m0), (1, .ref g0), (0, .ref b)] → W p l e room_1 s m #[Value.ref b] below meth c H locs (cells + 1) (slots + 6) (lw_Z below #[Value.ref b] s) (F0 m 545 ls []) := by
      intro hi H locs ls hI hS hl
      refine lv_iinc (k := 0) (v := nI (i9 + 4)) (lv' := [(4, .int (nI (i9 + 4))), (3, .ref r_out), (2, .ref m0), (1, .ref g0), (0, .ref b)]) hx hb d_LW_law_545 hl rfl (nI_add (i9) 4) (by decide) rfl (fun ls hl => ?_)
      refine lv_goto (tgt := 23) hx hb d_LW_law_548 (by decide) ?_
      exact ih (i9 + 4) H locs ls (cells + 1) (slots + 6) (by omega) (by omega) (by omega) (by omega) hI hS (lv_sub hl [0, 1, 2, 3, 4] rfl)
    refine lv_iload hx hb d_LW_law_23 (lv_at hl 0 rfl) ?_
    refine lv_aload_n hx hb d_LW_law_25 rfl (lv_at hl 4 rfl) ?_
    refine va_slen hx hb hX hbl hbA hS d_LW_law_26 ?_
    refine lv_iconst (v := 4) hx hb d_LW_law_27 (by decide) ?_
    refine lv_isub hx hb d_LW_law_28 ?_
    refine lv_topi (fun v22356 ev22356 => ?_)
    refine lv_icmp_gt (tgt := 551) hx hb d_LW_law_29 (by decide) (fun hc22357 => ?_) (fun hc22357 => ?_)
    · skip
      refine lv_iconst (v := 1) hx hb d_LW_law_551 (by decide) ?_
      refine va_forget (fun q hq => (hAe _).mp (hS.2.2 q hq)) ?_
      refine W.widen (k := 601024) (n := 7293034) (by omega) (by omega) ?_
      exact lw_ret hx hb hr hlocks d_LW_law_552
    · skip
      have hi : i9 + 4 ≤ L := lp_le (by omega) (by omega) (by rw [← ev22356]; exact hc22357)
      refine lv_aload_n hx hb d_LW_law_32 rfl (lv_at hl 4 rfl) ?_
      refine lv_iload hx hb d_LW_law_33 (lv_at hl 0 rfl) ?_
      refine va_sld hx hb hX hbl hbA hS (pk_in (i9) L (by omega) rfl (by omega)) d_LW_law_35 ?_
      refine lv_bipush (v := 15) hx hb d_LW_law_36 (by decide) ?_
      refine lv_iand hx hb d_LW_law_38 ?_
      refine lv_topi (fun v22358 ev22358 => ?_)
      obtain ⟨j, hj, ej⟩ := pk_andE (xs (Int32.toNatClampNeg (nI (i9)))) (m := 15) 4 (by decide +kernel)
      have ej := ev22358.trans ej
      have hj : j < 16 := hj
      rcases (show j = 0 ∨ j = 1 ∨ j = 2 ∨ j = 3 ∨ j = 4 ∨ j = 5 ∨ j = 6 ∨ j = 7 ∨ j = 8 ∨ j = 9 ∨ j = 10 ∨ j = 11 ∨ j = 12 ∨ j = 13 ∨ j = 14 ∨ j = 15 by omega) with rfl | rfl | rfl | rfl | rfl | rfl | rfl | rfl | rfl | rfl | rfl | rfl | rfl | rfl | rfl | rfl
      · refine lv_ci ej ?_
        refine lv_tableIn (off := 65) (tgt := 104) hx hb d_LW_law_39 (by decide +kernel) (by decide +kernel) (by decide +kernel) (by decide) ?_
        exact lw_c0 l hfl hL C0 hAe dC dI hT9 hNs g0 m0 r_out i9 hi (by omega) (by omega) hI hS (lv_sub hl [0, 1, 2, 3, 4] rfl) (back0 hi)
      · refine lv_ci ej ?_
        refine lv_tableIn (off := 90) (tgt := 129) hx hb d_LW_law_39 (by decide +kernel) (by decide +kernel) (by decide +kernel) (by decide) ?_
        exact lw_c1 l hfl hL C0 hAe dC dI hT9 hNs g0 m0 r_out i9 hi (by omega) (by omega) hI hS (lv_sub hl [0, 1, 2, 3, 4] rfl) (back0 hi)
      · refine lv_ci ej ?_
        refine lv_tableIn (off := 158) (tgt := 197) hx hb d_LW_law_39 (by decide +kernel) (by decide +kernel) (by decide +kernel) (by decide) ?_
        exact lw_c2 l hfl hL C0 hAe dC dI hT9 hNs g0 m0 r_out i9 hi (by omega) (by omega) hI hS (lv_sub hl [0, 1, 2, 3, 4] rfl) (back0 hi)
      · refine lv_ci ej ?_
        refine lv_tableIn (off := 183) (tgt := 222) hx hb d_LW_law_39 (by decide +kernel) (by decide +kernel) (by decide +kernel) (by decide) ?_
        exact lw_c3 l hfl hL C0 hAe dC dI hT9 hNs g0 m0 r_out i9 hi (by omega) (by omega) hI hS (lv_sub hl [0, 1, 2, 3, 4] rfl) (back0 hi)
      · refine lv_ci ej ?_
        refine lv_tableIn (off := 211) (tgt := 250) hx hb d_LW_law_39 (by decide +kernel) (by decide +kernel) (by decide +kernel) (by decide) ?_
        exact lw_c4 l hfl hL C0 hAe dC dI hT9 hNs g0 m0 r_out i9 hi (by omega) (by omega) hI hS (lv_sub hl [0, 1, 2, 3, 4] rfl) (back0 hi)
      · refine lv_ci ej ?_
        refine lv_tableIn (off := 252) (tgt := 291) hx hb d_LW_law_39 (by decide +kernel) (by decide +kernel) (by decide +kernel) (by decide) ?_
        exact lw_c5 l hfl hL C0 hAe dC dI hT9 hNs g0 m0 r_out i9 hi (by omega) (by omega) hI hS (lv_sub hl [0, 1, 2, 3, 4] rfl) (back0 hi)
      · refine lv_ci ej ?_
        refine lv_tableIn (off := 280) (tgt := 319) hx hb d_LW_law_39 (by decide +kernel) (by decide +kernel) (by decide +kernel) (by decide) ?_
        exact lw_c6 l hfl hL C0 hAe dC dI hT9 hNs g0 m0 r_out i9 hi (by omega) (by omega) hI hS (lv_sub hl [0, 1, 2, 3, 4] rfl) (back0 hi)
      · refine lv_ci ej ?_
        refine lv_tableIn (off := 320) (tgt := 359) hx hb d_LW_law_39 (by decide +kernel) (by decide +kernel) (by decide +kernel) (by decide) ?_
        exact lw_c7 l hfl hL C0 hAe dC dI hT9 hNs g0 m0 r_out i9 hi (by omega) (by omega) hI hS (lv_sub hl [0, 1, 2, 3, 4] rfl) (back0 hi)
      · refine lv_ci ej ?_
        refine lv_tableIn (off := 372) (tgt := 411) hx hb d_LW_law_39 (by decide +kernel) (by decide +kernel) (by decide +kernel) (by decide) ?_
        exact lw_c8 l hfl hL C0 hAe dC dI hT9 hNs g0 m0 r_out i9 hi (by omega) (by omega) hI hS (lv_sub hl [0, 1, 2, 3, 4] rfl) (back0 hi)
      · refine lv_ci ej ?_
        refine lv_tableIn (off := 412) (tgt := 451) hx hb d_LW_law_39 (by decide +kernel) (by decide +kernel) (by decide +kernel) (by decide) ?_
        exact lw_c9 l hfl hL C0 hAe dC dI hT9 hNs g0 m0 r_out i9 hi (by omega) (by omega) hI hS (lv_sub hl [0, 1, 2, 3, 4] rfl) (back0 hi)
      · refine lv_ci ej ?_
        refine lv_tableIn (off := 437) (tgt := 476) hx hb d_LW_law_39 (by decide +kernel) (by decide +kernel) (by decide +kernel) (by decide) ?_
        exact lw_c10 l hfl hL C0 hAe dC dI hT9 hNs g0 m0 r_out i9 hi (by omega) (by omega) hI hS (lv_sub hl [0, 1, 2, 3, 4] rfl) (back0 hi)
      · refine lv_ci ej ?_
        refine lv_tableIn (off := 450) (tgt := 489) hx hb d_LW_law_39 (by decide +kernel) (by decide +kernel) (by decide +kernel) (by decide) ?_
        exact lw_c11 l hfl hL C0 hAe dC dI hT9 hNs g0 m0 r_out i9 hi (by omega) (by omega) hI hS (lv_sub hl [0, 1, 2, 3, 4] rfl) (back0 hi)
      · refine lv_ci ej ?_
        refine lv_tableIn (off := 478) (tgt := 517) hx hb d_LW_law_39 (by decide +kernel) (by decide +kernel) (by decide +kernel) (by decide) ?_
        exact lw_c12 l hfl hL C0 hAe dC dI hT9 hNs g0 m0 r_out i9 hi (by omega) (by omega) hI hS (lv_sub hl [0, 1, 2, 3, 4] rfl) (back0 hi)
      · refine lv_ci ej ?_
        refine lv_tableOut (tgt := 545) hx hb d_LW_law_39 (by decide +kernel) (by decide) ?_
        refine W.widen (k := cells + 1) (n := slots + 6) (by omega) (by omega) ?_
        exact (back0 hi) H locs ls hI hS (lv_sub hl [0, 1, 2, 3, 4] rfl)
      · refine lv_ci ej ?_
        refine lv_tableOut (tgt := 545) hx hb d_LW_law_39 (by decide +kernel) (by decide) ?_
        refine W.widen (k := cells + 1) (n := slots + 6) (by omega) (by omega) ?_
        exact (back0 hi) H locs ls hI hS (lv_sub hl [0, 1, 2, 3, 4] rfl)
      · refine lv_ci ej ?_
        refine lv_tableOut (tgt := 545) hx hb d_LW_law_39 (by decide +kernel) (by decide) ?_
        refine W.widen (k := cells + 1) (n := slots + 6) (by omega) (by omega) ?_
        exact (back0 hi) H locs ls hI hS (lv_sub hl [0, 1, 2, 3, 4] rfl)
