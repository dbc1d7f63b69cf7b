/-! what a 'throw new X("..")' asks of the machine, and how it stays true while the statics' cells stay -/
abbrev th_nm : List String := ["java/lang/RuntimeException", "java/lang/Exception"]
def th_okb (X : String) (a : Cond) : Bool := goodWord a || (match a with
  | .castable p q => p == X && q == X
  | .declares _ => true
  | .laysStatic _ _ _ => true
  | .isRef (.static c n d) => c == "java/lang/Throwable" && ((n == "UNASSIGNED_STACK" && d == "[Ljava/lang/StackTraceElement;") || (n == "SUPPRESSED_SENTINEL" && d == "Ljava/util/List;"))
  | _ => false)
theorem th_okb_spec {X : String} {a : Cond} (h : th_okb X a = true) : goodWord a = true ∨ a = .castable X X ∨ (∃ x, a = .declares x) ∨ (∃ x y z, a = .laysStatic x y z) ∨ a = .isRef (.static "java/lang/Throwable" "UNASSIGNED_STACK" "[Ljava/lang/StackTraceElement;") ∨ a = .isRef (.static "java/lang/Throwable" "SUPPRESSED_SENTINEL" "Ljava/util/List;") := by
  unfold th_okb at h
  rw [Bool.or_eq_true] at h
  rcases h with h | h
  · exact Or.inl h
  · right
    split at h
    · simp only [Bool.and_eq_true, beq_iff_eq] at h
      obtain ⟨rfl, rfl⟩ := h
      exact Or.inl rfl
    · exact Or.inr (Or.inl ⟨_, rfl⟩)
    · exact Or.inr (Or.inr (Or.inl ⟨_, _, _, rfl⟩))
    · simp only [Bool.and_eq_true, Bool.or_eq_true, beq_iff_eq] at h
      obtain ⟨rfl, ⟨rfl, rfl⟩ | ⟨rfl, rfl⟩⟩ := h
      · exact Or.inr (Or.inr (Or.inr (Or.inl rfl)))
      · exact Or.inr (Or.inr (Or.inr (Or.inr rfl)))
    · cases h
/-- the cells of statics are as they were -/
def th_St (H0 H1 : Heap) : Prop := ∀ (q : Nat) (cell : Cell), H0[q]? = some cell → cell.vm.isStatics = true → H1[q]? = some cell
theorem th_St.rf {H : Heap} : th_St H H := fun _ _ h _ => h
theorem th_at {D : va_G} {cl : List vw_C} {q : Nat × va_E} {H : Heap} {cell : Cell} (h : va_at D cl q H) (hc : H[q.1]? = some cell) : cell.vm.isStatics = false := by
  obtain ⟨a, x⟩ := q
  cases x with
  | inl x =>
    have h1 : H[a]? = some (vp_cell x.1 x.2) := h
    cases hc.symm.trans h1
    obtain ⟨cA, n, f⟩ := x
    rcases f with f | f | f | f | f <;> rfl
  | inr o =>
    obtain ⟨r, -, c2, h2, -, h4, -⟩ := h
    cases hc.symm.trans h2
    rw [h4]; rfl
theorem th_stat {D : va_G} {cl : List vw_C} {ws : va_W} {H0 H : Heap} {A : Nat → Prop} {locs : List Loc} (hAe : va_A ws H0.size = A) (hP0 : va_P D cl ws H0) (hS : va_S A H0 H locs) : th_St H0 H := fun q cell hq hs => by
  have hlt := (Array.getElem?_eq_some_iff.mp hq).1
  rw [hS.2.1 q hlt ?_]
  · exact hq
  · rw [← hAe]
    rintro (⟨k, x, hk⟩ | h)
    · have := th_at (hP0 k (q, x) hk) hq
      rw [hs] at this
      cases this
    · omega
theorem th_isRef {A A' : Array Value} {s U : State} {C n d : String} (hl : (Cond.laysStatic C n d).before A s = true) (hini : (Cond.initialized C).before A s = true) (h : (Cond.isRef (.static C n d)).before A s = true) (hW : s.WarmedH U.vm) (hH : th_St s.heap U.heap) : (Cond.isRef (.static C n d)).before A' U = true := by
  have z := va_Zqof (A := fun _ => False) hl hini h (fun _ _ h => h)
  have z2 := va_Zq.moved hW.alike z
  rcases z2 with ⟨cf, kf, fi, f, a, cell, h1, h2, h3, h4, h5, h6, h7, -⟩ | ⟨t, cf, kf, fi, f, a, cell, h1, h2, h3, h4, h5, h6, h7, -⟩ <;>
    · have h5 := hH a cell h5 h6
      simp [Cond.before, Cond.holds, Cond.value, Term.eval, State.fieldNamed?, h1, h2, h4, h5, h6, h7]
/-- what the throw of a new X in the class own asks -/
def th_Own (own : String) (ic : Nat) (X : String) (U : State) : Prop := ∀ (A : Array Value), ∀ a ∈ Bundle.ownAtoms own ic X th_nm, a.before A U = true
theorem th_own {own X : String} {ic : Nat} {A0 : Array Value} {s U : State} (h : ∀ a ∈ Bundle.ownAtoms own ic X th_nm, a.before A0 s = true) (hk : (Bundle.ownAtoms own ic X th_nm).all (th_okb X) = true) (hW : s.WarmedH U.vm) (hH : th_St s.heap U.heap) : th_Own own ic X U := by
  intro A a ha
  have h0 := h a ha
  rcases th_okb_spec (List.all_eq_true.mp hk a ha) with g | rfl | ⟨x, rfl⟩ | ⟨x, y, z, rfl⟩ | rfl | rfl
  · exact word_at hW (good_of_word g) h0
  · exact va_Nw.use rfl (va_Nw.warmC hW (va_Nw.of rfl h0))
  · exact va_Nw.use rfl (va_Nw.warmD hW (va_Nw.of rfl h0))
  · have h1 : (Cond.laysStatic x y z).before A0 (s.setVm U.vm) = true := Cond.holds_shifted (State.Shifted.of_warmed hW) _ [] rfl h0
    have e1 : (s.setVm U.vm).fieldFound? x y z = U.fieldFound? x y z := rfl
    have e2 : (s.setVm U.vm).vm = U.vm := rfl
    simp only [Cond.before, Cond.holds, Cond.value, e1, e2] at h1 ⊢
    cases hc : U.vm.findClass x with
    | none => simp [hc] at h1
    | some c =>
      cases hf : U.fieldFound? x y z with
      | none => simp [hc, hf] at h1
      | some r =>
        obtain ⟨c', k, i, f⟩ := r
        simp only [hc, hf] at h1 ⊢
        cases hk : k.statics with
        | none => simp [hk] at h1
        | some a =>
          have e3 : (s.setVm U.vm).heap[a]? = s.heap[a]? := rfl
          simp only [hk, Option.bind_some, e3] at h1 ⊢
          cases hh : s.heap[a]? with
          | none => simp [hh] at h1
          | some cell =>
            have hst : cell.vm.isStatics = true := by
              rw [hh] at h1
              simp only [Option.map_some, Option.getD_some, Bool.and_eq_true, beq_iff_eq, Option.some.injEq] at h1
              simp_all
            rw [hH a cell hh hst]
            rw [hh] at h1
            exact h1
  · exact th_isRef (h _ (by simp [Bundle.ownAtoms, Bundle.throwableAtoms, Bundle.tN, Bundle.steD, Bundle.listD])) (h _ (by simp [Bundle.ownAtoms, Bundle.throwableAtoms, Bundle.tN, Bundle.steD, Bundle.listD])) h0 hW hH
  · exact th_isRef (h _ (by simp [Bundle.ownAtoms, Bundle.throwableAtoms, Bundle.tN, Bundle.steD, Bundle.listD])) (h _ (by simp [Bundle.ownAtoms, Bundle.throwableAtoms, Bundle.tN, Bundle.steD, Bundle.listD])) h0 hW hH
theorem th_Own.to {own X : String} {ic : Nat} {s U : State} (h : th_Own own ic X s) (hk : (Bundle.ownAtoms own ic X th_nm).all (th_okb X) = true) (hW : s.WarmedH U.vm) (hH : th_St s.heap U.heap) : th_Own own ic X U := th_own (h #[]) hk hW hH
abbrev X_io : String := "java/lang/IndexOutOfBoundsException"
abbrev X_ia : String := "java/lang/IllegalArgumentException"
abbrev X_is : String := "java/lang/IllegalStateException"
theorem th_k_io : (Bundle.ownAtoms "GlyphLines" 64 X_io th_nm).all (th_okb X_io) = true := by decide +kernel
theorem th_k_ia : (Bundle.ownAtoms "GlyphLines" 71 X_ia th_nm).all (th_okb X_ia) = true := by decide +kernel
theorem th_k_is : (Bundle.ownAtoms "GlyphLines" 161 X_is th_nm).all (th_okb X_is) = true := by decide +kernel
/-- the words that the throws of the class ask, together; and its texts -/
def th_All (U : State) : Prop := th_Own "GlyphLines" 64 X_io U ∧ th_Own "GlyphLines" 71 X_ia U ∧ th_Own "GlyphLines" 161 X_is U ∧ (∃ q, vk_R "GlyphLines" 62 "no such byte" q U) ∧ (∃ q, vk_R "GlyphLines" 69 "a byte is 0 .. 255" q U) ∧ (∃ q, vk_R "GlyphLines" 72 "fewer than no bytes" q U) ∧ (∃ q, vk_R "GlyphLines" 159 "there is no font" q U) ∧ (∃ q, vk_R "GlyphLines" 91 "a character is 0 .. 65535" q U) ∧ (∃ q, vk_R "GlyphLines" 165 "no such glyph" q U) ∧ (∃ q, vk_R "GlyphLines" 114 "no such measure" q U) ∧ (∃ q, vk_R "GlyphLines" 116 "no such point" q U) ∧ (∃ q, vk_R "GlyphLines" 131 "a point has no such number" q U) ∧ (∃ q, vk_R "GlyphLines" 136 "ppem is 4 .. 24" q U) ∧ (∃ q, vk_R "GlyphLines" 151 "no such row" q U)
theorem th_All.to {s U : State} (h : th_All s) (hW : s.WarmedH U.vm) (hH : th_St s.heap U.heap) : th_All U := by
  obtain ⟨h1, h2, h3, ⟨q62, z62⟩, ⟨q69, z69⟩, ⟨q72, z72⟩, ⟨q159, z159⟩, ⟨q91, z91⟩, ⟨q165, z165⟩, ⟨q114, z114⟩, ⟨q116, z116⟩, ⟨q131, z131⟩, ⟨q136, z136⟩, ⟨q151, z151⟩⟩ := h
  exact ⟨h1.to th_k_io hW hH, h2.to th_k_ia hW hH, h3.to th_k_is hW hH, ⟨q62, vk_R.warm hW z62⟩, ⟨q69, vk_R.warm hW z69⟩, ⟨q72, vk_R.warm hW z72⟩, ⟨q159, vk_R.warm hW z159⟩, ⟨q91, vk_R.warm hW z91⟩, ⟨q165, vk_R.warm hW z165⟩, ⟨q114, vk_R.warm hW z114⟩, ⟨q116, vk_R.warm hW z116⟩, ⟨q131, vk_R.warm hW z131⟩, ⟨q136, vk_R.warm hW z136⟩, ⟨q151, vk_R.warm hW z151⟩⟩
theorem th_All.call {U : State} {g : JFrame} {mk : MethodId} {a : Array Value} (h : th_All U) : th_All (U.calling g mk a) := h.to (State.WarmedH.refl U) th_St.rf
