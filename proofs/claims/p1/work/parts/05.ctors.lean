abbrev b_SP_init : ByteArray := prog_10_method_1_code
def y_SP_init : MethodName := ⟨R_SP, "<init>", "([I)V"⟩
def s_SP_init : List Cond := .code y_SP_init b_SP_init 2 none :: tw_T
abbrev b_CM_init : ByteArray := prog_3_method_1_code
def y_CM_init : MethodName := ⟨R_CM, "<init>", "([I)V"⟩
def s_CM_init : List Cond := .code y_CM_init b_CM_init 2 none :: tw_T
abbrev b_PA_init : ByteArray := prog_8_method_1_code
def y_PA_init : MethodName := ⟨R_PA, "<init>", "([I)V"⟩
def s_PA_init : List Cond := .code y_PA_init b_PA_init 2 none :: tw_T
abbrev b_DI_init : ByteArray := prog_4_method_1_code
def y_DI_init : MethodName := ⟨R_DI, "<init>", "([I)V"⟩
def s_DI_init : List Cond := .code y_DI_init b_DI_init 2 none :: tw_T
theorem w_4 : (Jvm.Cond.initialized "GlyphLines$Span") ∈ tw_T := tw_of 4 (by decide +kernel) (by decide +kernel)
theorem w_28 : (Jvm.Cond.instanceMethod ({ cls := "java/lang/Object", name := "<init>", desc := "()V" } : Jvm.MethodName)) ∈ tw_T := tw_of 28 (by decide +kernel) (by decide +kernel)
theorem w_29 : (Jvm.Cond.code ({ cls := "java/lang/Object", name := "<init>", desc := "()V" } : Jvm.MethodName) object_method_1_code (1 : Nat) (Option.none : Option Jvm.ClassFile.FieldType)) ∈ tw_T := tw_of 29 (by decide +kernel) (by decide +kernel)
theorem w_41 : (Jvm.Cond.methodLink "GlyphLines$Directory" (1 : Nat) ({ cls := "java/lang/Object", name := "<init>", desc := "()V" } : Jvm.MethodName)) ∈ tw_T := tw_of 41 (by decide +kernel) (by decide +kernel)
theorem w_42 : (Jvm.Cond.classLink "GlyphLines$Directory" (13 : Nat) "GlyphLines$Span") ∈ tw_T := tw_of 42 (by decide +kernel) (by decide +kernel)
theorem w_43 : (Jvm.Cond.instantiable "GlyphLines$Span" (4 : Nat)) ∈ tw_T := tw_of 43 (by decide +kernel) (by decide +kernel)
theorem w_44 : (Jvm.Cond.methodLink "GlyphLines$Directory" (15 : Nat) ({ cls := "GlyphLines$Span", name := "<init>", desc := "([I)V" } : Jvm.MethodName)) ∈ tw_T := tw_of 44 (by decide +kernel) (by decide +kernel)
theorem w_45 : (Jvm.Cond.instanceMethod ({ cls := "GlyphLines$Span", name := "<init>", desc := "([I)V" } : Jvm.MethodName)) ∈ tw_T := tw_of 45 (by decide +kernel) (by decide +kernel)
theorem w_46 : (Jvm.Cond.code ({ cls := "GlyphLines$Span", name := "<init>", desc := "([I)V" } : Jvm.MethodName) prog_10_method_1_code (2 : Nat) (Option.none : Option Jvm.ClassFile.FieldType)) ∈ tw_T := tw_of 46 (by decide +kernel) (by decide +kernel)
theorem w_47 : (Jvm.Cond.methodLink "GlyphLines$Span" (1 : Nat) ({ cls := "java/lang/Object", name := "<init>", desc := "()V" } : Jvm.MethodName)) ∈ tw_T := tw_of 47 (by decide +kernel) (by decide +kernel)
theorem w_48 : (Jvm.Cond.fieldLink "GlyphLines$Span" (20 : Nat) "GlyphLines$Span" "cells" "[I") ∈ tw_T := tw_of 48 (by decide +kernel) (by decide +kernel)
theorem w_49 : (Jvm.Cond.fieldLink "GlyphLines$Span" (7 : Nat) "GlyphLines$Span" "start" "I") ∈ tw_T := tw_of 49 (by decide +kernel) (by decide +kernel)
theorem w_51 : (Jvm.Cond.fieldLink "GlyphLines$Span" (13 : Nat) "GlyphLines$Span" "size" "I") ∈ tw_T := tw_of 51 (by decide +kernel) (by decide +kernel)
theorem w_55 : (Jvm.Cond.fieldLink "GlyphLines$Span" (16 : Nat) "GlyphLines$Span" "missed" "Z") ∈ tw_T := tw_of 55 (by decide +kernel) (by decide +kernel)
theorem w_69 : (Jvm.Cond.fieldLink "GlyphLines$Directory" (18 : Nat) "GlyphLines$Directory" "whole" "LGlyphLines$Span;") ∈ tw_T := tw_of 69 (by decide +kernel) (by decide +kernel)
theorem w_70 : (Jvm.Cond.fieldLink "GlyphLines$Directory" (22 : Nat) "GlyphLines$Directory" "table" "LGlyphLines$Span;") ∈ tw_T := tw_of 70 (by decide +kernel) (by decide +kernel)
theorem w_71 : (Jvm.Cond.fieldLink "GlyphLines$Directory" (7 : Nat) "GlyphLines$Directory" "tables" "I") ∈ tw_T := tw_of 71 (by decide +kernel) (by decide +kernel)
theorem w_86 : (Jvm.Cond.methodLink "GlyphLines$CharacterMap" (3 : Nat) ({ cls := "java/lang/Object", name := "<init>", desc := "()V" } : Jvm.MethodName)) ∈ tw_T := tw_of 86 (by decide +kernel) (by decide +kernel)
theorem w_87 : (Jvm.Cond.classLink "GlyphLines$CharacterMap" (18 : Nat) "GlyphLines$Span") ∈ tw_T := tw_of 87 (by decide +kernel) (by decide +kernel)
theorem w_88 : (Jvm.Cond.methodLink "GlyphLines$CharacterMap" (20 : Nat) ({ cls := "GlyphLines$Span", name := "<init>", desc := "([I)V" } : Jvm.MethodName)) ∈ tw_T := tw_of 88 (by decide +kernel) (by decide +kernel)
theorem w_89 : (Jvm.Cond.fieldLink "GlyphLines$CharacterMap" (23 : Nat) "GlyphLines$CharacterMap" "cmap" "LGlyphLines$Span;") ∈ tw_T := tw_of 89 (by decide +kernel) (by decide +kernel)
theorem w_91 : (Jvm.Cond.fieldLink "GlyphLines$CharacterMap" (9 : Nat) "GlyphLines$CharacterMap" "place" "I") ∈ tw_T := tw_of 91 (by decide +kernel) (by decide +kernel)
theorem w_92 : (Jvm.Cond.fieldLink "GlyphLines$CharacterMap" (15 : Nat) "GlyphLines$CharacterMap" "ranges" "I") ∈ tw_T := tw_of 92 (by decide +kernel) (by decide +kernel)
theorem w_105 : (Jvm.Cond.methodLink "GlyphLines$Pairs" (1 : Nat) ({ cls := "java/lang/Object", name := "<init>", desc := "()V" } : Jvm.MethodName)) ∈ tw_T := tw_of 105 (by decide +kernel) (by decide +kernel)
theorem w_106 : (Jvm.Cond.classLink "GlyphLines$Pairs" (13 : Nat) "GlyphLines$Span") ∈ tw_T := tw_of 106 (by decide +kernel) (by decide +kernel)
theorem w_107 : (Jvm.Cond.methodLink "GlyphLines$Pairs" (15 : Nat) ({ cls := "GlyphLines$Span", name := "<init>", desc := "([I)V" } : Jvm.MethodName)) ∈ tw_T := tw_of 107 (by decide +kernel) (by decide +kernel)
theorem w_108 : (Jvm.Cond.fieldLink "GlyphLines$Pairs" (18 : Nat) "GlyphLines$Pairs" "kern" "LGlyphLines$Span;") ∈ tw_T := tw_of 108 (by decide +kernel) (by decide +kernel)
theorem w_110 : (Jvm.Cond.fieldLink "GlyphLines$Pairs" (7 : Nat) "GlyphLines$Pairs" "pairs" "I") ∈ tw_T := tw_of 110 (by decide +kernel) (by decide +kernel)
theorem d_CM_init_0 : decode b_CM_init 0 = .ok (.aload_n 0, 1) := by decide +kernel
theorem d_CM_init_1 : decode b_CM_init 1 = .ok (.invokespecial 3, 3) := by decide +kernel
theorem d_CM_init_10 : decode b_CM_init 10 = .ok (.iconst 0, 1) := by decide +kernel
theorem d_CM_init_11 : decode b_CM_init 11 = .ok (.putfield 15, 3) := by decide +kernel
theorem d_CM_init_14 : decode b_CM_init 14 = .ok (.aload_n 0, 1) := by decide +kernel
theorem d_CM_init_15 : decode b_CM_init 15 = .ok (.new 18, 3) := by decide +kernel
theorem d_CM_init_18 : decode b_CM_init 18 = .ok (.dup, 1) := by decide +kernel
theorem d_CM_init_19 : decode b_CM_init 19 = .ok (.aload_n 1, 1) := by decide +kernel
theorem d_CM_init_20 : decode b_CM_init 20 = .ok (.invokespecial 20, 3) := by decide +kernel
theorem d_CM_init_23 : decode b_CM_init 23 = .ok (.putfield 23, 3) := by decide +kernel
theorem d_CM_init_26 : decode b_CM_init 26 = .ok (.return_, 1) := by decide +kernel
theorem d_CM_init_4 : decode b_CM_init 4 = .ok (.aload_n 0, 1) := by decide +kernel
theorem d_CM_init_5 : decode b_CM_init 5 = .ok (.iconst 0, 1) := by decide +kernel
theorem d_CM_init_6 : decode b_CM_init 6 = .ok (.putfield 9, 3) := by decide +kernel
theorem d_CM_init_9 : decode b_CM_init 9 = .ok (.aload_n 0, 1) := by decide +kernel
theorem d_DI_init_0 : decode b_DI_init 0 = .ok (.aload_n 0, 1) := by decide +kernel
theorem d_DI_init_1 : decode b_DI_init 1 = .ok (.invokespecial 1, 3) := by decide +kernel
theorem d_DI_init_10 : decode b_DI_init 10 = .ok (.new 13, 3) := by decide +kernel
theorem d_DI_init_13 : decode b_DI_init 13 = .ok (.dup, 1) := by decide +kernel
theorem d_DI_init_14 : decode b_DI_init 14 = .ok (.aload_n 1, 1) := by decide +kernel
theorem d_DI_init_15 : decode b_DI_init 15 = .ok (.invokespecial 15, 3) := by decide +kernel
theorem d_DI_init_18 : decode b_DI_init 18 = .ok (.putfield 18, 3) := by decide +kernel
theorem d_DI_init_21 : decode b_DI_init 21 = .ok (.aload_n 0, 1) := by decide +kernel
theorem d_DI_init_22 : decode b_DI_init 22 = .ok (.new 13, 3) := by decide +kernel
theorem d_DI_init_25 : decode b_DI_init 25 = .ok (.dup, 1) := by decide +kernel
theorem d_DI_init_26 : decode b_DI_init 26 = .ok (.aload_n 1, 1) := by decide +kernel
theorem d_DI_init_27 : decode b_DI_init 27 = .ok (.invokespecial 15, 3) := by decide +kernel
theorem d_DI_init_30 : decode b_DI_init 30 = .ok (.putfield 22, 3) := by decide +kernel
theorem d_DI_init_33 : decode b_DI_init 33 = .ok (.return_, 1) := by decide +kernel
theorem d_DI_init_4 : decode b_DI_init 4 = .ok (.aload_n 0, 1) := by decide +kernel
theorem d_DI_init_5 : decode b_DI_init 5 = .ok (.iconst 0, 1) := by decide +kernel
theorem d_DI_init_6 : decode b_DI_init 6 = .ok (.putfield 7, 3) := by decide +kernel
theorem d_DI_init_9 : decode b_DI_init 9 = .ok (.aload_n 0, 1) := by decide +kernel
theorem d_PA_init_0 : decode b_PA_init 0 = .ok (.aload_n 0, 1) := by decide +kernel
theorem d_PA_init_1 : decode b_PA_init 1 = .ok (.invokespecial 1, 3) := by decide +kernel
theorem d_PA_init_10 : decode b_PA_init 10 = .ok (.new 13, 3) := by decide +kernel
theorem d_PA_init_13 : decode b_PA_init 13 = .ok (.dup, 1) := by decide +kernel
theorem d_PA_init_14 : decode b_PA_init 14 = .ok (.aload_n 1, 1) := by decide +kernel
theorem d_PA_init_15 : decode b_PA_init 15 = .ok (.invokespecial 15, 3) := by decide +kernel
theorem d_PA_init_18 : decode b_PA_init 18 = .ok (.putfield 18, 3) := by decide +kernel
theorem d_PA_init_21 : decode b_PA_init 21 = .ok (.return_, 1) := by decide +kernel
theorem d_PA_init_4 : decode b_PA_init 4 = .ok (.aload_n 0, 1) := by decide +kernel
theorem d_PA_init_5 : decode b_PA_init 5 = .ok (.iconst 0, 1) := by decide +kernel
theorem d_PA_init_6 : decode b_PA_init 6 = .ok (.putfield 7, 3) := by decide +kernel
theorem d_PA_init_9 : decode b_PA_init 9 = .ok (.aload_n 0, 1) := by decide +kernel
theorem d_SP_init_0 : decode b_SP_init 0 = .ok (.aload_n 0, 1) := by decide +kernel
theorem d_SP_init_1 : decode b_SP_init 1 = .ok (.invokespecial 1, 3) := by decide +kernel
theorem d_SP_init_10 : decode b_SP_init 10 = .ok (.iconst 0, 1) := by decide +kernel
theorem d_SP_init_11 : decode b_SP_init 11 = .ok (.putfield 13, 3) := by decide +kernel
theorem d_SP_init_14 : decode b_SP_init 14 = .ok (.aload_n 0, 1) := by decide +kernel
theorem d_SP_init_15 : decode b_SP_init 15 = .ok (.iconst 0, 1) := by decide +kernel
theorem d_SP_init_16 : decode b_SP_init 16 = .ok (.putfield 16, 3) := by decide +kernel
theorem d_SP_init_19 : decode b_SP_init 19 = .ok (.aload_n 0, 1) := by decide +kernel
theorem d_SP_init_20 : decode b_SP_init 20 = .ok (.aload_n 1, 1) := by decide +kernel
theorem d_SP_init_21 : decode b_SP_init 21 = .ok (.putfield 20, 3) := by decide +kernel
theorem d_SP_init_24 : decode b_SP_init 24 = .ok (.return_, 1) := by decide +kernel
theorem d_SP_init_4 : decode b_SP_init 4 = .ok (.aload_n 0, 1) := by decide +kernel
theorem d_SP_init_5 : decode b_SP_init 5 = .ok (.iconst 0, 1) := by decide +kernel
theorem d_SP_init_6 : decode b_SP_init 6 = .ok (.putfield 7, 3) := by decide +kernel
theorem d_SP_init_9 : decode b_SP_init 9 = .ok (.aload_n 0, 1) := by decide +kernel
set_option maxHeartbeats 4000000 in
set_option maxRecDepth 100000 in
/-- GlyphLines$Span.<init> -/
theorem c_SP_init (l : Launch) (dC : Nat → ClassId) (dI : Nat → Nat → Nat) (h0 qa : Nat) (sz : Nat) : Met l y_SP_init s_SP_init ({ frames := 8, cells := 0, slots := 0, locals := 200 }) (va_Pc [.ref h0, .ref qa] (fun U => U.heap.size = sz ∧ va_P (dC, dI) cls_ [(h0, .inr (0, [.null, .int 0, .int 0, .int 0]))] U.heap ∧ va_K (dC, dI) cls_ [] U ∧ va_D (fun _ => True) [(h0, .inr (0, [.null, .int 0, .int 0, .int 0]))])) (va_Qv (fun _ : Unit => True) (fun (_ : Unit) (t : State) => va_P (dC, dI) cls_ [(h0, .inr (0, [.ref qa, .int 0, .int 0, .int 0]))] t.heap ∧ va_K (dC, dI) cls_ [] t ∧ va_D (va_A [(h0, .inr (0, [.null, .int 0, .int 0, .int 0]))] sz) [(h0, .inr (0, [.ref qa, .int 0, .int 0, .int 0]))]) (va_A [(h0, .inr (0, [.null, .int 0, .int 0, .int 0]))] sz)) 0 0 (va_A [(h0, .inr (0, [.null, .int 0, .int 0, .int 0]))] sz) := by
  refine Met.ofW (cc := b_SP_init) (maxL := 2) (ret := none) (by decide) rfl ?_
  intro p e s m args below meth c s₁ B hml hv
  obtain ⟨rfl, hsz, hP, hK, hD0⟩ := hv
  have hx := B.exec
  have hb := B.bytes
  have hr := B.returns
  have hts := atoms_spec (ws := s_SP_init) B.pre
  have hown : s.vm.findClass R_SP = some m.cls := findClass_of_methodNamed B.named
  have hlocks := B.notSynchronized
  have hin : meth.name = "<init>" := (name_of_methodNamed B.named B.method).1
  subst hsz
  have hD := hD0.self (sz := s.heap.size)
  generalize hAe : va_A [(h0, .inr (0, [.null, .int 0, .int 0, .int 0]))] s.heap.size = A at hD ⊢
  have hA : ∀ q : Nat, s.heap.size ≤ q → A q := fun q h => by rw [← hAe]; exact Or.inr h
  have hS : va_S A s.heap s.heap [] := va_S.rf
  have hP : va_P (dC, dI) cls_ [(h0, .inr (0, [.null, .int 0, .int 0, .int 0]))] s.heap := hP
  have hl := lv_entry ([.ref h0, .ref qa]) (n := 2) (Nat.le_of_ble_eq_true rfl)
  rw [lg_entry_eq]
  generalize (lg_sl ([.ref h0, .ref qa]) ++ List.replicate (2 - (lg_sl ([.ref h0, .ref qa])).length) Slot.unset).toArray = ls at hl ⊢
  have hl : lv_has ls 2 [(0, .ref h0), (1, .ref qa)] := hl
  refine lv_aload_n hx hb d_SP_init_0 rfl (lv_at hl 0 rfl) ?_
  refine W.objInit hx hb hown (hts _ (List.mem_cons_of_mem _ w_47)) (hts _ (List.mem_cons_of_mem _ w_28)) (hts _ (List.mem_cons_of_mem _ w_29)) rfl (by rw [hml]; exact hl.1) rfl d_SP_init_1 (Nat.le_of_ble_eq_true rfl) (Nat.le_of_ble_eq_true rfl) ?_
  refine W.eq (g2 := F0 m 4 ls []) rfl ?_
  refine lv_aload_n hx hb d_SP_init_4 rfl (lv_at hl 0 rfl) ?_
  refine lv_iconst (v := 0) hx hb d_SP_init_5 (by decide) ?_
  refine va_put (D := (dC, dI)) (ci := 0) (v := .int 0) (ty := .int) (C := R_SP) (T := F_SP) (N := 4) hx hb hts in_SP t_SP t_SP_ok n_SP hown hK hP hD hS 0 rfl rfl 1 (by decide) (hts _ (List.mem_cons_of_mem _ w_49)) (fun _ h9 => h9) rfl  (by decide +kernel) rfl rfl (Nat.le_of_ble_eq_true rfl) d_SP_init_6 (fun H locs hP hD hS => ?_)
  have hP : va_P (dC, dI) cls_ [(h0, .inr (0, [.null, .int 0, .int 0, .int 0]))] H := hP
  have hD : va_D A [(h0, .inr (0, [.null, .int 0, .int 0, .int 0]))] := hD
  refine lv_aload_n hx hb d_SP_init_9 rfl (lv_at hl 0 rfl) ?_
  refine lv_iconst (v := 0) hx hb d_SP_init_10 (by decide) ?_
  refine va_put (D := (dC, dI)) (ci := 0) (v := .int 0) (ty := .int) (C := R_SP) (T := F_SP) (N := 4) hx hb hts in_SP t_SP t_SP_ok n_SP hown hK hP hD hS 0 rfl rfl 2 (by decide) (hts _ (List.mem_cons_of_mem _ w_51)) (fun _ h9 => h9) rfl  (by decide +kernel) rfl rfl (Nat.le_of_ble_eq_true rfl) d_SP_init_11 (fun H locs hP hD hS => ?_)
  have hP : va_P (dC, dI) cls_ [(h0, .inr (0, [.null, .int 0, .int 0, .int 0]))] H := hP
  have hD : va_D A [(h0, .inr (0, [.null, .int 0, .int 0, .int 0]))] := hD
  refine lv_aload_n hx hb d_SP_init_14 rfl (lv_at hl 0 rfl) ?_
  refine lv_iconst (v := 0) hx hb d_SP_init_15 (by decide) ?_
  refine va_put (D := (dC, dI)) (ci := 0) (v := .int 0) (ty := .boolean) (C := R_SP) (T := F_SP) (N := 4) hx hb hts in_SP t_SP t_SP_ok n_SP hown hK hP hD hS 0 rfl rfl 3 (by decide) (hts _ (List.mem_cons_of_mem _ w_55)) (fun _ h9 => h9) rfl  (by decide +kernel) rfl rfl (Nat.le_of_ble_eq_true rfl) d_SP_init_16 (fun H locs hP hD hS => ?_)
  have hP : va_P (dC, dI) cls_ [(h0, .inr (0, [.null, .int 0, .int 0, .int 0]))] H := hP
  have hD : va_D A [(h0, .inr (0, [.null, .int 0, .int 0, .int 0]))] := hD
  refine lv_aload_n hx hb d_SP_init_19 rfl (lv_at hl 0 rfl) ?_
  refine lv_aload_n hx hb d_SP_init_20 rfl (lv_at hl 1 rfl) ?_
  refine va_putF (D := (dC, dI)) (ci := 0) (v := .ref qa) (ty := .array .int) (C := R_SP) (T := F_SP) (N := 4) hx hb hts in_SP t_SP t_SP_ok n_SP hown hK hP hD hS 0 rfl rfl 0 (by decide) (hts _ (List.mem_cons_of_mem _ w_48)) (fun _ h9 => h9) rfl hin rfl (by decide +kernel) rfl rfl (Nat.le_of_ble_eq_true rfl) d_SP_init_21 (fun H locs hP hD hS => ?_)
  have hP : va_P (dC, dI) cls_ [(h0, .inr (0, [.ref qa, .int 0, .int 0, .int 0]))] H := hP
  have hD : va_D A [(h0, .inr (0, [.ref qa, .int 0, .int 0, .int 0]))] := hD
  refine W.widen (k := 0) (n := 0) (Nat.le_of_ble_eq_true rfl) (Nat.le_of_ble_eq_true rfl) ?_
  have hP9 := hP.sub (ws' := [(h0, .inr (0, [.ref qa, .int 0, .int 0, .int 0]))]) [0] rfl
  have hD9 := hD.sub (ws' := [(h0, .inr (0, [.ref qa, .int 0, .int 0, .int 0]))]) [0] (by decide) rfl
  have hK9 := hK.sub (tys' := []) [] rfl
  exact W.vret hx hb hr (fun t ht hW => ⟨⟨(), rfl, trivial, by rw [ht]; exact hP9, va_K.moved hW.alike hK9, hD9⟩, hS.F ht⟩) hS.2.2 d_SP_init_24
set_option maxHeartbeats 4000000 in
set_option maxRecDepth 100000 in
/-- GlyphLines$CharacterMap.<init> -/
theorem c_CM_init (l : Launch) (dC : Nat → ClassId) (dI : Nat → Nat → Nat) (h0 qa : Nat) (sz : Nat) : Met l y_CM_init s_CM_init ({ frames := 10, cells := 1, slots := 4, locals := 300 }) (va_Pc [.ref h0, .ref qa] (fun U => U.heap.size = sz ∧ va_P (dC, dI) cls_ [(h0, .inr (1, [.null, .int 0, .int 0]))] U.heap ∧ va_K (dC, dI) cls_ [] U ∧ va_D (fun _ => True) [(h0, .inr (1, [.null, .int 0, .int 0]))])) (va_Qv (fun _ : Unit => True) (fun (_ : Unit) (t : State) => True) (va_A [(h0, .inr (1, [.null, .int 0, .int 0]))] sz)) 1 4 (va_A [(h0, .inr (1, [.null, .int 0, .int 0]))] sz) := by
  refine Met.ofW (cc := b_CM_init) (maxL := 2) (ret := none) (by decide) rfl ?_
  intro p e s m args below meth c s₁ B hml hv
  obtain ⟨rfl, hsz, hP, hK, hD0⟩ := hv
  have hx := B.exec
  have hb := B.bytes
  have hr := B.returns
  have hts := atoms_spec (ws := s_CM_init) B.pre
  have hown : s.vm.findClass R_CM = some m.cls := findClass_of_methodNamed B.named
  have hlocks := B.notSynchronized
  have hin : meth.name = "<init>" := (name_of_methodNamed B.named B.method).1
  subst hsz
  have hD := hD0.self (sz := s.heap.size)
  generalize hAe : va_A [(h0, .inr (1, [.null, .int 0, .int 0]))] s.heap.size = A at hD ⊢
  have hA : ∀ q : Nat, s.heap.size ≤ q → A q := fun q h => by rw [← hAe]; exact Or.inr h
  have hS : va_S A s.heap s.heap [] := va_S.rf
  have hP : va_P (dC, dI) cls_ [(h0, .inr (1, [.null, .int 0, .int 0]))] s.heap := hP
  have hl := lv_entry ([.ref h0, .ref qa]) (n := 2) (Nat.le_of_ble_eq_true rfl)
  rw [lg_entry_eq]
  generalize (lg_sl ([.ref h0, .ref qa]) ++ List.replicate (2 - (lg_sl ([.ref h0, .ref qa])).length) Slot.unset).toArray = ls at hl ⊢
  have hl : lv_has ls 2 [(0, .ref h0), (1, .ref qa)] := hl
  refine lv_aload_n hx hb d_CM_init_0 rfl (lv_at hl 0 rfl) ?_
  refine W.objInit hx hb hown (hts _ (List.mem_cons_of_mem _ w_86)) (hts _ (List.mem_cons_of_mem _ w_28)) (hts _ (List.mem_cons_of_mem _ w_29)) rfl (by rw [hml]; exact hl.1) rfl d_CM_init_1 (Nat.le_of_ble_eq_true rfl) (Nat.le_of_ble_eq_true rfl) ?_
  refine W.eq (g2 := F0 m 4 ls []) rfl ?_
  refine lv_aload_n hx hb d_CM_init_4 rfl (lv_at hl 0 rfl) ?_
  refine lv_iconst (v := 0) hx hb d_CM_init_5 (by decide) ?_
  refine va_put (D := (dC, dI)) (ci := 1) (v := .int 0) (ty := .int) (C := R_CM) (T := F_CM) (N := 3) hx hb hts in_CM t_CM t_CM_ok n_CM hown hK hP hD hS 0 rfl rfl 1 (by decide) (hts _ (List.mem_cons_of_mem _ w_91)) (fun _ h9 => h9) rfl  (by decide +kernel) rfl rfl (Nat.le_of_ble_eq_true rfl) d_CM_init_6 (fun H locs hP hD hS => ?_)
  have hP : va_P (dC, dI) cls_ [(h0, .inr (1, [.null, .int 0, .int 0]))] H := hP
  have hD : va_D A [(h0, .inr (1, [.null, .int 0, .int 0]))] := hD
  refine lv_aload_n hx hb d_CM_init_9 rfl (lv_at hl 0 rfl) ?_
  refine lv_iconst (v := 0) hx hb d_CM_init_10 (by decide) ?_
  refine va_put (D := (dC, dI)) (ci := 1) (v := .int 0) (ty := .int) (C := R_CM) (T := F_CM) (N := 3) hx hb hts in_CM t_CM t_CM_ok n_CM hown hK hP hD hS 0 rfl rfl 2 (by decide) (hts _ (List.mem_cons_of_mem _ w_92)) (fun _ h9 => h9) rfl  (by decide +kernel) rfl rfl (Nat.le_of_ble_eq_true rfl) d_CM_init_11 (fun H locs hP hD hS => ?_)
  have hP : va_P (dC, dI) cls_ [(h0, .inr (1, [.null, .int 0, .int 0]))] H := hP
  have hD : va_D A [(h0, .inr (1, [.null, .int 0, .int 0]))] := hD
  refine lv_aload_n hx hb d_CM_init_14 rfl (lv_at hl 0 rfl) ?_
  refine va_new (ci := 0) (fs := [.null, .int 0, .int 0, .int 0]) (C := R_SP) (T := F_SP) (N := 4) hx hb hts in_SP t_SP t_SP_ok hown (hts _ (List.mem_cons_of_mem _ w_87)) (hts _ (List.mem_cons_of_mem _ w_43)) (hts _ (List.mem_cons_of_mem _ w_4)) hK hP hD hS hA rfl (fun j hj => by rcases (show j = 0 ∨ j = 1 ∨ j = 2 ∨ j = 3 by omega) with rfl | rfl | rfl | rfl <;> rfl) (Nat.le_of_ble_eq_true rfl) (Nat.le_of_ble_eq_true rfl) d_CM_init_15 (fun q1 H hP hD hS => ?_)
  have hP : va_P (dC, dI) cls_ [(h0, .inr (1, [.null, .int 0, .int 0])), (q1, .inr (0, [.null, .int 0, .int 0, .int 0]))] H := hP
  have hD : va_D A [(h0, .inr (1, [.null, .int 0, .int 0])), (q1, .inr (0, [.null, .int 0, .int 0, .int 0]))] := hD
  refine lv_dup hx hb d_CM_init_18 rfl ?_
  refine lv_aload_n hx hb d_CM_init_19 rfl (lv_at hl 1 rfl) ?_
  have hPc := hP.sub (ws' := [(q1, .inr (0, [.null, .int 0, .int 0, .int 0]))]) [1] rfl
  have hDc := hD.sub (ws' := [(q1, .inr (0, [.null, .int 0, .int 0, .int 0]))]) [1] (by decide) rfl
  have hKc := hK.sub (tys' := []) [] rfl
  have hFc := va_free (wc := [(q1, .inr (0, [.null, .int 0, .int 0, .int 0]))]) hD hS hA [1] rfl
  refine va_callv (va_runI (As := [.ref qa]) (rest := [.ref q1, .ref h0]) ⟨hx, hb, hml, hown, hts⟩ (c_SP_init l dC dI q1 qa H.size) (cwI 1 hts (tw_in w_46) rfl rfl rfl (hts _ (List.mem_cons_of_mem _ w_4)) (hts _ (List.mem_cons_of_mem _ w_88)) (hts _ (List.mem_cons_of_mem _ w_45)) rfl (by decide +kernel) ⟨Nat.le_of_ble_eq_true rfl, Nat.le_of_ble_eq_true rfl⟩) ⟨fun a U g mk q => by obtain ⟨q0, q1, qP, qK, qD⟩ := q; exact ⟨q0, q1, qP, va_K.moved (u := U) (U := U.calling g mk a) (Vm.Alike.refl U.vm) qK, qD⟩, fun U hU hW => ⟨rfl, by rw [hU], by rw [hU]; exact hPc, va_K.moved hW.alike hKc, hDc.weaken (fun _ _ _ _ => trivial)⟩⟩ rfl rfl hl.1 rfl (lv_room (Nat.le_of_ble_eq_true rfl)) d_CM_init_20 ⟨Nat.le_of_ble_eq_true rfl, Nat.le_of_ble_eq_true rfl⟩) hS (fun q _ h => hFc q h) hFc (fun u t H1 locs ht hvm hw hB hz1 hk1 hS => ?_)
  obtain ⟨hP1, hK1, hD1⟩ := hB
  rw [ht] at hP1
  have hK1 := va_K.moved hvm.symm hK1
  obtain ⟨hP, hD⟩ := va_join (wr := [(h0, .inr (1, [.null, .int 0, .int 0]))]) (w1 := [(q1, .inr (0, [.ref qa, .int 0, .int 0, .int 0]))]) hP hD [1] [0] rfl rfl (by decide) (by decide) hk1 hFc hP1 hD1
  have hK := (hK.sub (tys' := []) [] rfl).app hK1
  generalize H1 = H at hP hS ⊢
  have hP : va_P (dC, dI) cls_ [(h0, .inr (1, [.null, .int 0, .int 0])), (q1, .inr (0, [.ref qa, .int 0, .int 0, .int 0]))] H := hP
  have hD : va_D A [(h0, .inr (1, [.null, .int 0, .int 0])), (q1, .inr (0, [.ref qa, .int 0, .int 0, .int 0]))] := hD
  have hK : va_K (dC, dI) cls_ [] s := hK
  refine va_putF (D := (dC, dI)) (ci := 1) (v := .ref q1) (ty := .object "GlyphLines$Span") (C := R_CM) (T := F_CM) (N := 3) hx hb hts in_CM t_CM t_CM_ok n_CM hown hK hP hD hS 0 rfl rfl 0 (by decide) (hts _ (List.mem_cons_of_mem _ w_89)) (fun _ h9 => h9) rfl hin rfl (by decide +kernel) rfl rfl (Nat.le_of_ble_eq_true rfl) d_CM_init_23 (fun H locs hP hD hS => ?_)
  have hP : va_P (dC, dI) cls_ [(h0, .inr (1, [.ref q1, .int 0, .int 0])), (q1, .inr (0, [.ref qa, .int 0, .int 0, .int 0]))] H := hP
  have hD : va_D A [(h0, .inr (1, [.ref q1, .int 0, .int 0])), (q1, .inr (0, [.ref qa, .int 0, .int 0, .int 0]))] := hD
  refine W.widen (k := 1) (n := 4) (Nat.le_of_ble_eq_true rfl) (Nat.le_of_ble_eq_true rfl) ?_
  exact W.vret hx hb hr (fun t ht hW => ⟨⟨(), rfl, trivial, trivial⟩, hS.F ht⟩) hS.2.2 d_CM_init_26
set_option maxHeartbeats 4000000 in
set_option maxRecDepth 100000 in
/-- GlyphLines$Pairs.<init> -/
theorem c_PA_init (l : Launch) (dC : Nat → ClassId) (dI : Nat → Nat → Nat) (h0 qa : Nat) (sz : Nat) : Met l y_PA_init s_PA_init ({ frames := 10, cells := 1, slots := 4, locals := 300 }) (va_Pc [.ref h0, .ref qa] (fun U => U.heap.size = sz ∧ va_P (dC, dI) cls_ [(h0, .inr (3, [.null, .int 0]))] U.heap ∧ va_K (dC, dI) cls_ [] U ∧ va_D (fun _ => True) [(h0, .inr (3, [.null, .int 0]))])) (va_Qv (fun _ : Unit => True) (fun (_ : Unit) (t : State) => True) (va_A [(h0, .inr (3, [.null, .int 0]))] sz)) 1 4 (va_A [(h0, .inr (3, [.null, .int 0]))] sz) := by
  refine Met.ofW (cc := b_PA_init) (maxL := 2) (ret := none) (by decide) rfl ?_
  intro p e s m args below meth c s₁ B hml hv
  obtain ⟨rfl, hsz, hP, hK, hD0⟩ := hv
  have hx := B.exec
  have hb := B.bytes
  have hr := B.returns
  have hts := atoms_spec (ws := s_PA_init) B.pre
  have hown : s.vm.findClass R_PA = some m.cls := findClass_of_methodNamed B.named
  have hlocks := B.notSynchronized
  have hin : meth.name = "<init>" := (name_of_methodNamed B.named B.method).1
  subst hsz
  have hD := hD0.self (sz := s.heap.size)
  generalize hAe : va_A [(h0, .inr (3, [.null, .int 0]))] s.heap.size = A at hD ⊢
  have hA : ∀ q : Nat, s.heap.size ≤ q → A q := fun q h => by rw [← hAe]; exact Or.inr h
  have hS : va_S A s.heap s.heap [] := va_S.rf
  have hP : va_P (dC, dI) cls_ [(h0, .inr (3, [.null, .int 0]))] s.heap := hP
  have hl := lv_entry ([.ref h0, .ref qa]) (n := 2) (Nat.le_of_ble_eq_true rfl)
  rw [lg_entry_eq]
  generalize (lg_sl ([.ref h0, .ref qa]) ++ List.replicate (2 - (lg_sl ([.ref h0, .ref qa])).length) Slot.unset).toArray = ls at hl ⊢
  have hl : lv_has ls 2 [(0, .ref h0), (1, .ref qa)] := hl
  refine lv_aload_n hx hb d_PA_init_0 rfl (lv_at hl 0 rfl) ?_
  refine W.objInit hx hb hown (hts _ (List.mem_cons_of_mem _ w_105)) (hts _ (List.mem_cons_of_mem _ w_28)) (hts _ (List.mem_cons_of_mem _ w_29)) rfl (by rw [hml]; exact hl.1) rfl d_PA_init_1 (Nat.le_of_ble_eq_true rfl) (Nat.le_of_ble_eq_true rfl) ?_
  refine W.eq (g2 := F0 m 4 ls []) rfl ?_
  refine lv_aload_n hx hb d_PA_init_4 rfl (lv_at hl 0 rfl) ?_
  refine lv_iconst (v := 0) hx hb d_PA_init_5 (by decide) ?_
  refine va_put (D := (dC, dI)) (ci := 3) (v := .int 0) (ty := .int) (C := R_PA) (T := F_PA) (N := 2) hx hb hts in_PA t_PA t_PA_ok n_PA hown hK hP hD hS 0 rfl rfl 1 (by decide) (hts _ (List.mem_cons_of_mem _ w_110)) (fun _ h9 => h9) rfl  (by decide +kernel) rfl rfl (Nat.le_of_ble_eq_true rfl) d_PA_init_6 (fun H locs hP hD hS => ?_)
  have hP : va_P (dC, dI) cls_ [(h0, .inr (3, [.null, .int 0]))] H := hP
  have hD : va_D A [(h0, .inr (3, [.null, .int 0]))] := hD
  refine lv_aload_n hx hb d_PA_init_9 rfl (lv_at hl 0 rfl) ?_
  refine va_new (ci := 0) (fs := [.null, .int 0, .int 0, .int 0]) (C := R_SP) (T := F_SP) (N := 4) hx hb hts in_SP t_SP t_SP_ok hown (hts _ (List.mem_cons_of_mem _ w_106)) (hts _ (List.mem_cons_of_mem _ w_43)) (hts _ (List.mem_cons_of_mem _ w_4)) hK hP hD hS hA rfl (fun j hj => by rcases (show j = 0 ∨ j = 1 ∨ j = 2 ∨ j = 3 by omega) with rfl | rfl | rfl | rfl <;> rfl) (Nat.le_of_ble_eq_true rfl) (Nat.le_of_ble_eq_true rfl) d_PA_init_10 (fun q2 H hP hD hS => ?_)
  have hP : va_P (dC, dI) cls_ [(h0, .inr (3, [.null, .int 0])), (q2, .inr (0, [.null, .int 0, .int 0, .int 0]))] H := hP
  have hD : va_D A [(h0, .inr (3, [.null, .int 0])), (q2, .inr (0, [.null, .int 0, .int 0, .int 0]))] := hD
  refine lv_dup hx hb d_PA_init_13 rfl ?_
  refine lv_aload_n hx hb d_PA_init_14 rfl (lv_at hl 1 rfl) ?_
  have hPc := hP.sub (ws' := [(q2, .inr (0, [.null, .int 0, .int 0, .int 0]))]) [1] rfl
  have hDc := hD.sub (ws' := [(q2, .inr (0, [.null, .int 0, .int 0, .int 0]))]) [1] (by decide) rfl
  have hKc := hK.sub (tys' := []) [] rfl
  have hFc := va_free (wc := [(q2, .inr (0, [.null, .int 0, .int 0, .int 0]))]) hD hS hA [1] rfl
  refine va_callv (va_runI (As := [.ref qa]) (rest := [.ref q2, .ref h0]) ⟨hx, hb, hml, hown, hts⟩ (c_SP_init l dC dI q2 qa H.size) (cwI 1 hts (tw_in w_46) rfl rfl rfl (hts _ (List.mem_cons_of_mem _ w_4)) (hts _ (List.mem_cons_of_mem _ w_107)) (hts _ (List.mem_cons_of_mem _ w_45)) rfl (by decide +kernel) ⟨Nat.le_of_ble_eq_true rfl, Nat.le_of_ble_eq_true rfl⟩) ⟨fun a U g mk q => by obtain ⟨q0, q1, qP, qK, qD⟩ := q; exact ⟨q0, q1, qP, va_K.moved (u := U) (U := U.calling g mk a) (Vm.Alike.refl U.vm) qK, qD⟩, fun U hU hW => ⟨rfl, by rw [hU], by rw [hU]; exact hPc, va_K.moved hW.alike hKc, hDc.weaken (fun _ _ _ _ => trivial)⟩⟩ rfl rfl hl.1 rfl (lv_room (Nat.le_of_ble_eq_true rfl)) d_PA_init_15 ⟨Nat.le_of_ble_eq_true rfl, Nat.le_of_ble_eq_true rfl⟩) hS (fun q _ h => hFc q h) hFc (fun u t H1 locs ht hvm hw hB hz1 hk1 hS => ?_)
  obtain ⟨hP1, hK1, hD1⟩ := hB
  rw [ht] at hP1
  have hK1 := va_K.moved hvm.symm hK1
  obtain ⟨hP, hD⟩ := va_join (wr := [(h0, .inr (3, [.null, .int 0]))]) (w1 := [(q2, .inr (0, [.ref qa, .int 0, .int 0, .int 0]))]) hP hD [1] [0] rfl rfl (by decide) (by decide) hk1 hFc hP1 hD1
  have hK := (hK.sub (tys' := []) [] rfl).app hK1
  generalize H1 = H at hP hS ⊢
  have hP : va_P (dC, dI) cls_ [(h0, .inr (3, [.null, .int 0])), (q2, .inr (0, [.ref qa, .int 0, .int 0, .int 0]))] H := hP
  have hD : va_D A [(h0, .inr (3, [.null, .int 0])), (q2, .inr (0, [.ref qa, .int 0, .int 0, .int 0]))] := hD
  have hK : va_K (dC, dI) cls_ [] s := hK
  refine va_putF (D := (dC, dI)) (ci := 3) (v := .ref q2) (ty := .object "GlyphLines$Span") (C := R_PA) (T := F_PA) (N := 2) hx hb hts in_PA t_PA t_PA_ok n_PA hown hK hP hD hS 0 rfl rfl 0 (by decide) (hts _ (List.mem_cons_of_mem _ w_108)) (fun _ h9 => h9) rfl hin rfl (by decide +kernel) rfl rfl (Nat.le_of_ble_eq_true rfl) d_PA_init_18 (fun H locs hP hD hS => ?_)
  have hP : va_P (dC, dI) cls_ [(h0, .inr (3, [.ref q2, .int 0])), (q2, .inr (0, [.ref qa, .int 0, .int 0, .int 0]))] H := hP
  have hD : va_D A [(h0, .inr (3, [.ref q2, .int 0])), (q2, .inr (0, [.ref qa, .int 0, .int 0, .int 0]))] := hD
  refine W.widen (k := 1) (n := 4) (Nat.le_of_ble_eq_true rfl) (Nat.le_of_ble_eq_true rfl) ?_
  exact W.vret hx hb hr (fun t ht hW => ⟨⟨(), rfl, trivial, trivial⟩, hS.F ht⟩) hS.2.2 d_PA_init_21
set_option maxHeartbeats 4000000 in
set_option maxRecDepth 100000 in
/-- GlyphLines$Directory.<init> -/
theorem c_DI_init (l : Launch) (dC : Nat → ClassId) (dI : Nat → Nat → Nat) (h0 qa : Nat) (sz : Nat) : Met l y_DI_init s_DI_init ({ frames := 10, cells := 2, slots := 8, locals := 300 }) (va_Pc [.ref h0, .ref qa] (fun U => U.heap.size = sz ∧ va_P (dC, dI) cls_ [(h0, .inr (2, [.null, .null, .int 0]))] U.heap ∧ va_K (dC, dI) cls_ [] U ∧ va_D (fun _ => True) [(h0, .inr (2, [.null, .null, .int 0]))])) (va_Qv (fun _ : Unit => True) (fun (_ : Unit) (t : State) => ∃ q1 q2, va_P (dC, dI) cls_ [(h0, .inr (2, [.ref q1, .ref q2, .int 0])), (q1, .inr (0, [.ref qa, .int 0, .int 0, .int 0]))] t.heap ∧ va_K (dC, dI) cls_ [] t ∧ va_D (va_A [(h0, .inr (2, [.null, .null, .int 0]))] sz) [(h0, .inr (2, [.ref q1, .ref q2, .int 0])), (q1, .inr (0, [.ref qa, .int 0, .int 0, .int 0]))]) (va_A [(h0, .inr (2, [.null, .null, .int 0]))] sz)) 2 8 (va_A [(h0, .inr (2, [.null, .null, .int 0]))] sz) := by
  refine Met.ofW (cc := b_DI_init) (maxL := 2) (ret := none) (by decide) rfl ?_
  intro p e s m args below meth c s₁ B hml hv
  obtain ⟨rfl, hsz, hP, hK, hD0⟩ := hv
  have hx := B.exec
  have hb := B.bytes
  have hr := B.returns
  have hts := atoms_spec (ws := s_DI_init) B.pre
  have hown : s.vm.findClass R_DI = some m.cls := findClass_of_methodNamed B.named
  have hlocks := B.notSynchronized
  have hin : meth.name = "<init>" := (name_of_methodNamed B.named B.method).1
  subst hsz
  have hD := hD0.self (sz := s.heap.size)
  generalize hAe : va_A [(h0, .inr (2, [.null, .null, .int 0]))] s.heap.size = A at hD ⊢
  have hA : ∀ q : Nat, s.heap.size ≤ q → A q := fun q h => by rw [← hAe]; exact Or.inr h
  have hS : va_S A s.heap s.heap [] := va_S.rf
  have hP : va_P (dC, dI) cls_ [(h0, .inr (2, [.null, .null, .int 0]))] s.heap := hP
  have hl := lv_entry ([.ref h0, .ref qa]) (n := 2) (Nat.le_of_ble_eq_true rfl)
  rw [lg_entry_eq]
  generalize (lg_sl ([.ref h0, .ref qa]) ++ List.replicate (2 - (lg_sl ([.ref h0, .ref qa])).length) Slot.unset).toArray = ls at hl ⊢
  have hl : lv_has ls 2 [(0, .ref h0), (1, .ref qa)] := hl
  refine lv_aload_n hx hb d_DI_init_0 rfl (lv_at hl 0 rfl) ?_
  refine W.objInit hx hb hown (hts _ (List.mem_cons_of_mem _ w_41)) (hts _ (List.mem_cons_of_mem _ w_28)) (hts _ (List.mem_cons_of_mem _ w_29)) rfl (by rw [hml]; exact hl.1) rfl d_DI_init_1 (Nat.le_of_ble_eq_true rfl) (Nat.le_of_ble_eq_true rfl) ?_
  refine W.eq (g2 := F0 m 4 ls []) rfl ?_
  refine lv_aload_n hx hb d_DI_init_4 rfl (lv_at hl 0 rfl) ?_
  refine lv_iconst (v := 0) hx hb d_DI_init_5 (by decide) ?_
  refine va_put (D := (dC, dI)) (ci := 2) (v := .int 0) (ty := .int) (C := R_DI) (T := F_DI) (N := 3) hx hb hts in_DI t_DI t_DI_ok n_DI hown hK hP hD hS 0 rfl rfl 2 (by decide) (hts _ (List.mem_cons_of_mem _ w_71)) (fun _ h9 => h9) rfl  (by decide +kernel) rfl rfl (Nat.le_of_ble_eq_true rfl) d_DI_init_6 (fun H locs hP hD hS => ?_)
  have hP : va_P (dC, dI) cls_ [(h0, .inr (2, [.null, .null, .int 0]))] H := hP
  have hD : va_D A [(h0, .inr (2, [.null, .null, .int 0]))] := hD
  refine lv_aload_n hx hb d_DI_init_9 rfl (lv_at hl 0 rfl) ?_
  refine va_new (ci := 0) (fs := [.null, .int 0, .int 0, .int 0]) (C := R_SP) (T := F_SP) (N := 4) hx hb hts in_SP t_SP t_SP_ok hown (hts _ (List.mem_cons_of_mem _ w_42)) (hts _ (List.mem_cons_of_mem _ w_43)) (hts _ (List.mem_cons_of_mem _ w_4)) hK hP hD hS hA rfl (fun j hj => by rcases (show j = 0 ∨ j = 1 ∨ j = 2 ∨ j = 3 by omega) with rfl | rfl | rfl | rfl <;> rfl) (Nat.le_of_ble_eq_true rfl) (Nat.le_of_ble_eq_true rfl) d_DI_init_10 (fun q3 H hP hD hS => ?_)
  have hP : va_P (dC, dI) cls_ [(h0, .inr (2, [.null, .null, .int 0])), (q3, .inr (0, [.null, .int 0, .int 0, .int 0]))] H := hP
  have hD : va_D A [(h0, .inr (2, [.null, .null, .int 0])), (q3, .inr (0, [.null, .int 0, .int 0, .int 0]))] := hD
  refine lv_dup hx hb d_DI_init_13 rfl ?_
  refine lv_aload_n hx hb d_DI_init_14 rfl (lv_at hl 1 rfl) ?_
  have hPc := hP.sub (ws' := [(q3, .inr (0, [.null, .int 0, .int 0, .int 0]))]) [1] rfl
  have hDc := hD.sub (ws' := [(q3, .inr (0, [.null, .int 0, .int 0, .int 0]))]) [1] (by decide) rfl
  have hKc := hK.sub (tys' := []) [] rfl
  have hFc := va_free (wc := [(q3, .inr (0, [.null, .int 0, .int 0, .int 0]))]) hD hS hA [1] rfl
  refine va_callv (va_runI (As := [.ref qa]) (rest := [.ref q3, .ref h0]) ⟨hx, hb, hml, hown, hts⟩ (c_SP_init l dC dI q3 qa H.size) (cwI 1 hts (tw_in w_46) rfl rfl rfl (hts _ (List.mem_cons_of_mem _ w_4)) (hts _ (List.mem_cons_of_mem _ w_44)) (hts _ (List.mem_cons_of_mem _ w_45)) rfl (by decide +kernel) ⟨Nat.le_of_ble_eq_true rfl, Nat.le_of_ble_eq_true rfl⟩) ⟨fun a U g mk q => by obtain ⟨q0, q1, qP, qK, qD⟩ := q; exact ⟨q0, q1, qP, va_K.moved (u := U) (U := U.calling g mk a) (Vm.Alike.refl U.vm) qK, qD⟩, fun U hU hW => ⟨rfl, by rw [hU], by rw [hU]; exact hPc, va_K.moved hW.alike hKc, hDc.weaken (fun _ _ _ _ => trivial)⟩⟩ rfl rfl hl.1 rfl (lv_room (Nat.le_of_ble_eq_true rfl)) d_DI_init_15 ⟨Nat.le_of_ble_eq_true rfl, Nat.le_of_ble_eq_true rfl⟩) hS (fun q _ h => hFc q h) hFc (fun u t H1 locs ht hvm hw hB hz1 hk1 hS => ?_)
  obtain ⟨hP1, hK1, hD1⟩ := hB
  rw [ht] at hP1
  have hK1 := va_K.moved hvm.symm hK1
  obtain ⟨hP, hD⟩ := va_join (wr := [(h0, .inr (2, [.null, .null, .int 0]))]) (w1 := [(q3, .inr (0, [.ref qa, .int 0, .int 0, .int 0]))]) hP hD [1] [0] rfl rfl (by decide) (by decide) hk1 hFc hP1 hD1
  have hK := (hK.sub (tys' := []) [] rfl).app hK1
  generalize H1 = H at hP hS ⊢
  have hP : va_P (dC, dI) cls_ [(h0, .inr (2, [.null, .null, .int 0])), (q3, .inr (0, [.ref qa, .int 0, .int 0, .int 0]))] H := hP
  have hD : va_D A [(h0, .inr (2, [.null, .null, .int 0])), (q3, .inr (0, [.ref qa, .int 0, .int 0, .int 0]))] := hD
  have hK : va_K (dC, dI) cls_ [] s := hK
  refine va_putF (D := (dC, dI)) (ci := 2) (v := .ref q3) (ty := .object "GlyphLines$Span") (C := R_DI) (T := F_DI) (N := 3) hx hb hts in_DI t_DI t_DI_ok n_DI hown hK hP hD hS 0 rfl rfl 0 (by decide) (hts _ (List.mem_cons_of_mem _ w_69)) (fun _ h9 => h9) rfl hin rfl (by decide +kernel) rfl rfl (Nat.le_of_ble_eq_true rfl) d_DI_init_18 (fun H locs hP hD hS => ?_)
  have hP : va_P (dC, dI) cls_ [(h0, .inr (2, [.ref q3, .null, .int 0])), (q3, .inr (0, [.ref qa, .int 0, .int 0, .int 0]))] H := hP
  have hD : va_D A [(h0, .inr (2, [.ref q3, .null, .int 0])), (q3, .inr (0, [.ref qa, .int 0, .int 0, .int 0]))] := hD
  refine lv_aload_n hx hb d_DI_init_21 rfl (lv_at hl 0 rfl) ?_
  refine va_new (ci := 0) (fs := [.null, .int 0, .int 0, .int 0]) (C := R_SP) (T := F_SP) (N := 4) hx hb hts in_SP t_SP t_SP_ok hown (hts _ (List.mem_cons_of_mem _ w_42)) (hts _ (List.mem_cons_of_mem _ w_43)) (hts _ (List.mem_cons_of_mem _ w_4)) hK hP hD hS hA rfl (fun j hj => by rcases (show j = 0 ∨ j = 1 ∨ j = 2 ∨ j = 3 by omega) with rfl | rfl | rfl | rfl <;> rfl) (Nat.le_of_ble_eq_true rfl) (Nat.le_of_ble_eq_true rfl) d_DI_init_22 (fun q4 H hP hD hS => ?_)
  have hP : va_P (dC, dI) cls_ [(h0, .inr (2, [.ref q3, .null, .int 0])), (q3, .inr (0, [.ref qa, .int 0, .int 0, .int 0])), (q4, .inr (0, [.null, .int 0, .int 0, .int 0]))] H := hP
  have hD : va_D A [(h0, .inr (2, [.ref q3, .null, .int 0])), (q3, .inr (0, [.ref qa, .int 0, .int 0, .int 0])), (q4, .inr (0, [.null, .int 0, .int 0, .int 0]))] := hD
  refine lv_dup hx hb d_DI_init_25 rfl ?_
  refine lv_aload_n hx hb d_DI_init_26 rfl (lv_at hl 1 rfl) ?_
  have hPc := hP.sub (ws' := [(q4, .inr (0, [.null, .int 0, .int 0, .int 0]))]) [2] rfl
  have hDc := hD.sub (ws' := [(q4, .inr (0, [.null, .int 0, .int 0, .int 0]))]) [2] (by decide) rfl
  have hKc := hK.sub (tys' := []) [] rfl
  have hFc := va_free (wc := [(q4, .inr (0, [.null, .int 0, .int 0, .int 0]))]) hD hS hA [2] rfl
  refine va_callv (va_runI (As := [.ref qa]) (rest := [.ref q4, .ref h0]) ⟨hx, hb, hml, hown, hts⟩ (c_SP_init l dC dI q4 qa H.size) (cwI 1 hts (tw_in w_46) rfl rfl rfl (hts _ (List.mem_cons_of_mem _ w_4)) (hts _ (List.mem_cons_of_mem _ w_44)) (hts _ (List.mem_cons_of_mem _ w_45)) rfl (by decide +kernel) ⟨Nat.le_of_ble_eq_true rfl, Nat.le_of_ble_eq_true rfl⟩) ⟨fun a U g mk q => by obtain ⟨q0, q1, qP, qK, qD⟩ := q; exact ⟨q0, q1, qP, va_K.moved (u := U) (U := U.calling g mk a) (Vm.Alike.refl U.vm) qK, qD⟩, fun U hU hW => ⟨rfl, by rw [hU], by rw [hU]; exact hPc, va_K.moved hW.alike hKc, hDc.weaken (fun _ _ _ _ => trivial)⟩⟩ rfl rfl hl.1 rfl (lv_room (Nat.le_of_ble_eq_true rfl)) d_DI_init_27 ⟨Nat.le_of_ble_eq_true rfl, Nat.le_of_ble_eq_true rfl⟩) hS (fun q _ h => hFc q h) hFc (fun u t H1 locs ht hvm hw hB hz1 hk1 hS => ?_)
  obtain ⟨hP1, hK1, hD1⟩ := hB
  rw [ht] at hP1
  have hK1 := va_K.moved hvm.symm hK1
  obtain ⟨hP, hD⟩ := va_join (wr := [(h0, .inr (2, [.ref q3, .null, .int 0])), (q3, .inr (0, [.ref qa, .int 0, .int 0, .int 0]))]) (w1 := [(q4, .inr (0, [.ref qa, .int 0, .int 0, .int 0]))]) hP hD [2] [0, 1] rfl rfl (by decide) (by decide) hk1 hFc hP1 hD1
  have hK := (hK.sub (tys' := []) [] rfl).app hK1
  generalize H1 = H at hP hS ⊢
  have hP : va_P (dC, dI) cls_ [(h0, .inr (2, [.ref q3, .null, .int 0])), (q3, .inr (0, [.ref qa, .int 0, .int 0, .int 0])), (q4, .inr (0, [.ref qa, .int 0, .int 0, .int 0]))] H := hP
  have hD : va_D A [(h0, .inr (2, [.ref q3, .null, .int 0])), (q3, .inr (0, [.ref qa, .int 0, .int 0, .int 0])), (q4, .inr (0, [.ref qa, .int 0, .int 0, .int 0]))] := hD
  have hK : va_K (dC, dI) cls_ [] s := hK
  refine va_putF (D := (dC, dI)) (ci := 2) (v := .ref q4) (ty := .object "GlyphLines$Span") (C := R_DI) (T := F_DI) (N := 3) hx hb hts in_DI t_DI t_DI_ok n_DI hown hK hP hD hS 0 rfl rfl 1 (by decide) (hts _ (List.mem_cons_of_mem _ w_70)) (fun _ h9 => h9) rfl hin rfl (by decide +kernel) rfl rfl (Nat.le_of_ble_eq_true rfl) d_DI_init_30 (fun H locs hP hD hS => ?_)
  have hP : va_P (dC, dI) cls_ [(h0, .inr (2, [.ref q3, .ref q4, .int 0])), (q3, .inr (0, [.ref qa, .int 0, .int 0, .int 0])), (q4, .inr (0, [.ref qa, .int 0, .int 0, .int 0]))] H := hP
  have hD : va_D A [(h0, .inr (2, [.ref q3, .ref q4, .int 0])), (q3, .inr (0, [.ref qa, .int 0, .int 0, .int 0])), (q4, .inr (0, [.ref qa, .int 0, .int 0, .int 0]))] := hD
  refine W.widen (k := 2) (n := 8) (Nat.le_of_ble_eq_true rfl) (Nat.le_of_ble_eq_true rfl) ?_
  have hP9 := hP.sub (ws' := [(h0, .inr (2, [.ref q3, .ref q4, .int 0])), (q3, .inr (0, [.ref qa, .int 0, .int 0, .int 0]))]) [0, 1] rfl
  have hD9 := hD.sub (ws' := [(h0, .inr (2, [.ref q3, .ref q4, .int 0])), (q3, .inr (0, [.ref qa, .int 0, .int 0, .int 0]))]) [0, 1] (by decide) rfl
  have hK9 := hK.sub (tys' := []) [] rfl
  exact W.vret hx hb hr (fun t ht hW => ⟨⟨(), rfl, trivial, q3, q4, by rw [ht]; exact hP9, va_K.moved hW.alike hK9, hD9⟩, hS.F ht⟩) hS.2.2 d_DI_init_33
