/-! Methods that throw, and the law's own catch: rows of mine over the library's laws (ctorThrowS, outOfThrown, leaveThrown). -/
section TH1
variable {e : Env} {s : State} {f : JFrame} {a : Addr}
/-- the search for a handler, the tables moving with it -/
def th_Finds (e : Env) (s : State) (f : JFrame) (a : Addr) (h : Handler) (s' : State) : Prop :=
  ∀ (Q : Handler → Pre) (E : CtlPost) (d : Bool) (acts : List Action), wp (findHandler f a) Q E e d acts s ↔ Q h d acts s'
theorem th_go {x : ExceptionTableEntry} {t : List ExceptionTableEntry} {cT : ClassId} {vm' : Vm} {cell : Cell} (hx : covers x f.pc = true) (h0 : x.catchType ≠ 0)
    (hg : (Jvm.resolveClass f.method.cls x.catchType).Gives e.toSetting s.vm (.ok cT) vm') (hsz : vm'.classes.size ≤ s.vm.classes.size)
    (hcell : s.heap[a]? = some cell) (hobj : ∀ k, cell.vm ≠ .statics k) (hk : ∃ k, vm'.classes[cell.cls]? = some k) (hc : ∃ k, vm'.classes[cT]? = some k) (hfit : vm'.assignable cell.cls cT = true)
    {Q : Handler → Pre} {E : CtlPost} {d : Bool} {acts : List Action} :
    wp (findHandler.go f a (x :: t)) Q E e d acts s ↔ Q (.found x.handlerPc) d acts (s.setVm vm') := by
  obtain ⟨ha, ht⟩ := hg.op (op := VmOp.resolveClass f.method.cls x.catchType) rfl
  simp only [covers] at hx
  simp [findHandler.go, hx, h0, ha, ht, hsz, hcell, hobj, hk, hc, hfit, VmOp.dirties, VmOp.acts]
theorem th_step {s' : State} {r : List Frame} {pc : Nat} (hfind : th_Finds e s f a (.found pc) s') :
    (stepThrowing e s a (.java f :: r)).Is (s'.setFrames (.java { f with pc := pc, stack := [.ref a] } :: r)) [] := by
  simp only [stepThrowing, searchFrame, vmDo]
  generalize hr : Sem.go _ e false [] s = res
  obtain ⟨as, rfl, ha⟩ := Sem.eq_ok_of hr (a := Handler.found pc) (s' := s') (acts' := []) (by simp [hfind _ _ _ _])
  exact ⟨rfl, ha⟩
end TH1
section TH2
variable {p : Program} {l : Launch} {e : Env} {R : Room} {s : State} {m : MethodId} {args : Array Value} {below : List Frame} {meth : Method} {c : Code} {T : State} {locs : List Loc} {cells slots : Nat}
/-- the first entry of the method's own table takes it: its class is resolved, now or before -/
theorem th_catch (X : Stand p l e R s m args below meth c T locs cells slots) {x : Addr} {g : JFrame} (hg : g.method = m) {own nm : String} (hown : s.vm.findClass own = some m.cls)
    {ent : ExceptionTableEntry} {rest : List ExceptionTableEntry} (htab : c.exceptionTable.toList = ent :: rest) (hcov : covers ent g.pc = true) (h0 : ent.catchType ≠ 0)
    (hlink : (Cond.classLink own ent.catchType nm).before args s = true) {cell : Cell} {cT : ClassId} (hcell : T.heap[x]? = some cell) (hobj : cell.vm.isStatics = false)
    (hcT : s.vm.findClass nm = some cT) (hasg : s.vm.assignable cell.cls cT = true) :
    ∃ vm', Stand p l e R s m args below meth c (T.setVm vm') locs cells slots ∧
      ∀ target, Steps p.tables e below ((T.setVm vm').setTop { g with pc := ent.handlerPc, stack := [.ref x] }) target → Steps p.tables e below ((T.setTop g).pushFrame (.throwing x)) target := by
  have hpl : e.platform.magicAccessors = ({} : Platform).magicAccessors := by rw [X.admits.platform]
  obtain ⟨c', hc', hcl⟩ := Cond.classLink_spec hown hlink e.platform hpl
  cases hcT.symm.trans hc'
  obtain ⟨dk, _, _, kt, hd, _, _, _, _, hkt, _, hopen⟩ := hcl.here
  obtain ⟨ks, hks⟩ := Vm.classAt_of_assignable hasg ⟨kt, hkt⟩
  have hcl₀ := X.warmed.classLinks hcl
  have hW' : s.WarmedH (T.vm.noted m.cls ent.catchType (.cls cT)) := X.warmed.noted hd hopen (State.rightAt_cls hcl)
  obtain ⟨ks', hks', -⟩ := hW'.alike.2.2 _ _ hks
  obtain ⟨kt', hkt', -⟩ := hW'.alike.2.2 _ _ hkt
  have h1 : (T.vm.noted m.cls ent.catchType (Resolved.cls cT)).assignable cell.cls cT = true := by rw [hW'.alike.assignable]; exact hasg
  refine ⟨_, X.noted hW', fun target hrest => ?_⟩
  have h : At T g.method c below := by rw [hg]; exact X.here
  obtain ⟨hgo, hw⟩ := h.throwing x
  have hm' : T.vm.method? g.method = some meth := by rw [hg]; exact X.method'
  have hfind : th_Finds e ((T.setTop g).pushFrame (.throwing x)) g x (.found ent.handlerPc) (((T.setTop g).pushFrame (.throwing x)).setVm (T.vm.noted m.cls ent.catchType (.cls cT))) := by
    intro Q E d acts
    rw [Jvm.W.findHandler_eq (meth := meth) (code := c) (by rw [Stand.throwing_vm]; exact hm') X.code, htab]
    exact th_go (cT := cT) (cell := cell) hcov h0 (by rw [Stand.throwing_vm, hg]; exact resolveClass_links e.toSetting hcl₀) (by rw [Stand.throwing_vm]; simp [Vm.noted]) (by rw [Stand.throwing_heap]; exact hcell) (VmData.ne_statics_of hobj) ⟨ks', hks'⟩ ⟨kt', hkt'⟩ h1
  refine Steps.head hgo hw ?_
  rw [stepThread_throwing (frames_entered h.top _), (th_step (s := (T.setTop g).pushFrame (.throwing x)) hfind).1]
  obtain ⟨g₀, hg0⟩ := Option.isSome_iff_exists.mp h.top
  obtain ⟨r, hr⟩ := State.topJava?_eq_some.mp hg0
  have hr' : (T.setVm (T.vm.noted m.cls ent.catchType (.cls cT))).frames = .java g₀ :: r := hr
  rw [State.setTop_of_frames _ hr'] at hrest
  have e1 : ((((T.setTop g).pushFrame (.throwing x)).setVm (T.vm.noted m.cls ent.catchType (.cls cT))).setFrames (.java { g with pc := ent.handlerPc, stack := [.ref x] } :: T.frames.tail)) = (T.setVm (T.vm.noted m.cls ent.catchType (.cls cT))).setFrames (.java { g with pc := ent.handlerPc, stack := [.ref x] } :: r) := by
    rw [State.pushFrame, State.setTop_of_frames _ hr, State.setFrames_setFrames, hr]
    show ((T.setVm (T.vm.noted m.cls ent.catchType (.cls cT))).setFrames _).setFrames _ = _
    rw [State.setFrames_setFrames]
    rfl
  rw [e1]
  exact hrest
/-- what a method leaves that throws a new object of the class X -/
def th_End (X : String) (mc ms : Nat) (st : State) (o : Outcome) (t : State) : Prop :=
  ∃ (b : Addr) (cell : Cell), o = .threw b ∧ t.heap[b]? = some cell ∧ cell.vm.isStatics = false ∧ st.vm.findClass X = some cell.cls ∧ st.WarmedH t.vm ∧ st.sameButNew ({ t with vm := st.vm } : State) [] mc ms
/-- the contract of a method that throws -/
def th_Met (l : Launch) (y : MethodName) (ws : List Cond) (rm : Room) (Pc : Array Value → State → Prop) (X : String) (mc ms : Nat) : Prop :=
  MetFree l y (headSpec ws rm) Pc (fun _ _ _ _ _ => True) (fun _ st o t => th_End X mc ms st o t)
def th_Q (below : List Frame) (X : String) (mc ms : Nat) (s : State) : State → Prop := fun t =>
  ∃ o, t.status = .running ∧ Ended t below o ∧ th_End X mc ms s o t
theorem th_ofW {y : MethodName} {ws ws' : List Cond} {rm : Room} {Pc : Array Value → State → Prop} {Xc : String} {mc ms : Nat} {cc : ByteArray} {maxL : Nat} {ret : Option FieldType}
    (hy : plainName y.cls = true) (hw : ws = Cond.code y cc maxL ret :: ws')
    (body : ∀ p e s m args below meth c s₁, BodyLoose p l y (headSpec ws rm) cc maxL ret e s m args below meth c s₁ → c.maxLocals = maxL → Pc args s →
      W p l e (headSpec ws rm).room s m args below meth c s.heap [] 0 0 (th_Q below Xc mc ms s) (entryFrame m args maxL)) : th_Met l y ws rm Pc Xc mc ms := by
  refine MetFree.of_bodyS (code := cc) (maxLocals := maxL) (ret := ret) hy ?_ ?_
  · intro args s m h hn
    obtain ⟨meth, c, h1, h2, h3, h4, h5, h6, -, -⟩ := Cond.code_spec hn (atoms_spec (ws := ws) h _ (by rw [hw]; exact List.mem_cons_self))
    exact ⟨meth, c, h1, h2, h3, h4, h5, h6⟩
  · intro p e s m args below meth c s₁ B hml hP _
    have hh0 : s₁.heap = s.heap := by rw [B.state]; rfl
    obtain ⟨t, a1, o, b1, b2, b3⟩ := body p e s m args below meth c s₁ B hml hP s₁ hh0 (Stand.of_body B)
    exact ⟨t, o, a1, b1, b2, b3⟩
/-- 'invokevirtual' of a method that throws: back in the caller, the note over its frame -/
theorem th_callV (X : Stand p l e R s m args below meth c T locs cells slots) (hexec : p.tables.exec = Jvm.exec) {own C Xc : String} {index maxL mc ms n : Nat} {y : MethodName} {bytes : ByteArray} {ret : Option FieldType} {ws : List Cond} {rm : Room} {Pc : Array Value → State → Prop}
    (hown : s.vm.findClass own = some m.cls) (hM : th_Met l y ws rm Pc Xc mc ms) (cw : CallW R s args own C index y bytes maxL ret ws rm mc ms n)
    {b : Addr} {As rest : List Value} (hp : PreV s T.heap C b Pc As) {g : JFrame} (hg : g.method = m) (hn : As.length = n) (hsize : g.locals.size = c.maxLocals)
    (hstack : g.stack = As.reverse ++ .ref b :: rest) (hW : 2 * g.monitorRoom + (rest.map fun v => v.category).sum ≤ 8) (hdg : decode c.code g.pc = .ok (.invokevirtual index, 3)) (hf : cells + mc ≤ R.cells ∧ slots + ms ≤ R.slots) :
    ∃ (x : Addr) (cell : Cell) (T' : State), Stand p l e R s m args below meth c T' locs (cells + mc) (slots + ms) ∧ T'.heap[x]? = some cell ∧ cell.vm.isStatics = false ∧ s.vm.findClass Xc = some cell.cls ∧
      T.sameButNew (T'.setVm T.vm) [] mc ms ∧ Steps p.tables e below (T.setTop g) ((T'.setTop { g with stack := rest }).pushFrame (.throwing x)) := by
  obtain ⟨⟨hrc, hrs, hfr, hlo, hws, hcw, hcode, hini, hy, hlen, hl⟩, hin, hse⟩ := cw
  obtain ⟨hbl, ⟨cellB, hcB, hoB, hclB⟩, hPc⟩ := hp
  obtain ⟨mk, methM, hnamed, hmethM, hstM, habM⟩ := Cond.instanceMethod_spec hin
  obtain ⟨methM', cM, hmethM', hcM, -, hlM, -, -, -, hsigM⟩ := Cond.code_spec hnamed hcode
  cases hmethM.symm.trans hmethM'
  obtain ⟨c2, r2, m2, q1, q2, q3, q4, kP, hkP, hkPi⟩ := Cond.selects_spec hse
  cases hclB.symm.trans q1
  cases (State.methodFound?_of_named hnamed hy).symm.trans q2
  cases hnamed.symm.trans q3
  have hselP : selectMethod e.platform s.vm cellB.cls mk = .method mk := by rw [Launch.admits_selectMethod X.admits]; exact q4
  obtain ⟨vm₁, X₁, hstep₁⟩ := X.invokevirtual hexec hown hl hnamed hmethM hstM hkP hkPi hy (a := b) (cell := cellB) hcB
    (fun z h => by rw [h] at hoB; cases hoB) hselP hmethM habM hkP hkPi (g := g) hg (argsL := As) (rest := rest) (hn.trans (hlen _ hsigM)) hstack hdg
  have hnamed₁ := X₁.named hnamed
  have hinit₁ : (Cond.initialized y.cls).before args (T.setVm vm₁) = true := word_at X₁.warmed (Or.inl (by first | rfl | simp [Cond.onTables, Cond.keeps, Cond.steady])) hini
  obtain ⟨kY, hkY, -⟩ := className_of_methodNamed hnamed₁
  have hinitY : kY.init = .initialized := Cond.initialized_spec (findClass_of_methodNamed hnamed₁) hkY hinit₁
  have h : At (T.setVm vm₁) ({ g with stack := rest } : JFrame).method c below := by
    show At (T.setVm vm₁) g.method c below
    rw [hg]; exact X₁.here
  have happ : (headSpec ws rm).appliesLoose y e.platform ((T.setVm vm₁).calling { g with stack := rest } mk (Value.ref b :: As).toArray) = true :=
    Spec.appliesLoose_calling (g := { g with stack := rest }) h hdg hnamed₁ hkY hinitY
      (X₁.room_calling (g := { g with stack := rest }) (R' := rm) hsize (show (T.setVm vm₁).vm.method? mk = some methM by
        have q := X₁.warmed.alike.method? (m := mk)
        rw [q]; exact hmethM) hcM hfr (by rw [hlM]; show 2 * g.monitorRoom + (rest.map fun v => v.category).sum + (maxL + 11) + rm.locals ≤ R.locals; omega) (by rw [hrc]; exact hf.1) (by rw [hrs]; exact hf.2))
      (atoms_intro fun w hw => hws w hw _ _ X₁.warmed)
  obtain ⟨mid, hmid⟩ := h.above
  have hfr2 : ((T.setVm vm₁).setTop { g with stack := rest }).frames = (.java { g with stack := rest } :: mid) ++ below := by rw [State.frames_setTop' _ h.top, hmid]; rfl
  obtain ⟨o, s₂, hsteps, -, hend, hq⟩ := Steps.callFree hM p X.admits X.cas X.clock (acts := []) hfr2 happ (hbl _ _ { g with stack := rest } mk (hPc (T.setVm vm₁) rfl X₁.warmed)) trivial
  obtain ⟨x, cell, rfl, hcell, hobj, hcls, hWm, hsame⟩ := hq
  rw [State.frames_setTop' _ h.top] at hend
  have htail : (T.setVm vm₁).frames.tail = below := X₁.tail
  rw [htail] at hend
  obtain ⟨T', X', hW', hsame', rfl⟩ := X₁.outOfThrown (g := { g with stack := rest }) hg hend hWm hsame
  refine ⟨x, cell, T', by simpa using X', ?_, hobj, ?_, hsame'.setVm T.vm, hstep₁ _ fun acts => by rw [doInvoke_state]; exact hsteps⟩
  · rw [← Stand.throwing_heap T' { g with stack := rest } x]; exact hcell
  · have q : ((T.setVm vm₁).calling { g with stack := rest } mk (Value.ref b :: As).toArray).vm.findClass Xc = s.vm.findClass Xc := X₁.warmed.alike.findClass Xc _
    rw [← q]; exact hcls
/-- where nothing of the old heap may have changed: cell by cell -/
theorem th_same {T T' : State} {mc ms : Nat} (h : T.sameButNew (T'.setVm T.vm) [] mc ms) : T.heap.size ≤ T'.heap.size ∧ ∀ q : Nat, q < T.heap.size → T'.heap[q]? = T.heap[q]? := by
  obtain ⟨-, h2, -, -, -, h6⟩ := h
  refine ⟨h2, fun q hq => ?_⟩
  have hc : T.heap[q]? = some T.heap[q] := Array.getElem?_eq_getElem hq
  obtain ⟨c', g1, g2, g3, g4⟩ := h6 q _ hc
  have g1' : T'.heap[q]? = some c' := g1
  rw [g1', hc]
  congr 1
  have e : c'.slots = (T.heap[q]).slots := by
    apply Array.ext_getElem?
    intro i
    exact g4 i (by simp)
  rw [g2, e]
end TH2
section TH3
variable {p : Program} {l : Launch} {e : Env} {R : Room} {s : State} {m : MethodId} {args : Array Value} {below : List Frame} {meth : Method} {c : Code} {H : Heap} {locs : List Loc} {cells slots : Nat} {Q : State → Prop}
variable {own C Xc : String} {index maxL mc ms n nL pc : Nat} {y : MethodName} {bytes cc : ByteArray} {ret : Option FieldType} {ws Ts : List Cond} {rm : Room} {Pc : Array Value → State → Prop} {b : Addr} {As rest : List Value} {ls : Array Slot}
/-- a call of a method that throws, no handler here: out of this method too -/
theorem th_passV (S : CallFix p m c cc nL s args Ts own) (hM : th_Met l y ws rm Pc Xc mc ms) (cw : CallW R s args own C index y bytes maxL ret ws rm mc ms n) (hp : PreV s s.heap C b Pc As)
    (hn : As.length = n) (hsize : ls.size = nL) (hW : (rest.map fun v => v.category).sum ≤ 8) (hdg : decode cc pc = .ok (.invokevirtual index, 3)) (hf : mc ≤ R.cells ∧ ms ≤ R.slots)
    (hnoh : c.exceptionTable.isEmpty = true) (hlocks : meth.locks = false) :
    W p l e R s m args below meth c s.heap [] 0 0 (th_Q below Xc mc ms s) (F0 m pc ls (As.reverse ++ .ref b :: rest)) := by
  obtain ⟨hx, hb, hml, ho, -⟩ := S
  intro T hT X
  obtain ⟨x, cell, T', X', hcell, hobj, hcls, hsame, hst⟩ := th_callV X hx ho hM cw (by rw [hT]; exact hp) (g := F0 m pc ls (As.reverse ++ .ref b :: rest)) rfl hn (by rw [hml]; exact hsize) (rest := rest) rfl (by show 2 * 0 + _ ≤ 8; omega) (by rw [hb]; exact hdg) (by rw [Nat.zero_add, Nat.zero_add]; exact hf)
  have hnil : c.exceptionTable.toList = [] := by
    have := hnoh
    simpa using this
  obtain ⟨h1, h2, h3, h4, h5⟩ := X'.leaveThrown x (g := F0 m pc ls rest) rfl rfl rfl (by rw [hnil]; intro z hz; cases hz) hlocks
  refine ⟨_, hst.trans h1, .threw x, h2, h3, x, cell, rfl, hcell, hobj, hcls, h4, ?_⟩
  simpa using h5
/-- a call of a method that throws, taken by the first entry of the caller's own table -/
theorem th_takeV (S : CallFix p m c cc nL s args Ts own) (hM : th_Met l y ws rm Pc Xc mc ms) (cw : CallW R s args own C index y bytes maxL ret ws rm mc ms n) (hp : PreV s H C b Pc As)
    (hn : As.length = n) (hsize : ls.size = nL) (hW : (rest.map fun v => v.category).sum ≤ 8) (hdg : decode cc pc = .ok (.invokevirtual index, 3)) (hf : cells + mc ≤ R.cells ∧ slots + ms ≤ R.slots)
    {ent : ExceptionTableEntry} {ents : List ExceptionTableEntry} (htab : c.exceptionTable.toList = ent :: ents) (hcov : covers ent pc = true) (h0 : ent.catchType ≠ 0) (hlink : (Cond.classLink own ent.catchType Xc).before args s = true)
    (kk : ∀ (x : Nat) (H1 : Heap), H.size ≤ H1.size → (∀ q : Nat, q < H.size → H1[q]? = H[q]?) → W p l e R s m args below meth c H1 locs (cells + mc) (slots + ms) Q (F0 m ent.handlerPc ls [.ref x])) :
    W p l e R s m args below meth c H locs cells slots Q (F0 m pc ls (As.reverse ++ .ref b :: rest)) := by
  obtain ⟨hx, hb, hml, ho, -⟩ := S
  intro T hT X
  obtain ⟨x, cell, T', X', hcell, hobj, hcls, hsame, hst⟩ := th_callV X hx ho hM cw (by rw [hT]; exact hp) (g := F0 m pc ls (As.reverse ++ .ref b :: rest)) rfl hn (by rw [hml]; exact hsize) (rest := rest) rfl (by show 2 * 0 + _ ≤ 8; omega) (by rw [hb]; exact hdg) hf
  obtain ⟨z1, z2⟩ := th_same hsame
  obtain ⟨vm', X2, hst2⟩ := th_catch X' (g := F0 m pc ls rest) rfl ho htab hcov h0 hlink hcell hobj hcls (va_asg _ _)
  obtain ⟨t, a1, b1⟩ := kk x T'.heap (by rw [← hT]; exact z1) (by rw [← hT]; exact z2) (T'.setVm vm') rfl X2
  exact ⟨t, hst.trans (hst2 t a1), b1⟩
/-- 'throw new X("..")' at a method's begin, nothing written yet, no handler -/
theorem th_throwS (hexec : p.tables.exec = Jvm.exec) (htr : e.platform.stackTraces = false) (hb : c.code = cc) (hml : c.maxLocals = ls.size) (hown : s.vm.findClass own = some m.cls) {names : List String} {inew ildc ic q : Nat} {tx : String}
    (hcls : Bundle.fit Xc = true) (hnames : ∀ n ∈ names, Bundle.fit n = true) (h : ∀ a ∈ Bundle.ownAtoms own ic Xc names, a.before args s = true)
    (hcl : (Cond.classLink own inew Xc).before args s = true) (hini : (Cond.initialized Xc).before args s = true) (hZ : vk_R own ildc tx q s)
    (hnoh : c.exceptionTable.isEmpty = true) (hlocks : meth.locks = false)
    (d0 : decode cc pc = .ok (.new inew, 3)) (d3 : decode cc (pc + 3) = .ok (.dup, 1)) (d4 : decode cc (pc + 4) = .ok (.ldc ildc, 2)) (d6 : decode cc (pc + 6) = .ok (.invokespecial ic, 3)) (d9 : decode cc (pc + 9) = .ok (.athrow, 1))
    (hRframes : names.length + 3 < R.frames) (hRlocals : 1 + (rest.map fun v => v.category).sum + (13 * (names.length + 1) + 42) ≤ R.locals) (hRc : 1 ≤ R.cells) (hRs : 6 ≤ R.slots) :
    W p l e R s m args below meth c s.heap [] 0 0 (th_Q below Xc 1 6 s) (F0 m pc ls rest) := by
  have hins : (Cond.instantiable Xc 6).before args s = true := h _ (by simp [Bundle.ownAtoms])
  refine W.newc hexec hb hown hcl hins hini rfl d0 (by omega) (by omega) fun cC kC h1 h2 h3 h4 => ?_
  refine lv_dup hexec hb d3 rfl ?_
  refine va_ldcS hexec hb hown hZ d4 ?_
  intro T hT X
  have hcell : T.heap[s.heap.size]? = some (freshCell cC kC) := by rw [hT]; simp [freshCell]
  obtain ⟨U, u1, u2, u3, u4, u5, ce, u6, u7⟩ := X.ctorThrowS hexec htr hown hcls hnames h (fun z hz => by cases hz) h1 h2 hcell (Nat.le_refl _) (msg := .ref q) rfl
    (g := F0 m (pc + 6) ls (.ref q :: .ref s.heap.size :: .ref s.heap.size :: rest)) rfl (by rw [hml]) rfl rfl (rest := rest) rfl (by rw [hb]; exact d6) (by rw [hb]; exact d9)
    (by
      have hnil : c.exceptionTable.toList = [] := by
        have := hnoh
        simpa using this
      rw [hnil]; intro z hz; cases hz) hRframes (by show 2 * 0 + _ + _ ≤ _; simp only [List.map_cons, List.sum_cons]; show 2 * 0 + (1 + _) + _ ≤ _; omega) hlocks
  refine ⟨U, u1, .threw s.heap.size, u2, u3, s.heap.size, ce, rfl, u6, by rw [u7.vm]; rfl, u7.cls, u4, ?_⟩
  simpa using u5
end TH3
section TH4
variable {p : Program} {l : Launch} {e : Env} {R : Room} {s : State} {m : MethodId} {args : Array Value} {below : List Frame} {meth : Method} {c : Code} {H : Heap} {locs : List Loc} {cells slots : Nat}
variable {own : String} {index maxL mc ms n nL : Nat} {y : MethodName} {bytes cc : ByteArray} {ret : Option FieldType} {hh : List (Nat × Nat × Nat × Nat)} {ws ws' Ts : List Cond} {rm : Room} {Pc : Array Value → State → Prop} {Qc : Array Value → State → Outcome → State → Prop} {free : Addr → Prop} {As rest : List Value} {g : JFrame}
/-- 'invokestatic' of a method with an exception table, that returns -/
theorem th_runSW (S : CallFix p m c cc nL s args Ts own) (hM : Met l y ws rm Pc Qc mc ms free) (hG : GoodIn Ts ws) (hw : ws = Cond.codeWith y bytes maxL ret hh :: ws') (hrc : rm.cells = mc) (hrs : rm.slots = ms)
    (hl : (Cond.methodLink own index y).before args s = true) (hst : (Cond.static y).before args s = true) (hini : (Cond.initialized y.cls).before args s = true)
    (hy : y.cls ≠ "java/lang/invoke/MethodHandle" ∧ y.cls ≠ "java/lang/invoke/VarHandle") (hpar : (parseMethodDescriptor y.desc).map (fun d => d.parameters.length) = some n) (hR : rm.frames + 1 ≤ R.frames ∧ 8 + (maxL + 11) + rm.locals ≤ R.locals)
    (hp : PreS s H Pc As) (hg : g.method = m) (hn : As.length = n) (hsize : g.locals.size = nL) (hstack : g.stack = As.reverse ++ rest) (hW : 2 * g.monitorRoom + (rest.map fun v => v.category).sum ≤ 8) (hdg : decode cc g.pc = .ok (.invokestatic index, 3)) (hf : cells + mc ≤ R.cells ∧ slots + ms ≤ R.slots) :
    va_Run p l e R s m args below meth c H locs cells slots mc ms g rest (Qc As.toArray) (free) := by
  obtain ⟨hx, hb, hml, ho, hts⟩ := S
  have hcw : Cond.codeWith y bytes maxL ret hh ∈ ws := by rw [hw]; exact List.mem_cons_self
  have hcode := hts _ (hG _ hcw).1
  have hK : Back l R p e below s args y 3 8 (PreOf R mc ms Pc) (PostOf Qc mc ms free) := va_backW (hh := hh) (bytes := bytes) (maxL := maxL) (ret := ret) hM hp.1 hrc hrs hR.1 hR.2 (pay_in hts hG) hcw (fun a' U hW => word_at hW (Or.inl (by first | rfl | simp [Cond.onTables, Cond.keeps, Cond.steady])) hini)
  intro T hT X
  obtain ⟨mk, methM, cM, hnamed, hmethM, -, -, -, -, -, -, hsigM⟩ := Cond.codeWith_spec hcode
  have hstatic : methM.isStatic = true := Cond.static_spec hnamed hmethM hst
  obtain ⟨kP, hkP, -⟩ := className_of_methodNamed hnamed
  have hinitP : kP.init = .initialized := Cond.initialized_spec (findClass_of_methodNamed hnamed) hkP hini
  have hlen : As.length = methM.sig.parameters.length := by
    rw [hsigM] at hpar
    exact hn.trans (Option.some.inj hpar).symm
  obtain ⟨vm₁, X₁, hstep₁⟩ := X.invokestatic hx ho hl hnamed hmethM hstatic hkP hinitP hy (g := g) hg (argsL := As) (rest := rest) hlen hstack (by rw [hb]; exact hdg)
  obtain ⟨v, ⟨U', l2, c2, s2⟩, X', ⟨g', mk', t, L, e1, e2, hq, h1, hL, h2, h3⟩, hsteps⟩ := hK m meth c ⟨T.setVm vm₁, locs, cells, slots⟩ { g with stack := rest } (.invokestatic index) mk As.toArray X₁ hg (hsize.trans hml.symm) (by rw [hb]; exact hdg) hW (X₁.named hnamed) ⟨hf.1, hf.2, hp.2 (T.setVm vm₁) hT X₁.warmed⟩
  dsimp only [Pt.U, Pt.locs, Pt.cells, Pt.slots] at X' e1 e2 h1 h2 h3 hsteps
  subst h1; subst h2; subst h3
  exact ⟨v, (T.setVm vm₁).calling g' mk' As.toArray, t, U', L, hT, X', hL, e1, e2, hq, fun target h => hstep₁ _ fun acts => by rw [doInvoke_state]; exact hsteps.trans h⟩
end TH4
/-! Methods that return or throw, anywhere in their run: the invocation's state is taken anew where the throw begins. -/
section RT1
variable {p : Program} {l : Launch} {e : Env} {R : Room} {s : State} {m : MethodId} {args : Array Value} {below : List Frame} {meth : Method} {c : Code} {T : State} {locs : List Loc} {cells slots : Nat}
theorem rt_hears {u U : State} (hvm : u.vm.Alike U.vm) (h : u.hears m below = true) : U.hears m below = true := by
  unfold State.hears at h ⊢
  split at h <;> simp_all [State.code?_eq, hvm.method?]
/-- the run from here on, as if the method began here -/
theorem rt_base (X : Stand p l e R s m args below meth c T locs cells slots) {R' : Room} (h1 : R'.frames ≤ R.frames) (h2 : R'.locals ≤ R.locals) (h3 : cells + R'.cells ≤ R.cells) (h4 : slots + R'.slots ≤ R.slots) :
    Stand p l e R' (T.setFrames (.invoking m args :: below)) m args below meth c T [] 0 0 := by
  obtain ⟨g₀, hg⟩ := Option.isSome_iff_exists.mp X.here.top
  obtain ⟨r, hr⟩ := State.topJava?_eq_some.mp hg
  obtain ⟨t, ht, -⟩ := State.frames_cons hr
  have hcur : T.cur < T.threads.size := State.cur_lt_of_frames hr
  have hfr : (T.setFrames (.invoking m args :: below)).frames = .invoking m args :: below := State.frames_setFrames _ hcur
  refine ⟨X.admits, X.cas, X.clock, hfr, ?_, rt_hears (U := T.setFrames (.invoking m args :: below)) X.warmed.alike X.hears, X.method', X.code, X.here, X.tail, State.WarmedH.refl _, by rw [State.stackLimits_setFrames], by rw [State.stackBytes_setFrames], ?_⟩
  · have hb : (T.setFrames (.invoking m args :: below)).slotsTrue = true := X.book
    have q := X.room
    have e1 := State.localsInUse_invoking X.frames X.method X.code
    have e2 := State.localsInUse_invoking hfr (show (T.setFrames (.invoking m args :: below)).vm.method? m = some meth from X.method') X.code
    have e3 := X.heapSize
    have e4 := X.used
    have e5 := X.limits
    have e6 := X.bytes
    simp only [State.hasRoom, Bool.and_eq_true, decide_eq_true_eq] at q ⊢
    rw [State.stackLimits_setFrames, State.stackBytes_setFrames, e2, hfr, hb, e5, e6]
    rw [e1, X.frames] at q
    obtain ⟨⟨⟨⟨q1, q2, q3, q4, q5, q6⟩, q7⟩, q8⟩, -⟩ := q
    have e7 : (T.setFrames (.invoking m args :: below)).heap.size = T.heap.size := rfl
    have e8 : (T.setFrames (.invoking m args :: below)).slotsUsed = T.slotsUsed := rfl
    rw [e7, e8]
    refine ⟨⟨⟨⟨by omega, by omega, by omega, by omega, by omega, q6⟩, by omega⟩, by omega⟩, rfl⟩
  · have h := ((State.sameButNew.refl T ht).setFrames (.invoking m args :: below) hcur)
    have k : (T.setFrames (.invoking m args :: below)).sameButNew ((T.setFrames (.invoking m args :: below)).setFrames T.frames) [] 0 0 := by
      obtain ⟨t2, ht2, -⟩ := State.frames_cons hfr
      exact (State.sameButNew.refl _ ht2).setFrames T.frames (State.cur_lt_of_frames hfr)
    rw [State.setFrames_setFrames] at k
    have e9 : T.setFrames T.frames = T.setVm (T.setFrames (.invoking m args :: below)).vm := by
      show T.setFrames T.frames = T
      exact State.setFrames_self ht
    rw [e9] at k
    exact k
end RT1
section RT2
variable {e : Env} {s : State} {f : JFrame} {a : Addr}
/-- an entry whose class doesn't fit is passed -/
theorem th_skip {x : ExceptionTableEntry} {t : List ExceptionTableEntry} {cT : ClassId} {vm' : Vm} {cell : Cell} (hx : covers x f.pc = true) (h0 : x.catchType ≠ 0)
    (hg : (Jvm.resolveClass f.method.cls x.catchType).Gives e.toSetting s.vm (.ok cT) vm') (hsz : vm'.classes.size ≤ s.vm.classes.size)
    (hcell : s.heap[a]? = some cell) (hobj : ∀ k, cell.vm ≠ .statics k) (hk : ∃ k, vm'.classes[cell.cls]? = some k) (hc : ∃ k, vm'.classes[cT]? = some k) (hfit : vm'.assignable cell.cls cT = false)
    {Q : Handler → Pre} {E : CtlPost} {d : Bool} {acts : List Action} :
    wp (findHandler.go f a (x :: t)) Q E e d acts s ↔ wp (findHandler.go f a t) Q E e d acts (s.setVm vm') := by
  obtain ⟨ha, ht⟩ := hg.op (op := VmOp.resolveClass f.method.cls x.catchType) rfl
  simp only [covers] at hx
  simp [findHandler.go, hx, h0, ha, ht, hsz, hcell, hobj, hk, hc, hfit, VmOp.dirties, VmOp.acts]
end RT2
section RT3
variable {p : Program} {l : Launch} {e : Env} {R : Room} {s : State} {m : MethodId} {args : Array Value} {below : List Frame} {meth : Method} {c : Code} {T : State} {locs : List Loc} {cells slots : Nat}
/-- the second entry takes it, the first doesn't -/
theorem th_catch2 (X : Stand p l e R s m args below meth c T locs cells slots) {x : Addr} {g : JFrame} (hg : g.method = m) {own n1 n2 : String} (hown : s.vm.findClass own = some m.cls)
    {e1 e2 : ExceptionTableEntry} {rest : List ExceptionTableEntry} (htab : c.exceptionTable.toList = e1 :: e2 :: rest) (hcov1 : covers e1 g.pc = true) (h01 : e1.catchType ≠ 0) (hcov2 : covers e2 g.pc = true) (h02 : e2.catchType ≠ 0)
    (hlink1 : (Cond.classLink own e1.catchType n1).before args s = true) (hlink2 : (Cond.classLink own e2.catchType n2).before args s = true) {cell : Cell} {cT1 cT2 : ClassId} (hcell : T.heap[x]? = some cell) (hobj : cell.vm.isStatics = false)
    (hcT1 : s.vm.findClass n1 = some cT1) (hcT2 : s.vm.findClass n2 = some cT2) (hno : s.vm.assignable cell.cls cT1 = false) (hasg : s.vm.assignable cell.cls cT2 = true) :
    ∃ vm', Stand p l e R s m args below meth c (T.setVm vm') locs cells slots ∧
      ∀ target, Steps p.tables e below ((T.setVm vm').setTop { g with pc := e2.handlerPc, stack := [.ref x] }) target → Steps p.tables e below ((T.setTop g).pushFrame (.throwing x)) target := by
  have hpl : e.platform.magicAccessors = ({} : Platform).magicAccessors := by rw [X.admits.platform]
  obtain ⟨c1', hc1', hcl1⟩ := Cond.classLink_spec hown hlink1 e.platform hpl
  obtain ⟨c2', hc2', hcl2⟩ := Cond.classLink_spec hown hlink2 e.platform hpl
  cases hcT1.symm.trans hc1'
  cases hcT2.symm.trans hc2'
  obtain ⟨dk1, _, _, kt1, hd1, _, _, _, _, hkt1, _, hopen1⟩ := hcl1.here
  obtain ⟨dk2, _, _, kt2, hd2, _, _, _, _, hkt2, _, hopen2⟩ := hcl2.here
  obtain ⟨ks, hks⟩ := Vm.classAt_of_assignable hasg ⟨kt2, hkt2⟩
  have hl1 := X.warmed.classLinks hcl1
  have hW1 : s.WarmedH (T.vm.noted m.cls e1.catchType (.cls cT1)) := X.warmed.noted hd1 hopen1 (State.rightAt_cls hcl1)
  have X1 := X.noted hW1
  have hl2 := X1.warmed.classLinks hcl2
  have hW2 : s.WarmedH ((T.vm.noted m.cls e1.catchType (.cls cT1)).noted m.cls e2.catchType (.cls cT2)) := X1.warmed.noted hd2 hopen2 (State.rightAt_cls hcl2)
  obtain ⟨ks1, hks1, -⟩ := hW1.alike.2.2 _ _ hks
  obtain ⟨kt1', hkt1', -⟩ := hW1.alike.2.2 _ _ hkt1
  obtain ⟨ks2, hks2, -⟩ := hW2.alike.2.2 _ _ hks
  obtain ⟨kt2', hkt2', -⟩ := hW2.alike.2.2 _ _ hkt2
  have q1 : (T.vm.noted m.cls e1.catchType (Resolved.cls cT1)).assignable cell.cls cT1 = false := by rw [hW1.alike.assignable]; exact hno
  have q2 : ((T.vm.noted m.cls e1.catchType (Resolved.cls cT1)).noted m.cls e2.catchType (.cls cT2)).assignable cell.cls cT2 = true := by rw [hW2.alike.assignable]; exact hasg
  refine ⟨_, X.noted hW2, fun target hrest => ?_⟩
  have h : At T g.method c below := by rw [hg]; exact X.here
  obtain ⟨hgo, hw⟩ := h.throwing x
  have hm' : T.vm.method? g.method = some meth := by rw [hg]; exact X.method'
  have hfind : th_Finds e ((T.setTop g).pushFrame (.throwing x)) g x (.found e2.handlerPc) (((T.setTop g).pushFrame (.throwing x)).setVm ((T.vm.noted m.cls e1.catchType (.cls cT1)).noted m.cls e2.catchType (.cls cT2))) := by
    intro Q E d acts
    rw [Jvm.W.findHandler_eq (meth := meth) (code := c) (by rw [Stand.throwing_vm]; exact hm') X.code, htab]
    rw [th_skip (cT := cT1) (cell := cell) (vm' := T.vm.noted m.cls e1.catchType (.cls cT1)) hcov1 h01 (by rw [Stand.throwing_vm, hg]; exact resolveClass_links e.toSetting hl1) (by rw [Stand.throwing_vm]; simp [Vm.noted]) (by rw [Stand.throwing_heap]; exact hcell) (VmData.ne_statics_of hobj) ⟨ks1, hks1⟩ ⟨kt1', hkt1'⟩ q1]
    exact th_go (cT := cT2) (cell := cell) (s := ((T.setTop g).pushFrame (.throwing x)).setVm (T.vm.noted m.cls e1.catchType (.cls cT1))) hcov2 h02 (by rw [hg]; exact resolveClass_links e.toSetting hl2) (by show _ ≤ (T.vm.noted m.cls e1.catchType (.cls cT1)).classes.size; simp [Vm.noted]) (by show ((T.setTop g).pushFrame (.throwing x)).heap[x]? = _; rw [Stand.throwing_heap]; exact hcell) (VmData.ne_statics_of hobj) ⟨ks2, hks2⟩ ⟨kt2', hkt2'⟩ q2
  refine Steps.head hgo hw ?_
  rw [stepThread_throwing (frames_entered h.top _), (th_step (s := (T.setTop g).pushFrame (.throwing x)) hfind).1]
  obtain ⟨g₀, hg0⟩ := Option.isSome_iff_exists.mp h.top
  obtain ⟨r, hr⟩ := State.topJava?_eq_some.mp hg0
  generalize (T.vm.noted m.cls e1.catchType (.cls cT1)).noted m.cls e2.catchType (.cls cT2) = vv at hrest ⊢
  have hr' : (T.setVm vv).frames = .java g₀ :: r := hr
  rw [State.setTop_of_frames _ hr'] at hrest
  have e9 : ((((T.setTop g).pushFrame (.throwing x)).setVm vv).setFrames (.java { g with pc := e2.handlerPc, stack := [.ref x] } :: T.frames.tail)) = (T.setVm vv).setFrames (.java { g with pc := e2.handlerPc, stack := [.ref x] } :: r) := by
    rw [State.pushFrame, State.setTop_of_frames _ hr, State.setFrames_setFrames, hr]
    show ((T.setVm vv).setFrames _).setFrames _ = _
    rw [State.setFrames_setFrames]
    rfl
  rw [e9]
  exact hrest
/-- what a method leaves that returns, or throws a new object of one of the classes XS -/
def rt_Q (Kv : Option Value → Prop) (XS : List String) (B : State → Prop) (A : Nat → Prop) (mc ms : Nat) (st : State) (o : Outcome) (t : State) : Prop :=
  ((∃ v, o = .returned v ∧ Kv v) ∨ ∃ (b : Addr) (cell : Cell) (X : String), X ∈ XS ∧ o = .threw b ∧ t.heap[b]? = some cell ∧ cell.vm.isStatics = false ∧ st.vm.findClass X = some cell.cls) ∧ B t ∧ va_F A st t ∧ st.WarmedH t.vm ∧ ∃ L, st.sameButNew ({ t with vm := st.vm } : State) L mc ms ∧ ∀ q ∈ L, A q.base
def rt_Met (l : Launch) (y : MethodName) (ws : List Cond) (rm : Room) (Pc : Array Value → State → Prop) (Kv : Option Value → Prop) (XS : List String) (B : State → Prop) (A : Nat → Prop) (mc ms : Nat) : Prop :=
  MetFree l y (headSpec ws rm) Pc (fun _ _ _ _ _ => True) (fun _ st o t => rt_Q Kv XS B A mc ms st o t)
def rt_MQ (below : List Frame) (Kv : Option Value → Prop) (XS : List String) (B : State → Prop) (A : Nat → Prop) (mc ms : Nat) (s : State) : State → Prop := fun t =>
  ∃ o, t.status = .running ∧ Ended t below o ∧ rt_Q Kv XS B A mc ms s o t
def rt_Ki : Option Value → Prop := fun v => ∃ r : Int32, v = some (.int r)
def rt_Kl : Option Value → Prop := fun v => ∃ r : Int64, v = some (.long r)
variable {Kv : Option Value → Prop} {XS : List String} {B : State → Prop} {A : Nat → Prop} {mc ms : Nat} {H : Heap} {g : JFrame}
theorem rt_ofW {y : MethodName} {ws ws' : List Cond} {rm : Room} {Pc : Array Value → State → Prop} {cc : ByteArray} {maxL : Nat} {ret : Option FieldType}
    (hy : plainName y.cls = true) (hw : ws = Cond.code y cc maxL ret :: ws')
    (body : ∀ p e s m args below meth c s₁, BodyLoose p l y (headSpec ws rm) cc maxL ret e s m args below meth c s₁ → c.maxLocals = maxL → Pc args s →
      W p l e (headSpec ws rm).room s m args below meth c s.heap [] 0 0 (rt_MQ below Kv XS B A mc ms s) (entryFrame m args maxL)) : rt_Met l y ws rm Pc Kv XS B A mc ms := by
  refine MetFree.of_bodyS (code := cc) (maxLocals := maxL) (ret := ret) hy ?_ ?_
  · intro args s m h hn
    obtain ⟨meth, c, h1, h2, h3, h4, h5, h6, -, -⟩ := Cond.code_spec hn (atoms_spec (ws := ws) h _ (by rw [hw]; exact List.mem_cons_self))
    exact ⟨meth, c, h1, h2, h3, h4, h5, h6⟩
  · intro p e s m args below meth c s₁ B hml hP _
    have hh0 : s₁.heap = s.heap := by rw [B.state]; rfl
    obtain ⟨t, a1, o, b1, b2, b3⟩ := body p e s m args below meth c s₁ B hml hP s₁ hh0 (Stand.of_body B)
    exact ⟨t, o, a1, b1, b2, b3⟩
/-- a way that returns an int -/
theorem rt_reti (k : W p l e R s m args below meth c H locs cells slots (MQ below (va_Qi (fun (_ : Int32) (_ : Unit) => True) (fun (_ : Unit) t => B t) A) args s mc ms A) g) : W p l e R s m args below meth c H locs cells slots (rt_MQ below rt_Ki XS B A mc ms s) g := by
  intro T hT X
  obtain ⟨t, a1, o, b1, b2, ⟨⟨r, u, hv, -, hb⟩, hF⟩, L, hE, hL⟩ := k T hT X
  exact ⟨t, a1, o, b1, b2, Or.inl ⟨_, hv, r, rfl⟩, hb, hF, hE.2.1, L, hE.2.2, hL⟩
/-- a way that returns a long -/
theorem rt_retl (k : W p l e R s m args below meth c H locs cells slots (MQ below (va_Ql (fun (_ : Int64) (_ : Unit) => True) (fun (_ : Unit) t => B t) A) args s mc ms A) g) : W p l e R s m args below meth c H locs cells slots (rt_MQ below rt_Kl XS B A mc ms s) g := by
  intro T hT X
  obtain ⟨t, a1, o, b1, b2, ⟨⟨r, u, hv, -, hb⟩, hF⟩, L, hE, hL⟩ := k T hT X
  exact ⟨t, a1, o, b1, b2, Or.inl ⟨_, hv, r, rfl⟩, hb, hF, hE.2.1, L, hE.2.2, hL⟩
/-- a way that throws: the method as if it began here -/
theorem rt_rebase {Xc : String} (hX : Xc ∈ XS) (hS : va_S A s.heap H locs) (hB : ∀ t : State, s.WarmedH t.vm → (∀ q : Nat, q < H.size → t.heap[q]? = H[q]?) → B t)
    (k : ∀ s' : State, s'.heap = H → s.WarmedH s'.vm → W p l e R s' m args below meth c s'.heap [] 0 0 (th_Q below Xc mc ms s') g) : W p l e R s m args below meth c H locs 0 0 (rt_MQ below Kv XS B A mc ms s) g := by
  intro T hT X
  have Y := rt_base X (R' := R) (Nat.le_refl _) (Nat.le_refl _) (by omega) (by omega)
  obtain ⟨t, a1, o, b1, b2, x, cell, ho, c1, c2, c3, c4, c5⟩ := k (T.setFrames (.invoking m args :: below)) hT X.warmed T rfl Y
  have e0 : (T.setFrames (.invoking m args :: below)).heap = H := hT
  obtain ⟨z1, z2⟩ := th_same (T := T.setFrames (.invoking m args :: below)) (T' := t) c5
  rw [e0] at z1 z2
  have hW : s.WarmedH t.vm := State.WarmedH.trans X.warmed c4
  obtain ⟨g₀, hr⟩ := X.frames_eq
  obtain ⟨th, hth, -⟩ := State.frames_cons hr
  have hcur : T.cur < T.threads.size := State.cur_lt_of_frames hr
  have k1 : T.sameButNew (T.setFrames (.invoking m args :: below)) [] 0 0 := (State.sameButNew.refl T hth).setFrames _ hcur
  have k2 : T.sameButNew ({ t with vm := T.vm } : State) ([] ++ []) (0 + mc) (0 + ms) := k1.trans c5
  have k3 := X.same.trans (k2.setVm s.vm)
  refine ⟨t, a1, o, b1, b2, Or.inr ⟨x, cell, Xc, hX, ho, c1, c2, ?_⟩, hB t hW z2, ⟨Nat.le_trans hS.1 z1, fun q h1 h2 => (z2 q (Nat.lt_of_lt_of_le h1 hS.1)).trans (hS.2.1 q h1 h2)⟩, hW, locs, ?_, hS.2.2⟩
  · have q : (T.setFrames (.invoking m args :: below)).vm.findClass Xc = s.vm.findClass Xc := X.warmed.alike.findClass Xc _
    rw [← q]; exact c3
  · have k4 : s.sameButNew ({ t with vm := s.vm } : State) (locs ++ ([] ++ [])) (0 + (0 + mc)) (0 + (0 + ms)) := k3
    simpa using k4
theorem rt_keep {D : va_G} {cl : List vw_C} {ws : va_W} {H1 : Heap} (h : va_P D cl ws H) (hk : ∀ q : Nat, q < H.size → H1[q]? = H[q]?) : va_P D cl ws H1 := h.kept (fun k q hq => hk _ (h k q hq).lt)
theorem rt_words {c1 : Cond} {s' : State} (g1 : goodWord c1 = true) (hts : ∀ w ∈ c1 :: tw_T, w.before args s = true) (hW : s.WarmedH s'.vm) : ∀ w ∈ c1 :: tw_T, w.before args s' = true := fun w hw => by
  rcases List.mem_cons.mp hw with rfl | h
  · exact word_at hW (good_of_word g1) (hts _ List.mem_cons_self)
  · exact word_at hW (good_of_word (tw_good h)) (hts _ (List.mem_cons_of_mem _ h))
/-- 'invokevirtual' of a method that returns or throws -/
theorem rt_callV (X : Stand p l e R s m args below meth c T locs cells slots) (hexec : p.tables.exec = Jvm.exec) {own C : String} {index maxL n : Nat} {y : MethodName} {bytes : ByteArray} {ret : Option FieldType} {ws : List Cond} {rm : Room} {Pc : Array Value → State → Prop}
    (hown : s.vm.findClass own = some m.cls) (hM : rt_Met l y ws rm Pc Kv XS B A mc ms) (cw : CallW R s args own C index y bytes maxL ret ws rm mc ms n)
    {b : Addr} {As rest : List Value} (hp : PreV s T.heap C b Pc As) (hg : g.method = m) (hn : As.length = n) (hsize : g.locals.size = c.maxLocals)
    (hstack : g.stack = As.reverse ++ .ref b :: rest) (hW : 2 * g.monitorRoom + (rest.map fun v => v.category).sum ≤ 8) (hdg : decode c.code g.pc = .ok (.invokevirtual index, 3)) (hf : cells + mc ≤ R.cells ∧ slots + ms ≤ R.slots) :
    ∃ (t T' : State) (L : List Loc), Stand p l e R s m args below meth c T' (locs ++ L) (cells + mc) (slots + ms) ∧ (∀ q ∈ L, A q.base) ∧ t.heap = T'.heap ∧ t.vm = T'.vm ∧ B t ∧ T.heap.size ≤ T'.heap.size ∧ (∀ q : Nat, q < T.heap.size → ¬ A q → T'.heap[q]? = T.heap[q]?) ∧
      ((∃ v, Kv v ∧ ∀ target, Steps p.tables e below (T'.setTop { g with pc := g.pc + 3, stack := v.toList ++ rest }) target → Steps p.tables e below (T.setTop g) target) ∨
       (∃ (x : Addr) (cell : Cell) (Xc : String), Xc ∈ XS ∧ T'.heap[x]? = some cell ∧ cell.vm.isStatics = false ∧ s.vm.findClass Xc = some cell.cls ∧ Steps p.tables e below (T.setTop g) ((T'.setTop { g with stack := rest }).pushFrame (.throwing x)))) := by
  obtain ⟨⟨hrc, hrs, hfr, hlo, hws, hcw, hcode, hini, hy, hlen, hl⟩, hin, hse⟩ := cw
  obtain ⟨hbl, ⟨cellB, hcB, hoB, hclB⟩, hPc⟩ := hp
  obtain ⟨mk, methM, hnamed, hmethM, hstM, habM⟩ := Cond.instanceMethod_spec hin
  obtain ⟨methM', cM, hmethM', hcM, -, hlM, -, -, -, hsigM⟩ := Cond.code_spec hnamed hcode
  cases hmethM.symm.trans hmethM'
  obtain ⟨c2, r2, m2, q1, q2, q3, q4, kP, hkP, hkPi⟩ := Cond.selects_spec hse
  cases hclB.symm.trans q1
  cases (State.methodFound?_of_named hnamed hy).symm.trans q2
  cases hnamed.symm.trans q3
  have hselP : selectMethod e.platform s.vm cellB.cls mk = .method mk := by rw [Launch.admits_selectMethod X.admits]; exact q4
  obtain ⟨vm₁, X₁, hstep₁⟩ := X.invokevirtual hexec hown hl hnamed hmethM hstM hkP hkPi hy (a := b) (cell := cellB) hcB
    (fun z h => by rw [h] at hoB; cases hoB) hselP hmethM habM hkP hkPi (g := g) hg (argsL := As) (rest := rest) (hn.trans (hlen _ hsigM)) hstack hdg
  have hnamed₁ := X₁.named hnamed
  have hinit₁ : (Cond.initialized y.cls).before args (T.setVm vm₁) = true := word_at X₁.warmed (Or.inl (by first | rfl | simp [Cond.onTables, Cond.keeps, Cond.steady])) hini
  obtain ⟨kY, hkY, -⟩ := className_of_methodNamed hnamed₁
  have hinitY : kY.init = .initialized := Cond.initialized_spec (findClass_of_methodNamed hnamed₁) hkY hinit₁
  have h : At (T.setVm vm₁) ({ g with stack := rest } : JFrame).method c below := by
    show At (T.setVm vm₁) g.method c below
    rw [hg]; exact X₁.here
  have happ : (headSpec ws rm).appliesLoose y e.platform ((T.setVm vm₁).calling { g with stack := rest } mk (Value.ref b :: As).toArray) = true :=
    Spec.appliesLoose_calling (g := { g with stack := rest }) h hdg hnamed₁ hkY hinitY
      (X₁.room_calling (g := { g with stack := rest }) (R' := rm) hsize (show (T.setVm vm₁).vm.method? mk = some methM by
        have q := X₁.warmed.alike.method? (m := mk)
        rw [q]; exact hmethM) hcM hfr (by rw [hlM]; show 2 * g.monitorRoom + (rest.map fun v => v.category).sum + (maxL + 11) + rm.locals ≤ R.locals; omega) (by rw [hrc]; exact hf.1) (by rw [hrs]; exact hf.2))
      (atoms_intro fun w hw => hws w hw _ _ X₁.warmed)
  obtain ⟨mid, hmid⟩ := h.above
  have hfr2 : ((T.setVm vm₁).setTop { g with stack := rest }).frames = (.java { g with stack := rest } :: mid) ++ below := by rw [State.frames_setTop' _ h.top, hmid]; rfl
  obtain ⟨o, s₂, hsteps, -, hend, hq⟩ := Steps.callFree hM p X.admits X.cas X.clock (acts := []) hfr2 happ (hbl _ _ { g with stack := rest } mk (hPc (T.setVm vm₁) rfl X₁.warmed)) trivial
  obtain ⟨ho, hB, hF, hWm, L, hsame, hL⟩ := hq
  rw [State.frames_setTop' _ h.top] at hend
  have htail : (T.setVm vm₁).frames.tail = below := X₁.tail
  rw [htail] at hend
  have hF1 : T.heap.size ≤ s₂.heap.size := hF.1
  have hF2 : ∀ q : Nat, q < T.heap.size → ¬ A q → s₂.heap[q]? = T.heap[q]? := hF.2
  rcases ho with ⟨v, rfl, hv⟩ | ⟨x, cell, Xc, hX, rfl, hcell, hobj, hcls⟩
  · obtain ⟨T', X', hW', hsame', rfl⟩ := X₁.outOf (g := { g with stack := rest }) hg hdg hend hWm hsame
    exact ⟨T'.setTop { g with pc := g.pc + 3, stack := v.toList ++ rest }, T', L, X', hL, rfl, rfl, hB, hF1, hF2, Or.inl ⟨v, hv, fun target ht => hstep₁ _ fun acts => by rw [doInvoke_state]; exact hsteps.trans ht⟩⟩
  · obtain ⟨T', X', hW', hsame', rfl⟩ := X₁.outOfThrown (g := { g with stack := rest }) hg hend hWm hsame
    have eh := Stand.throwing_heap T' { g with stack := rest } x
    have ev := Stand.throwing_vm T' { g with stack := rest } x
    rw [eh] at hF1 hF2 hcell
    refine ⟨_, T', L, X', hL, eh, ev, hB, hF1, hF2, Or.inr ⟨x, cell, Xc, hX, hcell, hobj, ?_, hstep₁ _ fun acts => by rw [doInvoke_state]; exact hsteps⟩⟩
    have q : ((T.setVm vm₁).calling { g with stack := rest } mk (Value.ref b :: As).toArray).vm.findClass Xc = s.vm.findClass Xc := X₁.warmed.alike.findClass Xc _
    rw [← q]; exact hcls
end RT3
section RT4
variable {p : Program} {l : Launch} {e : Env} {R : Room} {s : State} {m : MethodId} {args : Array Value} {below : List Frame} {meth : Method} {c : Code} {H H0 : Heap} {locs : List Loc} {cells slots : Nat} {Q : State → Prop}
variable {own C X1 X2 : String} {index maxL mc ms n nL pc : Nat} {y : MethodName} {bytes cc : ByteArray} {ret : Option FieldType} {ws Ts : List Cond} {rm : Room} {Pc : Array Value → State → Prop} {b : Addr} {As rest : List Value} {ls : Array Slot} {Kv : Option Value → Prop} {B : State → Prop} {A A0 : Nat → Prop} {e1 e2 : ExceptionTableEntry} {ents : List ExceptionTableEntry}
/-- a call of it in a method whose table has two entries -/
theorem rt_take2 (S : CallFix p m c cc nL s args Ts own) (hM : rt_Met l y ws rm Pc Kv [X1, X2] B A mc ms) (cw : CallW R s args own C index y bytes maxL ret ws rm mc ms n) (hp : PreV s H C b Pc As)
    (hn : As.length = n) (hsize : ls.size = nL) (hW : (rest.map fun v => v.category).sum ≤ 8) (hdg : decode cc pc = .ok (.invokevirtual index, 3)) (hf : cells + mc ≤ R.cells ∧ slots + ms ≤ R.slots)
    (htab : c.exceptionTable.toList = e1 :: e2 :: ents) (hcov1 : covers e1 pc = true) (h01 : e1.catchType ≠ 0) (hcov2 : covers e2 pc = true) (h02 : e2.catchType ≠ 0)
    (hl1 : (Cond.classLink own e1.catchType X1).before args s = true) (hl2 : (Cond.classLink own e2.catchType X2).before args s = true) (hS : va_S A0 H0 H locs) (hA : ∀ q, A q → A0 q)
    (kr : ∀ (v : Option Value) (t : State) (H1 : Heap) (locs1 : List Loc), Kv v → t.heap = H1 → s.vm.Alike t.vm → B t → (∀ q : Nat, q < H.size → ¬ A q → H1[q]? = H[q]?) → va_S A0 H0 H1 locs1 → W p l e R s m args below meth c H1 locs1 (cells + mc) (slots + ms) Q (F0 m (pc + 3) ls (v.toList ++ rest)))
    (k1 : ∀ (x : Nat) (t : State) (H1 : Heap) (locs1 : List Loc), t.heap = H1 → s.vm.Alike t.vm → B t → (∀ q : Nat, q < H.size → ¬ A q → H1[q]? = H[q]?) → va_S A0 H0 H1 locs1 → W p l e R s m args below meth c H1 locs1 (cells + mc) (slots + ms) Q (F0 m e1.handlerPc ls [.ref x]))
    (k2 : ∀ (x : Nat) (t : State) (H1 : Heap) (locs1 : List Loc), t.heap = H1 → s.vm.Alike t.vm → B t → (∀ q : Nat, q < H.size → ¬ A q → H1[q]? = H[q]?) → va_S A0 H0 H1 locs1 → W p l e R s m args below meth c H1 locs1 (cells + mc) (slots + ms) Q (F0 m e2.handlerPc ls [.ref x])) :
    W p l e R s m args below meth c H locs cells slots Q (F0 m pc ls (As.reverse ++ .ref b :: rest)) := by
  obtain ⟨hx, hb, hml, ho, -⟩ := S
  intro T hT X
  obtain ⟨t, T', L, X', hL, et, ev, hB, z1, z2, hoc⟩ := rt_callV X hx ho hM cw (by rw [hT]; exact hp) (g := F0 m pc ls (As.reverse ++ .ref b :: rest)) rfl hn (by rw [hml]; exact hsize) (rest := rest) rfl (by show 2 * 0 + _ ≤ 8; omega) (by rw [hb]; exact hdg) hf
  rw [hT] at z1 z2
  have hS' : va_S A0 H0 T'.heap (locs ++ L) := ⟨Nat.le_trans hS.1 z1, fun q h1 h2 => (z2 q (Nat.lt_of_lt_of_le h1 hS.1) (fun z => h2 (hA q z))).trans (hS.2.1 q h1 h2), fun q hq => by
    rcases List.mem_append.mp hq with h | h
    · exact hS.2.2 q h
    · exact hA _ (hL q h)⟩
  have hal : s.vm.Alike t.vm := by rw [ev]; exact X'.warmed.alike
  rcases hoc with ⟨v, hv, hst⟩ | ⟨x, cell, Xc, hX, hcell, hobj, hcls, hst⟩
  · obtain ⟨t2, a1, b1⟩ := kr v t T'.heap (locs ++ L) hv et hal hB z2 hS' T' rfl X'
    exact ⟨t2, hst t2 a1, b1⟩
  · have hpl : e.platform.magicAccessors = ({} : Platform).magicAccessors := by rw [X.admits.platform]
    obtain ⟨c1', hc1', -⟩ := Cond.classLink_spec ho hl1 e.platform hpl
    obtain ⟨c2', hc2', -⟩ := Cond.classLink_spec ho hl2 e.platform hpl
    by_cases hq : s.vm.assignable cell.cls c1' = true
    · obtain ⟨vm', Y, hst2⟩ := th_catch X' (g := F0 m pc ls rest) rfl ho htab hcov1 h01 hl1 hcell hobj hc1' hq
      obtain ⟨t2, a1, b1⟩ := k1 x t T'.heap (locs ++ L) et hal hB z2 hS' (T'.setVm vm') rfl Y
      exact ⟨t2, hst.trans (hst2 t2 a1), b1⟩
    · have hq2 : s.vm.assignable cell.cls c2' = true := by
        rcases List.mem_cons.mp hX with rfl | h
        · cases hcls.symm.trans hc1'
          exact absurd (va_asg _ _) hq
        · rcases List.mem_cons.mp h with rfl | h
          · cases hcls.symm.trans hc2'
            exact va_asg _ _
          · cases h
      obtain ⟨vm', Y, hst2⟩ := th_catch2 X' (g := F0 m pc ls rest) rfl ho htab hcov1 h01 hcov2 h02 hl1 hl2 hcell hobj hc1' hc2' (by simpa using hq) hq2
      obtain ⟨t2, a1, b1⟩ := k2 x t T'.heap (locs ++ L) et hal hB z2 hS' (T'.setVm vm') rfl Y
      exact ⟨t2, hst.trans (hst2 t2 a1), b1⟩
/-- a call of it in a method whose table has one entry -/
theorem rt_take1 (S : CallFix p m c cc nL s args Ts own) (hM : rt_Met l y ws rm Pc Kv [X1] B A mc ms) (cw : CallW R s args own C index y bytes maxL ret ws rm mc ms n) (hp : PreV s H C b Pc As)
    (hn : As.length = n) (hsize : ls.size = nL) (hW : (rest.map fun v => v.category).sum ≤ 8) (hdg : decode cc pc = .ok (.invokevirtual index, 3)) (hf : cells + mc ≤ R.cells ∧ slots + ms ≤ R.slots)
    (htab : c.exceptionTable.toList = e1 :: ents) (hcov1 : covers e1 pc = true) (h01 : e1.catchType ≠ 0)
    (hl1 : (Cond.classLink own e1.catchType X1).before args s = true) (hS : va_S A0 H0 H locs) (hA : ∀ q, A q → A0 q)
    (kr : ∀ (v : Option Value) (t : State) (H1 : Heap) (locs1 : List Loc), Kv v → t.heap = H1 → s.vm.Alike t.vm → B t → (∀ q : Nat, q < H.size → ¬ A q → H1[q]? = H[q]?) → va_S A0 H0 H1 locs1 → W p l e R s m args below meth c H1 locs1 (cells + mc) (slots + ms) Q (F0 m (pc + 3) ls (v.toList ++ rest)))
    (k1 : ∀ (x : Nat) (t : State) (H1 : Heap) (locs1 : List Loc), t.heap = H1 → s.vm.Alike t.vm → B t → (∀ q : Nat, q < H.size → ¬ A q → H1[q]? = H[q]?) → va_S A0 H0 H1 locs1 → W p l e R s m args below meth c H1 locs1 (cells + mc) (slots + ms) Q (F0 m e1.handlerPc ls [.ref x])) :
    W p l e R s m args below meth c H locs cells slots Q (F0 m pc ls (As.reverse ++ .ref b :: rest)) := by
  obtain ⟨hx, hb, hml, ho, -⟩ := S
  intro T hT X
  obtain ⟨t, T', L, X', hL, et, ev, hB, z1, z2, hoc⟩ := rt_callV X hx ho hM cw (by rw [hT]; exact hp) (g := F0 m pc ls (As.reverse ++ .ref b :: rest)) rfl hn (by rw [hml]; exact hsize) (rest := rest) rfl (by show 2 * 0 + _ ≤ 8; omega) (by rw [hb]; exact hdg) hf
  rw [hT] at z1 z2
  have hS' : va_S A0 H0 T'.heap (locs ++ L) := ⟨Nat.le_trans hS.1 z1, fun q h1 h2 => (z2 q (Nat.lt_of_lt_of_le h1 hS.1) (fun z => h2 (hA q z))).trans (hS.2.1 q h1 h2), fun q hq => by
    rcases List.mem_append.mp hq with h | h
    · exact hS.2.2 q h
    · exact hA _ (hL q h)⟩
  have hal : s.vm.Alike t.vm := by rw [ev]; exact X'.warmed.alike
  rcases hoc with ⟨v, hv, hst⟩ | ⟨x, cell, Xc, hX, hcell, hobj, hcls, hst⟩
  · obtain ⟨t2, a1, b1⟩ := kr v t T'.heap (locs ++ L) hv et hal hB z2 hS' T' rfl X'
    exact ⟨t2, hst t2 a1, b1⟩
  · rcases List.mem_cons.mp hX with rfl | h
    · obtain ⟨vm', Y, hst2⟩ := th_catch X' (g := F0 m pc ls rest) rfl ho htab hcov1 h01 hl1 hcell hobj hcls (va_asg _ _)
      obtain ⟨t2, a1, b1⟩ := k1 x t T'.heap (locs ++ L) et hal hB z2 hS' (T'.setVm vm') rfl Y
      exact ⟨t2, hst.trans (hst2 t2 a1), b1⟩
    · cases h
end RT4
