/-- a method throws a new object of the class named E; nothing old is written; at most one cell of six slots is new -/
def xE (E : String) (st : State) (o : Outcome) (t : State) : Prop := ∃ (q : Nat) (ce : Cell), o = .threw q ∧ t.heap[q]? = some ce ∧ ce.vm.isStatics = false ∧ st.vm.findClass E = some ce.cls ∧ st.vm.assignable ce.cls ce.cls = true ∧ st.WarmedH t.vm ∧ st.sameButNew ({ t with vm := st.vm } : State) [] 1 6
def xMet (l : Launch) (y : MethodName) (ws : List Cond) (rm : Room) (Pc : Array Value → State → Prop) (E : String) : Prop := MetFree l y (headSpec ws rm) Pc (fun _ _ _ _ _ => True) (fun _ st o t => xE E st o t)
def xQ (below : List Frame) (E : String) (s : State) : State → Prop := fun t => t.status = .running ∧ ∃ o, Ended t below o ∧ xE E s o t
theorem xMet.ofW {l : Launch} {y : MethodName} {ws ws' : List Cond} {rm : Room} {Pc : Array Value → State → Prop} {E : String} {cc : ByteArray} {maxL : Nat} {ret : Option FieldType}
    (hy : plainFor y = true) (hw : ws = Cond.code y cc maxL ret :: ws')
    (body : ∀ p e s m args below meth c s₁, BodyLoose p l y (headSpec ws rm) cc maxL ret e s m args below meth c s₁ → c.maxLocals = maxL → Pc args s → l.admits e →
      W p l e (headSpec ws rm).room s m args below meth c s.heap [] 0 0 (xQ below E s) (entryFrame m args maxL)) : xMet l y ws rm Pc E := by
  refine MetFree.of_bodySF (code := cc) (maxLocals := maxL) (ret := ret) hy ?_ ?_
  · intro args s m h hn
    obtain ⟨meth, c, h1, h2, h3, h4, h5, h6, -, -⟩ := Cond.code_spec hn (atoms_spec (ws := ws) h _ (by rw [hw]; exact List.mem_cons_self))
    exact ⟨meth, c, h1, h2, h3, h4, h5, h6⟩
  · intro p e s m args below meth c s₁ B hml hP _
    have hh0 : s₁.heap = s.heap := by rw [B.state]; rfl
    obtain ⟨t, a1, b1, o, b2, b3⟩ := body p e s m args below meth c s₁ B hml hP (Stand.of_body B).admits s₁ hh0 (Stand.of_body B)
    exact ⟨t, o, a1, b1, b2, b3⟩
abbrev xI : String := "java/lang/IndexOutOfBoundsException"
abbrev xA : String := "java/lang/IllegalArgumentException"
abbrev xUp : List String := ["java/lang/RuntimeException", "java/lang/Exception"]
abbrev xTn : String := "java/lang/Throwable"
/-- words on the tables that no call hands on by itself -/
def xT : List Cond := [.declares ⟨"java/lang/RuntimeException", "<init>", "(Ljava/lang/String;)V"⟩, .declares ⟨"java/lang/Exception", "<init>", "(Ljava/lang/String;)V"⟩, .declares ⟨xTn, "<init>", "(Ljava/lang/String;)V"⟩, .castable xI xI, .castable xA xA, .not (.castable xA xI)]
def xH : List Cond := [.laysStatic xTn "UNASSIGNED_STACK" "[Ljava/lang/StackTraceElement;", .laysStatic xTn "SUPPRESSED_SENTINEL" "Ljava/util/List;", .isRef (.static xTn "UNASSIGNED_STACK" "[Ljava/lang/StackTraceElement;"), .isRef (.static xTn "SUPPRESSED_SENTINEL" "Ljava/util/List;")]
/-- what a throw asks of the tables and of Throwable's statics -/
def xS (A : Nat → Prop) (U : State) (H : Heap) : Prop :=
  (∀ (V : State) (a : Array Value), U.vm.Alike V.vm → ∀ w ∈ xT, w.before a V = true) ∧
  ∃ (q : Nat) (cell : Cell), H[q]? = some cell ∧ ¬ A q ∧ ∀ (V : State) (a : Array Value), U.vm.Alike V.vm → V.heap[q]? = some cell → ∀ w ∈ xH, w.before a V = true
theorem xS.blind {A : Nat → Prop} {U : State} {g : JFrame} {mk : MethodId} {a : Array Value} (h : xS A U U.heap) : xS A (U.calling g mk a) (U.calling g mk a).heap := h
theorem xS.at {A B : Nat → Prop} {s U : State} {H : Heap} {locs : List Loc} (h : xS A s s.heap) (hS : va_S A s.heap H locs) (hB : ∀ q, B q → A q) (hU : U.heap = H) (hW : s.WarmedH U.vm) : xS B U U.heap := by
  obtain ⟨h1, q, cell, h2, h3, h4⟩ := h
  refine ⟨fun V a hV => h1 V a (hW.alike.trans hV), q, cell, ?_, fun z => h3 (hB q z), fun V a hV => h4 V a (hW.alike.trans hV)⟩
  rw [hU, hS.2.1 q (Array.getElem?_eq_some_iff.mp h2).1 h3]
  exact h2
theorem xS.weak {A B : Nat → Prop} {s : State} {H : Heap} (h : xS A s H) (hB : ∀ q, B q → A q) : xS B s H := by
  obtain ⟨h1, q, cell, h2, h3, h4⟩ := h
  exact ⟨h1, q, cell, h2, fun z => h3 (hB q z), h4⟩
theorem xS.words {A : Nat → Prop} {s : State} (h : xS A s s.heap) (a : Array Value) : ∀ w ∈ xT ++ xH, w.before a s = true := by
  obtain ⟨h1, q, cell, h2, h3, h4⟩ := h
  intro w hw
  rcases List.mem_append.mp hw with hw | hw
  · exact h1 s a (Vm.Alike.refl _) w hw
  · exact h4 s a (Vm.Alike.refl _) h2 w hw
theorem xOwn_I : ∀ w ∈ Jvm.Bundle.ownAtoms "InstructionReader" 48 xI xUp, w ∈ WT ∨ w ∈ xT ++ xH := by decide +kernel
theorem xOwn_A : ∀ w ∈ Jvm.Bundle.ownAtoms "InstructionReader" 69 xA xUp, w ∈ WT ∨ w ∈ xT ++ xH := by decide +kernel
/-- new, dup, ldc, invokespecial, athrow -/
theorem x_throw {p : Program} {l : Launch} {e : Env} {R : Room} {s : State} {m : MethodId} {args : Array Value} {below : List Frame} {meth : Method} {c : Code} {cc : ByteArray} {pc ic jc kc nL : Nat} {ls : Array Slot} {E tx : String} {qs : Nat} {Ts : List Cond}
    (S : CallFix p m c cc nL s args Ts "InstructionReader") (hT : ∀ w ∈ WT, w.before args s = true) (hX : xS no s s.heap) (htr : e.platform.stackTraces = false) (hlocks : meth.locks = false) (hout : ∀ x ∈ c.exceptionTable.toList, covers x (pc + 9) = false)
    (hE : Jvm.Bundle.fit E = true) (hown : ∀ w ∈ Jvm.Bundle.ownAtoms "InstructionReader" ic E xUp, w ∈ WT ∨ w ∈ xT ++ xH) (h1 : Cond.classLink "InstructionReader" jc E ∈ WT) (h2 : Cond.instantiable E 6 ∈ WT) (h3 : Cond.initialized E ∈ WT) (hsx : vk_R "InstructionReader" kc tx qs s)
    (hsz : ls.size = nL) (hR : 6 ≤ R.frames ∧ 1 ≤ R.cells ∧ 6 ≤ R.slots ∧ 100 ≤ R.locals)
    (d0 : decode cc pc = .ok (.new jc, 3)) (d3 : decode cc (pc + 3) = .ok (.dup, 1)) (d4 : decode cc (pc + 4) = .ok (.ldc kc, 2)) (d6 : decode cc (pc + 6) = .ok (.invokespecial ic, 3)) (d9 : decode cc (pc + 9) = .ok (.athrow, 1)) :
    W p l e R s m args below meth c s.heap [] 0 0 (xQ below E s) (F0 m pc ls []) := by
  have hx := S.1
  have hb := S.2.1
  have ho := S.2.2.2.1
  obtain ⟨cX, hcX⟩ : ∃ cX, s.vm.findClass E = some cX := by
    obtain ⟨c1, k1, q1, -⟩ := Cond.instantiable_spec (show (Cond.instantiable E 6).holds args s none s [] = true from hT _ h2)
    exact ⟨c1, q1⟩
  refine W.newcK hx hb ho (hT _ h1) (hT _ h2) (hT _ h3) rfl d0 (by omega) (by omega) hcX rfl (fun H' kC hkC e1 z1 o1 => ?_)
  refine lv_dup hx hb d3 rfl ?_
  refine va_ldcS hx hb ho hsx d4 ?_
  intro T hTh X
  obtain ⟨U, st, hrun, hend, hW, hsame, ce, hce, K⟩ := X.ctorThrowS hx htr (own := "InstructionReader") (cls := E) (names := xUp) (ic := ic) ho hE (by decide +kernel)
    (fun w hw => (hown w hw).elim (hT w) (hX.words args w)) (fun x hx => by cases hx) hcX hkC (a := s.heap.size) (by rw [hTh]; exact e1) (Nat.le_refl _) (msg := .ref qs) rfl
    (g := F0 m (pc + 6) ls [.ref qs, .ref s.heap.size, .ref s.heap.size]) rfl (by rw [S.2.2.1]; exact hsz) rfl rfl (rest := []) rfl (by rw [hb]; exact d6) (by rw [hb]; exact d9) hout (by show 5 < R.frames; omega) (by show 82 ≤ R.locals; omega)
  exact ⟨U, st, hrun, _, hend, s.heap.size, ce, rfl, hce, by rw [K.vm]; rfl, K.cls, K.self, hW, hsame⟩
theorem sbn_heap {s t : State} {k n : Nat} (h : s.sameButNew t [] k n) : s.heap.size ≤ t.heap.size ∧ ∀ q : Nat, q < s.heap.size → t.heap[q]? = s.heap[q]? := by
  obtain ⟨-, h1, -, -, -, h2⟩ := h
  refine ⟨h1, fun q hq => ?_⟩
  obtain ⟨c', e1, e2, e3, e4⟩ := h2 q _ (Array.getElem?_eq_getElem hq)
  rw [e1, Array.getElem?_eq_getElem hq]
  have e5 : c'.slots = s.heap[q].slots := Array.ext_getElem? (fun i => e4 i (fun z => by cases z))
  rw [e2, e5]
section XB
variable {p : Program} {l : Launch} {e : Env} {R : Room} {s : State} {m : MethodId} {args : Array Value} {below : List Frame} {meth : Method} {c : Code} {H : Heap} {locs : List Loc} {cells slots : Nat} {Q : State → Prop} {y : MethodName} {bytes cc : ByteArray} {maxL nL n index : Nat} {ret : Option FieldType} {ws : List Cond} {rm : Room} {Pc : Array Value → State → Prop} {E : String} {Ts : List Cond} {own C : String} {b : Addr} {As rest : List Value} {g : JFrame}
/-- a method that throws, from the call on: the state of the caller under the note of what is thrown -/
theorem x_inv (cb : CallB R s args own index y bytes maxL ret ws rm 1 6 n) (hM : xMet l y ws rm Pc E) (hbl : FrameBlind Pc) {T : State} {mk : MethodId} {a : Array Value} {ig : Instr} (X : Stand p l e R s m args below meth c T locs cells slots)
    (hg : g.method = m) (hsize : g.locals.size = c.maxLocals) (hdg : decode c.code g.pc = .ok (ig, 3)) (hW : 2 * g.monitorRoom + (g.stack.map fun v => v.category).sum ≤ 8) (hn : T.methodNamed? y = some mk) (hf : cells + 1 ≤ R.cells ∧ slots + 6 ≤ R.slots) (hp : Pc a T) :
    ∃ (q : Nat) (ce : Cell) (T' : State), Stand p l e R s m args below meth c T' locs (cells + 1) (slots + 6) ∧ T'.heap[q]? = some ce ∧ ce.vm.isStatics = false ∧ s.vm.findClass E = some ce.cls ∧ s.vm.assignable ce.cls ce.cls = true ∧ T.heap.size ≤ T'.heap.size ∧ (∀ i : Nat, i < T.heap.size → T'.heap[i]? = T.heap[i]?) ∧
      Steps p.tables e below (doInvoke e (T.setTop g) [] mk a).1 ((T'.setTop g).pushFrame (.throwing q)) := by
  obtain ⟨hrc, hrs, hfr, hlo, hws, hcw, -, hini, -⟩ := cb
  have hpre : ∀ w ∈ ws, w.before a T = true := fun w hw => hws w hw _ _ X.warmed
  have hiw : (Cond.initialized y.cls).before a T = true := word_at X.warmed (Or.inl (by first | rfl | simp [Cond.onTables, Cond.keeps, Cond.steady])) hini
  obtain ⟨mY, cY, w1, w2, -, w3, -⟩ := Cond.code_spec hn (hpre _ hcw)
  obtain ⟨kY, w4, -⟩ := className_of_methodNamed hn
  have h : At T g.method c below := by rw [hg]; exact X.here
  obtain ⟨g0, hT0⟩ := X.frames_eq
  have hF : (T.setTop g).frames = [.java g] ++ below := State.frames_setTop g hT0
  have happ : (headSpec ws rm).appliesLoose y e.platform (T.calling g mk a) = true :=
    Spec.appliesLoose_calling (g := g) h hdg hn w4 (Cond.initialized_spec (findClass_of_methodNamed hn) w4 hiw)
      (X.room_calling (g := g) (R' := (headSpec ws rm).room) hsize w1 w2 hfr (by show _ + _ + rm.locals ≤ _; omega) (by rw [show (headSpec ws rm).room.cells = 1 from hrc]; exact hf.1) (by rw [show (headSpec ws rm).room.slots = 6 from hrs]; exact hf.2)) (atoms_intro hpre)
  obtain ⟨o, t, hst, -, hend, q, ce, rfl, h1, h2, h3, h4, hw, hs⟩ := Steps.callFree hM p X.admits X.cas X.clock (acts := []) (mid := [.java g]) (below := below) hF happ (hbl _ _ _ _ hp) trivial
  have hw : T.WarmedH t.vm := hw
  have e1 : t.frames = .throwing q :: ([.java g] ++ below) := by rw [← hF]; exact hend
  have hkeep := sbn_heap hs
  obtain ⟨V, hV⟩ : ∃ V : State, V = { T with heap := t.heap, slotsUsed := t.slotsUsed } := ⟨_, rfl⟩
  have hVf : (V.setVm t.vm).frames = .java g0 :: below := by rw [hV]; exact hT0
  have e2 : t = (V.setVm t.vm).setFrames (.throwing q :: ([.java g] ++ below)) := by
    have z := congrArg (fun u : State => u.setVm t.vm) hs.1
    rw [show (T.setTop g).pushFrame (.invoking mk a) = T.setFrames (.invoking mk a :: .java g :: T.frames.tail) from State.calling_eq h.top g mk a, State.setFrames_setFrames] at z
    rw [hV, ← e1]
    exact z
  have e3 : ((V.setVm t.vm).setTop g).pushFrame (.throwing q) = t := by
    rw [State.pushFrame, State.frames_setTop g hVf, State.setTop_of_frames g hVf, State.setFrames_setFrames]
    exact e2.symm
  have hsame : T.sameButNew ((V.setVm t.vm).setVm T.vm) [] 1 6 := by
    subst hV
    refine ⟨?_, hs.2⟩
    obtain ⟨th, hth, -⟩ := State.frames_cons hT0
    show ({ T with heap := t.heap, slotsUsed := t.slotsUsed } : State) = { T.setFrames T.frames with heap := t.heap, slotsUsed := t.slotsUsed }
    rw [State.setFrames_self hth]
  have X' := X.moved (T₂ := V.setVm t.vm) (by rw [hV]; exact (X.here.setHeapUsed t.heap t.slotsUsed).setVm hw.alike) (by rw [hVf]; rfl) (by rw [hV]; rfl) (by rw [hV]; rfl) hw hsame
  rw [List.append_nil] at X'
  have hVh : (V.setVm t.vm).heap = t.heap := by rw [hV]; rfl
  refine ⟨q, ce, V.setVm t.vm, X', by rw [hVh]; exact h1, h2, ?_, ?_, by rw [hVh]; exact hkeep.1, fun i hi => by rw [hVh]; exact hkeep.2 i hi, by rw [e3]; exact hst⟩
  · rw [← X.warmed.alike.findClass]; exact h3
  · rw [← X.warmed.alike.assignable]; exact h4
/-- a call that throws -/
def xRun (p : Program) (l : Launch) (e : Env) (R : Room) (s : State) (m : MethodId) (args : Array Value) (below : List Frame) (meth : Method) (c : Code) (H : Heap) (locs : List Loc) (cells slots : Nat) (E : String) (g : JFrame) (rest : List Value) : Prop :=
  ∀ T : State, T.heap = H → Stand p l e R s m args below meth c T locs cells slots → ∃ (q : Nat) (ce : Cell) (T' : State), Stand p l e R s m args below meth c T' locs (cells + 1) (slots + 6) ∧ T'.heap[q]? = some ce ∧ ce.vm.isStatics = false ∧ s.vm.findClass E = some ce.cls ∧ s.vm.assignable ce.cls ce.cls = true ∧ H.size ≤ T'.heap.size ∧ (∀ i : Nat, i < H.size → T'.heap[i]? = H[i]?) ∧
    Steps p.tables e below (T.setTop g) ((T'.setTop { g with stack := rest }).pushFrame (.throwing q))
theorem x_runV (S : CallFix p m c cc nL s args Ts own) (hM : xMet l y ws rm Pc E) (cw : CallW R s args own C index y bytes maxL ret ws rm 1 6 n) (hp : PreV s H C b Pc As)
    (hg : g.method = m) (hn : As.length = n) (hsize : g.locals.size = nL) (hstack : g.stack = As.reverse ++ .ref b :: rest) (hW : 2 * g.monitorRoom + (rest.map fun v => v.category).sum ≤ 8) (hdg : decode cc g.pc = .ok (.invokevirtual index, 3)) (hf : cells + 1 ≤ R.cells ∧ slots + 6 ≤ R.slots) :
    xRun p l e R s m args below meth c H locs cells slots E g rest := by
  have hcb := cw.1
  have hbl := hp.1
  obtain ⟨⟨-, -, -, -, -, -, hcode, -, hy, hlen, hl⟩, hin, hse⟩ := cw
  obtain ⟨hx, hb, hml, ho, -⟩ := S
  obtain ⟨-, ⟨cellB, hcB, hoB, hclB⟩, hPc⟩ := hp
  intro T hT X
  obtain ⟨mk, methM, hnamed, hmethM, hstM, habM⟩ := Cond.instanceMethod_spec hin
  obtain ⟨methM', cM, hmethM', -, -, -, -, -, -, hsigM⟩ := Cond.code_spec hnamed hcode
  cases hmethM.symm.trans hmethM'
  obtain ⟨c2, r2, m2, q1, q2, q3, q4, kP, hkP, hkPi⟩ := Cond.selects_spec hse
  cases hclB.symm.trans q1
  cases (State.methodFound?_of_named hnamed hy).symm.trans q2
  cases hnamed.symm.trans q3
  have hselP : selectMethod e.platform s.vm cellB.cls mk = .method mk := by rw [Launch.admits_selectMethod X.admits]; exact q4
  obtain ⟨vm₁, X₁, hstep₁⟩ := X.invokevirtual hx ho hl hnamed hmethM hstM hkP hkPi hy (a := b) (cell := cellB) (by rw [hT]; exact hcB)
    (fun z h => by rw [h] at hoB; cases hoB) hselP hmethM habM hkP hkPi (g := g) hg (argsL := As) (rest := rest) (hn.trans (hlen _ hsigM)) hstack (by rw [hb]; exact hdg)
  obtain ⟨v, ce, U', X', h1, h2, h3, h4, h8, h9, hsteps⟩ := x_inv hcb hM hbl (g := { g with stack := rest }) (ig := .invokevirtual index) (mk := mk) (a := (Value.ref b :: As).toArray) X₁ hg (hsize.trans hml.symm) (by rw [hb]; exact hdg) hW (X₁.named hnamed) hf (hPc (T.setVm vm₁) hT X₁.warmed)
  rw [show (T.setVm vm₁).heap = H from hT] at h8 h9
  exact ⟨v, ce, U', X', h1, h2, h3, h4, h8, h9, hstep₁ _ fun acts => by rw [doInvoke_state]; exact hsteps⟩
theorem x_runS (S : CallFix p m c cc nL s args Ts own) (hM : xMet l y ws rm Pc E) (cw : CallB R s args own index y bytes maxL ret ws rm 1 6 n ∧ (Cond.static y).before args s = true) (hp : PreS s H Pc As)
    (hg : g.method = m) (hn : As.length = n) (hsize : g.locals.size = nL) (hstack : g.stack = As.reverse ++ rest) (hW : 2 * g.monitorRoom + (rest.map fun v => v.category).sum ≤ 8) (hdg : decode cc g.pc = .ok (.invokestatic index, 3)) (hf : cells + 1 ≤ R.cells ∧ slots + 6 ≤ R.slots) :
    xRun p l e R s m args below meth c H locs cells slots E g rest := by
  have hcb := cw.1
  have hbl := hp.1
  obtain ⟨⟨-, -, -, -, -, -, hcode, hini, hy, hlen, hl⟩, hstt⟩ := cw
  obtain ⟨hx, hb, hml, ho, -⟩ := S
  intro T hT X
  obtain ⟨mk, hnamed⟩ := Cond.code_named hcode
  obtain ⟨methM, cM, hmethM, -, -, -, -, -, -, hsigM⟩ := Cond.code_spec hnamed hcode
  have hstatic : methM.isStatic = true := Cond.static_spec hnamed hmethM hstt
  obtain ⟨kP, hkP, -⟩ := className_of_methodNamed hnamed
  have hinitP : kP.init = .initialized := Cond.initialized_spec (findClass_of_methodNamed hnamed) hkP hini
  obtain ⟨vm₁, X₁, hstep₁⟩ := X.invokestatic hx ho hl hnamed hmethM hstatic hkP hinitP hy (g := g) hg (argsL := As) (rest := rest) (hn.trans (hlen _ hsigM)) hstack (by rw [hb]; exact hdg)
  obtain ⟨v, ce, U', X', h1, h2, h3, h4, h8, h9, hsteps⟩ := x_inv hcb hM hbl (g := { g with stack := rest }) (ig := .invokestatic index) (mk := mk) (a := As.toArray) X₁ hg (hsize.trans hml.symm) (by rw [hb]; exact hdg) hW (X₁.named hnamed) hf (hp.2 (T.setVm vm₁) hT X₁.warmed)
  rw [show (T.setVm vm₁).heap = H from hT] at h8 h9
  exact ⟨v, ce, U', X', h1, h2, h3, h4, h8, h9, hstep₁ _ fun acts => by rw [doInvoke_state]; exact hsteps⟩
/-- what the callee threw goes on to the caller -/
theorem x_pass (h : xRun p l e R s m args below meth c s.heap [] 0 0 E g rest) (hg : g.method = m) (hlk : g.locked = none) (hen : g.entered = []) (hout : ∀ x ∈ c.exceptionTable.toList, covers x g.pc = false) (hlocks : meth.locks = false) :
    W p l e R s m args below meth c s.heap [] 0 0 (xQ below E s) g := by
  intro T hT X
  obtain ⟨q, ce, T', X', h1, h2, h3, h4, -, -, st⟩ := h T hT X
  obtain ⟨a1, a2, a3, a4, a5⟩ := X'.leaveThrown q (g := { g with stack := rest }) hg hlk hen hout hlocks
  exact ⟨_, st.trans a1, a2, _, a3, q, ce, rfl, h1, h2, h3, h4, a4, a5⟩
/-- a row of the method's table that covers the pc: her class is found (cold or warm), and takes the object or doesn't -/
theorem x_row {S : State} {f : JFrame} {a : Addr} {x : ExceptionTableEntry} {t : List ExceptionTableEntry} {cT : ClassId} {ce : Cell} {Qh : Handler → Pre} {Eh : CtlPost} {d : Bool} {acts : List Action} (hW : s.WarmedH S.vm) (hx : covers x f.pc = true) (h0 : x.catchType ≠ 0)
    (hl : s.vm.ClassLinks e.platform f.method.cls x.catchType cT) (hce : S.heap[a]? = some ce) (ho : ce.vm.isStatics = false) (hk : ∃ k, s.vm.classes[ce.cls]? = some k) :
    wp (findHandler.go f a (x :: t)) Qh Eh e d acts S ↔ if s.vm.assignable ce.cls cT = true then Qh (.found x.handlerPc) d acts (S.setVm (S.vm.noted f.method.cls x.catchType (.cls cT))) else wp (findHandler.go f a t) Qh Eh e d acts (S.setVm (S.vm.noted f.method.cls x.catchType (.cls cT))) := by
  have hal : s.vm.Alike (S.vm.noted f.method.cls x.catchType (.cls cT)) := hW.alike.noted _ _ _
  obtain ⟨r1, r2⟩ := (resolveClass_links e.toSetting (hW.classLinks hl)).op (op := VmOp.resolveClass f.method.cls x.catchType) rfl
  obtain ⟨_, _, _, kt, _, _, _, _, _, hkt, _⟩ := hl.here
  obtain ⟨k1, hk1⟩ := hk
  obtain ⟨k2, hk2, -⟩ := hal.2.2 _ _ hk1
  obtain ⟨k3, hk3, -⟩ := hal.2.2 _ _ hkt
  have hob := VmData.ne_statics_of ho
  have hx' : (decide (x.startPc ≤ f.pc) && decide (f.pc < x.endPc)) = true := hx
  rw [← hal.assignable]
  cases hfit : (S.vm.noted f.method.cls x.catchType (.cls cT)).assignable ce.cls cT <;> simp [findHandler.go, hx', h0, r1, r2, hce, hob, hk2, hk3, hfit, VmOp.dirties, VmOp.acts]
/-- the class that a row names, and what her entry is after the search -/
theorem x_link {T : State} (X : Stand p l e R s m args below meth c T locs cells slots) (hown : s.vm.findClass own = some m.cls) {i : Nat} {C : String} (hlink : (Cond.classLink own i C).before args s = true) :
    ∃ cT, s.vm.findClass C = some cT ∧ s.vm.ClassLinks e.platform m.cls i cT ∧ ∀ vm1, s.WarmedH vm1 → s.WarmedH (vm1.noted m.cls i (.cls cT)) := by
  obtain ⟨cT, h1, h2⟩ := Cond.classLink_spec hown hlink e.platform (by rw [X.admits.platform])
  refine ⟨cT, h1, h2, fun vm1 h => ?_⟩
  obtain ⟨_, _, _, _, hd, _, _, _, _, _, _, hopen⟩ := h2.here
  exact h.noted hd hopen (State.rightAt_cls h2)
/-- the step from the note to the handler -/
theorem x_caught {T : State} (X : Stand p l e R s m args below meth c T locs cells slots) (hg : g.method = m) {q : Nat} {hpc : Nat} {vm1 : Vm}
    (hfind : ∀ (Qh : Handler → Pre) (Eh : CtlPost) (d : Bool) (acts : List Action), wp (findHandler.go g q c.exceptionTable.toList) Qh Eh e d acts ((T.setTop g).pushFrame (.throwing q)) ↔ Qh (.found hpc) d acts (((T.setTop g).pushFrame (.throwing q)).setVm vm1)) :
    Steps p.tables e below ((T.setTop g).pushFrame (.throwing q)) ((T.setVm vm1).setTop { g with pc := hpc, stack := [.ref q] }) := by
  have h : At T g.method c below := by rw [hg]; exact X.here
  obtain ⟨g0, hT0⟩ := X.frames_eq
  obtain ⟨hgo, hin⟩ := h.throwing q
  have hm : ((T.setTop g).pushFrame (.throwing q)).vm.method? g.method = some meth := by rw [hg]; exact X.method'
  obtain ⟨S, hS⟩ : ∃ S, S = (T.setTop g).pushFrame (.throwing q) := ⟨_, rfl⟩
  have hall : ∀ (Qh : Handler → Pre) (Eh : CtlPost) (d : Bool) (acts : List Action), wp (findHandler g q) Qh Eh e d acts S ↔ Qh (.found hpc) d acts (S.setVm vm1) := by
    intro Qh Eh d acts
    rw [hS]
    exact (_root_.Jvm.W.findHandler_eq hm X.code).trans (hfind Qh Eh d acts)
  have key : (stepThrowing e S q (.java g :: below)).Is ((S.setVm vm1).setFrames (.java { g with pc := hpc, stack := [.ref q] } :: below)) [] := by
    simp only [stepThrowing, searchFrame, vmDo]
    generalize hr : Sem.go _ e false [] S = res
    obtain ⟨as, rfl, ha⟩ := Sem.eq_ok_of hr (a := Handler.found hpc) (s' := S.setVm vm1) (acts' := []) (by simp [hall _ _ _ _])
    exact ⟨rfl, ha⟩
  refine Steps.head hgo hin ?_
  rw [stepThread_throwing (frames_entered h.top _), X.tail, ← hS, key.1, hS, State.pushFrame, State.frames_setTop g hT0, State.setTop_of_frames g hT0, State.setFrames_setFrames, State.setTop_of_frames _ (show (T.setVm vm1).frames = .java g0 :: below from hT0)]
  show Steps _ _ _ (((T.setVm vm1).setFrames _).setFrames _) _
  rw [State.setFrames_setFrames]
  exact Steps.refl _
end XB
