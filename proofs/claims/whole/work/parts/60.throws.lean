/-- a method throws a new object of the class named E; nothing old is written; at most one cell of six slots is new -/
def xE (E : String) (st : State) (o : Outcome) (t : State) : Prop := ∃ (q : Nat) (ce : Cell), o = .threw q ∧ t.heap[q]? = some ce ∧ ce.vm.isStatics = false ∧ st.vm.findClass E = some ce.cls ∧ st.vm.assignable ce.cls ce.cls = true ∧ FrameEndT st o t [] 1 6
def xMet (l : Launch) (y : MethodName) (ws : List Cond) (rm : Room) (Pc : Array Value → State → Prop) (E : String) : Prop := MetFree l y (headSpec ws rm) Pc (fun _ _ _ _ _ => True) (fun _ st o t => xE E st o t)
def xQ (below : List Frame) (E : String) (s : State) : State → Prop := fun t => t.status = .running ∧ ∃ o, Ended t below o ∧ xE E s o t
theorem xMet.ofW {l : Launch} {y : MethodName} {ws ws' : List Cond} {rm : Room} {Pc : Array Value → State → Prop} {E : String} {cc : ByteArray} {maxL : Nat} {ret : Option FieldType}
    (hy : plainFor y = true) (hw : ws = Cond.code y cc maxL ret :: ws')
    (body : ∀ p e s m args below meth c s₁, BodyLoose p l y (headSpec ws rm) cc maxL ret e s m args below meth c s₁ → c.maxLocals = maxL → Pc args s → l.admits e →
      W p l e (headSpec ws rm).room s m args below meth c s.heap [] 0 0 (xQ below E s) (entryFrame m args maxL)) : xMet l y ws rm Pc E := by
  refine MetFree.of_bodySF (code := cc) (maxLocals := maxL) (ret := ret) hy ?_ ?_
  · intro args s m h hn
    obtain ⟨meth, c, h1, h2, h3, h4, h5, h6, -, -⟩ := Cond.code_spec hn (atoms_spec (ws := ws) h _ (by rw [hw]; exact List.mem_cons_self))
    exact ⟨meth, c, h1, h2, h3, h4, h5, h6⟩
  · intro p e s m args below meth c s₁ B hml hP _
    have hh0 : s₁.heap = s.heap := by rw [B.state]; rfl
    obtain ⟨t, a1, b1, o, b2, b3⟩ := body p e s m args below meth c s₁ B hml hP (Stand.of_body B).admits s₁ hh0 (Stand.of_body B)
    exact ⟨t, o, a1, b1, b2, b3⟩
abbrev xI : String := "java/lang/IndexOutOfBoundsException"
abbrev xA : String := "java/lang/IllegalArgumentException"
abbrev xUp : List String := ["java/lang/RuntimeException", "java/lang/Exception"]
abbrev xTn : String := "java/lang/Throwable"
/-- words on the tables that no call hands on by itself -/
def xT : List Cond := [.declares ⟨"java/lang/RuntimeException", "<init>", "(Ljava/lang/String;)V"⟩, .declares ⟨"java/lang/Exception", "<init>", "(Ljava/lang/String;)V"⟩, .declares ⟨xTn, "<init>", "(Ljava/lang/String;)V"⟩, .castable xI xI, .castable xA xA, .not (.castable xA xI)]
def xH : List Cond := [.laysStatic xTn "UNASSIGNED_STACK" "[Ljava/lang/StackTraceElement;", .laysStatic xTn "SUPPRESSED_SENTINEL" "Ljava/util/List;", .isRef (.static xTn "UNASSIGNED_STACK" "[Ljava/lang/StackTraceElement;"), .isRef (.static xTn "SUPPRESSED_SENTINEL" "Ljava/util/List;")]
/-- what a throw asks of the tables and of Throwable's statics -/
def xS (A : Nat → Prop) (U : State) (H : Heap) : Prop :=
  (∀ (V : State) (a : Array Value), U.vm.Alike V.vm → ∀ w ∈ xT, w.before a V = true) ∧
  ∃ (q : Nat) (cell : Cell), H[q]? = some cell ∧ ¬ A q ∧ ∀ (V : State) (a : Array Value), U.vm.Alike V.vm → V.heap[q]? = some cell → ∀ w ∈ xH, w.before a V = true
theorem xS.blind {A : Nat → Prop} {U : State} {g : JFrame} {mk : MethodId} {a : Array Value} (h : xS A U U.heap) : xS A (U.calling g mk a) (U.calling g mk a).heap := h
theorem xS.at {A B : Nat → Prop} {s U : State} {H : Heap} {locs : List Loc} (h : xS A s s.heap) (hS : va_S A s.heap H locs) (hB : ∀ q, B q → A q) (hU : U.heap = H) (hW : s.WarmedH U.vm) : xS B U U.heap := by
  obtain ⟨h1, q, cell, h2, h3, h4⟩ := h
  refine ⟨fun V a hV => h1 V a (hW.alike.trans hV), q, cell, ?_, fun z => h3 (hB q z), fun V a hV => h4 V a (hW.alike.trans hV)⟩
  rw [hU, hS.2.1 q (Array.getElem?_eq_some_iff.mp h2).1 h3]
  exact h2
theorem xS.weak {A B : Nat → Prop} {s : State} {H : Heap} (h : xS A s H) (hB : ∀ q, B q → A q) : xS B s H := by
  obtain ⟨h1, q, cell, h2, h3, h4⟩ := h
  exact ⟨h1, q, cell, h2, fun z => h3 (hB q z), h4⟩
theorem xS.words {A : Nat → Prop} {s : State} (h : xS A s s.heap) (a : Array Value) : ∀ w ∈ xT ++ xH, w.before a s = true := by
  obtain ⟨h1, q, cell, h2, h3, h4⟩ := h
  intro w hw
  rcases List.mem_append.mp hw with hw | hw
  · exact h1 s a (Vm.Alike.refl _) w hw
  · exact h4 s a (Vm.Alike.refl _) h2 w hw
theorem xOwn_I : ∀ w ∈ Jvm.Bundle.ownAtoms "InstructionReader" 48 xI xUp, w ∈ WT ∨ w ∈ xT ++ xH := by decide +kernel
theorem xOwn_A : ∀ w ∈ Jvm.Bundle.ownAtoms "InstructionReader" 69 xA xUp, w ∈ WT ∨ w ∈ xT ++ xH := by decide +kernel
/-- new, dup, ldc, invokespecial, athrow -/
theorem x_throw {p : Program} {l : Launch} {e : Env} {R : Room} {s : State} {m : MethodId} {args : Array Value} {below : List Frame} {meth : Method} {c : Code} {cc : ByteArray} {pc ic jc kc nL : Nat} {ls : Array Slot} {E tx : String} {qs : Nat} {Ts : List Cond}
    (S : CallFix p m c cc nL s args Ts "InstructionReader") (hT : ∀ w ∈ WT, w.before args s = true) (hX : xS no s s.heap) (htr : e.platform.stackTraces = false) (hlocks : meth.locks = false) (hout : ∀ x ∈ c.exceptionTable.toList, covers x (pc + 9) = false)
    (hE : Jvm.Bundle.fit E = true) (hown : ∀ w ∈ Jvm.Bundle.ownAtoms "InstructionReader" ic E xUp, w ∈ WT ∨ w ∈ xT ++ xH) (h1 : Cond.classLink "InstructionReader" jc E ∈ WT) (h2 : Cond.instantiable E 6 ∈ WT) (h3 : Cond.initialized E ∈ WT) (hsx : vk_R "InstructionReader" kc tx qs s)
    (hsz : ls.size = nL) (hR : 6 ≤ R.frames ∧ 1 ≤ R.cells ∧ 6 ≤ R.slots ∧ 100 ≤ R.locals)
    (d0 : decode cc pc = .ok (.new jc, 3)) (d3 : decode cc (pc + 3) = .ok (.dup, 1)) (d4 : decode cc (pc + 4) = .ok (.ldc kc, 2)) (d6 : decode cc (pc + 6) = .ok (.invokespecial ic, 3)) (d9 : decode cc (pc + 9) = .ok (.athrow, 1)) :
    W p l e R s m args below meth c s.heap [] 0 0 (xQ below E s) (F0 m pc ls []) := by
  have hx := S.1
  have hb := S.2.1
  have ho := S.2.2.2.1
  obtain ⟨cX, hcX⟩ : ∃ cX, s.vm.findClass E = some cX := by
    obtain ⟨c1, k1, q1, -⟩ := Cond.instantiable_spec (show (Cond.instantiable E 6).holds args s none s [] = true from hT _ h2)
    exact ⟨c1, q1⟩
  refine W.newcK hx hb ho (hT _ h1) (hT _ h2) (hT _ h3) rfl d0 (by omega) (by omega) hcX rfl (fun H' kC hkC e1 z1 o1 => ?_)
  refine lv_dup hx hb d3 rfl ?_
  refine va_ldcS hx hb ho hsx d4 ?_
  intro T hTh X
  obtain ⟨U, st, hrun, hend, hW, hsame, ce, hce, K⟩ := X.ctorThrowS hx htr (own := "InstructionReader") (cls := E) (names := xUp) (ic := ic) ho hE (by decide +kernel)
    (fun w hw => (hown w hw).elim (hT w) (hX.words args w)) (fun x hx => by cases hx) hcX hkC (a := s.heap.size) (by rw [hTh]; exact e1) (Nat.le_refl _) (msg := .ref qs) rfl
    (g := F0 m (pc + 6) ls [.ref qs, .ref s.heap.size, .ref s.heap.size]) rfl (by rw [S.2.2.1]; exact hsz) rfl rfl (rest := []) rfl (by rw [hb]; exact d6) (by rw [hb]; exact d9) hout (by show 5 < R.frames; omega) (by show 82 ≤ R.locals; omega)
  exact ⟨U, st, hrun, _, hend, s.heap.size, ce, rfl, hce, by rw [K.vm]; rfl, K.cls, K.self, ⟨_, rfl⟩, hW, hsame⟩
def xPost (s : State) (E : String) : Pt → Array Value → Addr → Pt → Prop := fun A _ x B => ∃ ce : Cell, B.U.heap[x]? = some ce ∧ ce.vm.isStatics = false ∧ s.vm.findClass E = some ce.cls ∧ s.vm.assignable ce.cls ce.cls = true ∧ B.locs = A.locs ∧ B.cells = A.cells + 1 ∧ B.slots = A.slots + 6 ∧ A.U.heap.size ≤ B.U.heap.size ∧ ∀ q : Nat, q < A.U.heap.size → B.U.heap[q]? = A.U.heap[q]?
theorem sbn_heap {s t : State} {k n : Nat} (h : s.sameButNew t [] k n) : s.heap.size ≤ t.heap.size ∧ ∀ q : Nat, q < s.heap.size → t.heap[q]? = s.heap[q]? := by
  obtain ⟨-, h1, -, -, -, h2⟩ := h
  refine ⟨h1, fun q hq => ?_⟩
  obtain ⟨c', e1, e2, e3, e4⟩ := h2 q _ (Array.getElem?_eq_getElem hq)
  rw [e1, Array.getElem?_eq_getElem hq]
  have e5 : c'.slots = s.heap[q].slots := Array.ext_getElem? (fun i => e4 i (fun z => by cases z))
  rw [e2, e5]
section XB
variable {p : Program} {l : Launch} {e : Env} {R : Room} {s : State} {m : MethodId} {args : Array Value} {below : List Frame} {meth : Method} {c : Code} {H : Heap} {locs : List Loc} {cells slots : Nat} {Q : State → Prop} {y : MethodName} {bytes cc : ByteArray} {maxL nL n index : Nat} {ret : Option FieldType} {ws : List Cond} {rm : Room} {Pc : Array Value → State → Prop} {E : String} {Ts : List Cond} {own C : String} {b : Addr} {As rest : List Value} {g : JFrame}
theorem x_back (cb : CallB R s args own index y bytes maxL ret ws rm 1 6 n) (hM : xMet l y ws rm Pc E) (hbl : FrameBlind Pc) : BackT l R p e below s args y 3 8 (PreOf R 1 6 Pc) (xPost s E) := by
  obtain ⟨hrc, hrs, hfr, hlo, hws, hcw, -, hini, -⟩ := cb
  refine BackT.of_free (S := headSpec ws rm) (P := Pc) (K := fun _ _ _ _ _ => True) (Q := fun _ st o t => xE E st o t) (E := fun _ _ _ _ L k n => L = [] ∧ k = 1 ∧ n = 6) (bytes := bytes) (maxL := maxL) (ret := ret) hM hfr hlo ?_ ?_ (fun _ _ _ _ _ _ _ _ _ => trivial) ?_ ?_
  · intro m meth c A a X hp
    exact ⟨atoms_intro fun w hw => hws w hw _ _ X.warmed, hws _ hcw _ _ X.warmed, word_at X.warmed (Or.inl (by first | rfl | simp [Cond.onTables, Cond.keeps, Cond.steady])) hini, by rw [show (headSpec ws rm).room.cells = 1 from hrc]; exact hp.1, by rw [show (headSpec ws rm).room.slots = 6 from hrs]; exact hp.2.1⟩
  · intro m meth c A a g mk X hp
    exact hbl _ _ _ _ hp.2.2
  · intro a st o t hq
    obtain ⟨q, ce, -, -, -, -, -, hF⟩ := hq
    exact ⟨[], 1, 6, hF, rfl, rfl, rfl⟩
  · intro m meth c A a g mk v t L k n X hp hq hF hE
    obtain ⟨rfl, rfl, rfl⟩ := hE
    obtain ⟨q, ce, e1, h1, h2, h3, h4, -⟩ := hq
    cases e1
    have h5 := sbn_heap hF.2.2
    refine ⟨ce, h1, h2, ?_, ?_, List.append_nil _, rfl, rfl, h5.1, h5.2⟩
    · rw [← X.warmed.alike.findClass]; exact h3
    · rw [← X.warmed.alike.assignable]; exact h4
/-- a call that throws -/
def xRun (p : Program) (l : Launch) (e : Env) (R : Room) (s : State) (m : MethodId) (args : Array Value) (below : List Frame) (meth : Method) (c : Code) (H : Heap) (locs : List Loc) (cells slots : Nat) (E : String) (g : JFrame) (rest : List Value) : Prop :=
  ∀ T : State, T.heap = H → Stand p l e R s m args below meth c T locs cells slots → ∃ (q : Nat) (ce : Cell) (T' : State), Stand p l e R s m args below meth c T' locs (cells + 1) (slots + 6) ∧ T'.heap[q]? = some ce ∧ ce.vm.isStatics = false ∧ s.vm.findClass E = some ce.cls ∧ s.vm.assignable ce.cls ce.cls = true ∧ H.size ≤ T'.heap.size ∧ (∀ i : Nat, i < H.size → T'.heap[i]? = H[i]?) ∧
    Steps p.tables e below (T.setTop g) ((T'.setTop { g with stack := rest }).pushFrame (.throwing q))
theorem x_runV (S : CallFix p m c cc nL s args Ts own) (hM : xMet l y ws rm Pc E) (cw : CallW R s args own C index y bytes maxL ret ws rm 1 6 n) (hp : PreV s H C b Pc As)
    (hg : g.method = m) (hn : As.length = n) (hsize : g.locals.size = nL) (hstack : g.stack = As.reverse ++ .ref b :: rest) (hW : 2 * g.monitorRoom + (rest.map fun v => v.category).sum ≤ 8) (hdg : decode cc g.pc = .ok (.invokevirtual index, 3)) (hf : cells + 1 ≤ R.cells ∧ slots + 6 ≤ R.slots) :
    xRun p l e R s m args below meth c H locs cells slots E g rest := by
  have hK : BackT l R p e below s args y 3 8 (PreOf R 1 6 Pc) (xPost s E) := x_back cw.1 hM hp.1
  obtain ⟨⟨-, -, -, -, -, -, hcode, -, hy, hlen, hl⟩, hin, hse⟩ := cw
  obtain ⟨hx, hb, hml, ho, -⟩ := S
  obtain ⟨-, ⟨cellB, hcB, hoB, hclB⟩, hPc⟩ := hp
  intro T hT X
  obtain ⟨mk, methM, hnamed, hmethM, hstM, habM⟩ := Cond.instanceMethod_spec hin
  obtain ⟨methM', cM, hmethM', -, -, -, -, -, -, hsigM⟩ := Cond.code_spec hnamed hcode
  cases hmethM.symm.trans hmethM'
  obtain ⟨c2, r2, m2, q1, q2, q3, q4, kP, hkP, hkPi⟩ := Cond.selects_spec hse
  cases hclB.symm.trans q1
  cases (State.methodFound?_of_named hnamed hy).symm.trans q2
  cases hnamed.symm.trans q3
  have hselP : selectMethod e.platform s.vm cellB.cls mk = .method mk := by rw [Launch.admits_selectMethod X.admits]; exact q4
  obtain ⟨vm₁, X₁, hstep₁⟩ := X.invokevirtual hx ho hl hnamed hmethM hstM hkP hkPi hy (a := b) (cell := cellB) (by rw [hT]; exact hcB)
    (fun z h => by rw [h] at hoB; cases hoB) hselP hmethM habM hkP hkPi (g := g) hg (argsL := As) (rest := rest) (hn.trans (hlen _ hsigM)) hstack (by rw [hb]; exact hdg)
  obtain ⟨v, ⟨U', l2, c2, s2⟩, X', ⟨ce, h1, h2, h3, h4, h5, h6, h7, h8, h9⟩, hsteps⟩ := hK m meth c ⟨T.setVm vm₁, locs, cells, slots⟩ { g with stack := rest } (.invokevirtual index) mk (Value.ref b :: As).toArray X₁ hg (hsize.trans hml.symm) (by rw [hb]; exact hdg) hW (X₁.named hnamed) ⟨hf.1, hf.2, hPc (T.setVm vm₁) hT X₁.warmed⟩
  dsimp only [Pt.U, Pt.locs, Pt.cells, Pt.slots] at X' h1 h5 h6 h7 h8 h9 hsteps
  subst h5; subst h6; subst h7
  rw [show (T.setVm vm₁).heap = H from hT] at h8 h9
  exact ⟨v, ce, U', X', h1, h2, h3, h4, h8, h9, hstep₁ _ fun acts => by rw [doInvoke_state]; exact hsteps⟩
theorem x_runS (S : CallFix p m c cc nL s args Ts own) (hM : xMet l y ws rm Pc E) (cw : CallB R s args own index y bytes maxL ret ws rm 1 6 n ∧ (Cond.static y).before args s = true) (hp : PreS s H Pc As)
    (hg : g.method = m) (hn : As.length = n) (hsize : g.locals.size = nL) (hstack : g.stack = As.reverse ++ rest) (hW : 2 * g.monitorRoom + (rest.map fun v => v.category).sum ≤ 8) (hdg : decode cc g.pc = .ok (.invokestatic index, 3)) (hf : cells + 1 ≤ R.cells ∧ slots + 6 ≤ R.slots) :
    xRun p l e R s m args below meth c H locs cells slots E g rest := by
  have hK : BackT l R p e below s args y 3 8 (PreOf R 1 6 Pc) (xPost s E) := x_back cw.1 hM hp.1
  obtain ⟨⟨-, -, -, -, -, -, hcode, hini, hy, hlen, hl⟩, hstt⟩ := cw
  obtain ⟨hx, hb, hml, ho, -⟩ := S
  intro T hT X
  obtain ⟨mk, hnamed⟩ := Cond.code_named hcode
  obtain ⟨methM, cM, hmethM, -, -, -, -, -, -, hsigM⟩ := Cond.code_spec hnamed hcode
  have hstatic : methM.isStatic = true := Cond.static_spec hnamed hmethM hstt
  obtain ⟨kP, hkP, -⟩ := className_of_methodNamed hnamed
  have hinitP : kP.init = .initialized := Cond.initialized_spec (findClass_of_methodNamed hnamed) hkP hini
  obtain ⟨vm₁, X₁, hstep₁⟩ := X.invokestatic hx ho hl hnamed hmethM hstatic hkP hinitP hy (g := g) hg (argsL := As) (rest := rest) (hn.trans (hlen _ hsigM)) hstack (by rw [hb]; exact hdg)
  obtain ⟨v, ⟨U', l2, c2, s2⟩, X', ⟨ce, h1, h2, h3, h4, h5, h6, h7, h8, h9⟩, hsteps⟩ := hK m meth c ⟨T.setVm vm₁, locs, cells, slots⟩ { g with stack := rest } (.invokestatic index) mk As.toArray X₁ hg (hsize.trans hml.symm) (by rw [hb]; exact hdg) hW (X₁.named hnamed) ⟨hf.1, hf.2, hp.2 (T.setVm vm₁) hT X₁.warmed⟩
  dsimp only [Pt.U, Pt.locs, Pt.cells, Pt.slots] at X' h1 h5 h6 h7 h8 h9 hsteps
  subst h5; subst h6; subst h7
  rw [show (T.setVm vm₁).heap = H from hT] at h8 h9
  exact ⟨v, ce, U', X', h1, h2, h3, h4, h8, h9, hstep₁ _ fun acts => by rw [doInvoke_state]; exact hsteps⟩
/-- what the callee threw goes on to the caller -/
theorem x_pass (h : xRun p l e R s m args below meth c s.heap [] 0 0 E g rest) (hg : g.method = m) (hlk : g.locked = none) (hen : g.entered = []) (hout : ∀ x ∈ c.exceptionTable.toList, covers x g.pc = false) (hlocks : meth.locks = false) :
    W p l e R s m args below meth c s.heap [] 0 0 (xQ below E s) g := by
  intro T hT X
  obtain ⟨q, ce, T', X', h1, h2, h3, h4, -, -, st⟩ := h T hT X
  obtain ⟨a1, a2, a3, a4, a5⟩ := X'.leaveThrown q (g := { g with stack := rest }) hg hlk hen hout hlocks
  exact ⟨_, st.trans a1, a2, _, a3, q, ce, rfl, h1, h2, h3, h4, ⟨_, rfl⟩, a4, a5⟩
/-- what the callee threw is caught by the row x -/
theorem x_catch (h : xRun p l e R s m args below meth c H locs cells slots E g rest) (hg : g.method = m) (hown : s.vm.findClass own = some m.cls) (pre : List ExceptionTableEntry) (x : ExceptionTableEntry) (rs : List ExceptionTableEntry) (hsplit : c.exceptionTable.toList = pre ++ x :: rs)
    (hpass : ∀ pl : Platform, pl.magicAccessors = ({} : Platform).magicAccessors → ∀ ct, s.vm.findClass E = some ct → ∀ y ∈ pre, RowPassed pl s m.cls g.pc ct y) (hx : covers x g.pc = true) (h0 : x.catchType ≠ 0) (hlink : (Cond.classLink own x.catchType E).before args s = true)
    (kk : ∀ (H1 : Heap) (q : Nat), H.size ≤ H1.size → (∀ i : Nat, i < H.size → H1[i]? = H[i]?) → W p l e R s m args below meth c H1 locs (cells + 1) (slots + 6) Q { g with pc := x.handlerPc, stack := [.ref q] }) :
    W p l e R s m args below meth c H locs cells slots Q g := by
  intro T hT X
  obtain ⟨q, ce, T', X', h1, h2, h3, h4, h5, h6, st⟩ := h T hT X
  have hpl : e.platform.magicAccessors = ({} : Platform).magicAccessors := by rw [X.admits.platform]
  obtain ⟨hc1, hc2⟩ := X'.catches_of_link hown h0 hlink h3 h4
  obtain ⟨vm', X2, st2⟩ := X'.thenCaughtThrough q (g := { g with stack := rest }) hg st h1 h2 hc2 pre x rs hsplit (hpass _ hpl _ h3) hx hc1
  obtain ⟨t, a1, b1⟩ := kk T'.heap q h5 h6 (T'.setVm vm') rfl X2
  exact ⟨t, st2.trans a1, b1⟩
end XB
