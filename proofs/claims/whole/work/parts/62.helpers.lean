def ow (dC : Nat → ClassId) (dI : Nat → Nat → Nat) (cL : ClassId) (o0 : Nat) (ov : Int64) (H : Heap) : Prop := ∃ f : Nat → Int64, f 0 = ov ∧ va_P (dC, dI) classes [(o0, .inl (cL, 1, .inr (.inl f)))] H
def aH (r0 r1 r2 r3 o0 : Nat) : Nat → Prop := fun q => q ∈ [r0, r1, r2, r3, o0]
abbrev apH (r0 r1 r2 r3 o0 : Nat) : Prop := [r0, r1, r2, r3, o0].Nodup
abbrev hK5 (dC : Nat → ClassId) (dI : Nat → Nat → Nat) (cI cC cL : ClassId) (U : State) : Prop := va_K (dC, dI) classes [(cI, .int), (cC, .char), (cL, .long)] U
theorem hK5.r {dC : Nat → ClassId} {dI : Nat → Nat → Nat} {cI cC cL : ClassId} {U : State} (h : hK5 dC dI cI cC cL U) : rK dC dI cI cC U := h.sub [0, 1] rfl
theorem apH.r {r0 r1 r2 r3 o0 : Nat} (h : apH r0 r1 r2 r3 o0) : apR r0 r1 r2 r3 ∧ ¬ aR r0 r1 r2 r3 o0 := by
  simp only [apH, apR, aR, List.nodup_cons, List.mem_cons, List.not_mem_nil, or_false, not_or, not_false_eq_true, List.nodup_nil, and_true] at h ⊢
  obtain ⟨⟨h1, h2, h3, h4⟩, ⟨h5, h6, h7⟩, ⟨h8, h9⟩, h10⟩ := h
  exact ⟨⟨⟨h1, h2, h3⟩, ⟨h5, h6⟩, h8⟩, fun z => h4 z.symm, fun z => h7 z.symm, fun z => h9 z.symm, fun z => h10 z.symm⟩
theorem aR_H {r0 r1 r2 r3 o0 : Nat} : ∀ q, aR r0 r1 r2 r3 q → aH r0 r1 r2 r3 o0 q := by
  intro q h
  simp only [aR, aH, List.mem_cons, List.not_mem_nil, or_false] at h ⊢
  rcases h with h | h | h | h <;> simp [h]
theorem ow.kept {dC : Nat → ClassId} {dI : Nat → Nat → Nat} {cL : ClassId} {o0 : Nat} {ov : Int64} {H H1 : Heap} (h : ow dC dI cL o0 ov H) (hk : H1[o0]? = H[o0]?) : ow dC dI cL o0 ov H1 := by
  obtain ⟨f, h1, hP⟩ := h
  refine ⟨f, h1, hP.kept (fun k q hq => ?_)⟩
  match k, hq with
  | 0, hq => cases hq; exact hk
  | k + 1, hq => simp at hq
theorem ow.lt {dC : Nat → ClassId} {dI : Nat → Nat → Nat} {cL : ClassId} {o0 : Nat} {ov : Int64} {H : Heap} (h : ow dC dI cL o0 ov H) : o0 < H.size := by
  obtain ⟨f, h1, hP⟩ := h
  exact (hP 0 _ rfl).lt
theorem rwd.kept {dC : Nat → ClassId} {dI : Nat → Nat → Nat} {cI cC : ClassId} {r0 r1 r2 r3 : Nat} {str : Nat → Int32} {tb ti tp : Int32} {v : List Int32} {H H1 : Heap} (h : rwd dC dI cI cC r0 r1 r2 r3 str tb ti tp v H) (hk : ∀ q : Nat, q < H.size → aR r0 r1 r2 r3 q → H1[q]? = H[q]?) : rwd dC dI cI cC r0 r1 r2 r3 str tb ti tp v H1 := by
  obtain ⟨f, n, ht, hP⟩ := h
  refine ⟨f, n, ht, hP.kept (fun k q hq => hk q.1 (hP k q hq).lt ?_)⟩
  match k, hq with
  | 0, hq => cases hq; simp [aR]
  | 1, hq => cases hq; simp [aR]
  | 2, hq => cases hq; simp [aR]
  | 3, hq => cases hq; simp [aR]
  | k + 4, hq => simp at hq
def hU (adE adK adV : Nat → Nat) (dC : Nat → ClassId) (dI : Nat → Nat → Nat) (cI cC cL : ClassId) (r0 r1 r2 r3 o0 : Nat) (str : Nat → Int32) (tb ti tp : Int32) (v : List Int32) (ov : Int64) (U : State) : Prop := hK5 dC dI cI cC cL U ∧ apH r0 r1 r2 r3 o0 ∧ cx adE adK adV (aH r0 r1 r2 r3 o0) U U.heap ∧ xS (aH r0 r1 r2 r3 o0) U U.heap ∧ rwd dC dI cI cC r0 r1 r2 r3 str tb ti tp v U.heap ∧ ow dC dI cL o0 ov U.heap
theorem hU.blind {adE adK adV : Nat → Nat} {dC : Nat → ClassId} {dI : Nat → Nat → Nat} {cI cC cL : ClassId} {r0 r1 r2 r3 o0 : Nat} {str : Nat → Int32} {tb ti tp : Int32} {v : List Int32} {ov : Int64} {U : State} {g : JFrame} {mk : MethodId} {a : Array Value} (h : hU adE adK adV dC dI cI cC cL r0 r1 r2 r3 o0 str tb ti tp v ov U) : hU adE adK adV dC dI cI cC cL r0 r1 r2 r3 o0 str tb ti tp v ov (U.calling g mk a) := ⟨va_K.moved (u := U) (U := U.calling g mk a) (Vm.Alike.refl U.vm) h.1, h.2.1, h.2.2.1.blind, h.2.2.2.1.blind, h.2.2.2.2.1, h.2.2.2.2.2⟩
theorem hU.at {adE adK adV : Nat → Nat} {dC : Nat → ClassId} {dI : Nat → Nat → Nat} {cI cC cL : ClassId} {r0 r1 r2 r3 o0 : Nat} {str : Nat → Int32} {tb ti tp : Int32} {v : List Int32} {ov : Int64} {A0 : Nat → Prop} {s U : State} {H : Heap} {locs : List Loc} (hK : hK5 dC dI cI cC cL s) (ap : apH r0 r1 r2 r3 o0) (hC : cx adE adK adV A0 s s.heap) (hX : xS A0 s s.heap) (hS : va_S A0 s.heap H locs) (hA : ∀ q, aH r0 r1 r2 r3 o0 q → A0 q) (hw : rwd dC dI cI cC r0 r1 r2 r3 str tb ti tp v H) (ho : ow dC dI cL o0 ov H) (hU1 : U.heap = H) (hW : s.WarmedH U.vm) : hU adE adK adV dC dI cI cC cL r0 r1 r2 r3 o0 str tb ti tp v ov U := ⟨va_K.moved hW.alike hK, ap, hC.at hS hA hU1 hW, hX.at hS hA hU1 hW, by rw [hU1]; exact hw, by rw [hU1]; exact ho⟩
theorem x_table {p : Program} {l : Launch} {y : MethodName} {S : Spec} {cc : ByteArray} {maxL : Nat} {ret : Option FieldType} {e : Env} {s : State} {m : MethodId} {args : Array Value} {below : List Frame} {meth : Method} {c : Code} {s₁ : State} {hh : List (Nat × Nat × Nat × Nat)} (B : BodyLoose p l y S cc maxL ret e s m args below meth c s₁) (h : (Cond.codeWith y cc maxL ret hh).before args s = true) : c.exceptionTable.toList.map (fun h => (h.startPc, h.endPc, h.handlerPc, h.catchType)) = hh := by
  obtain ⟨m9, meth9, c9, hn9, h1, h2, h3, h4, h5, -⟩ := Cond.codeWith_spec h
  cases B.named.symm.trans hn9
  cases B.method.symm.trans h1
  cases (Stand.of_body B).code.symm.trans h2
  exact h5
section XC
variable {p : Program} {l : Launch} {e : Env} {R : Room} {s : State} {m : MethodId} {args : Array Value} {below : List Frame} {meth : Method} {c : Code} {H : Heap} {locs : List Loc} {cells slots : Nat} {Q : State → Prop} {y : MethodName} {bytes cc : ByteArray} {maxL nL n index mc ms : Nat} {ret : Option FieldType} {ws : List Cond} {rm : Room} {Pc : Array Value → State → Prop} {Qc : Array Value → State → Outcome → State → Prop} {free : Addr → Prop} {E : String} {Ts : List Cond} {own C : String} {b : Addr} {As rest : List Value} {g : JFrame} {pc : Nat} {ls : Array Slot} {st0 : List Value}
theorem x_catch1 (h : xRun p l e R s m args below meth c H locs cells slots E (F0 m pc ls st0) rest) (hown : s.vm.findClass own = some m.cls) {a1 b1 h1 t1 : Nat} {hs : List (Nat × Nat × Nat × Nat)} (hmap : c.exceptionTable.toList.map (fun h => (h.startPc, h.endPc, h.handlerPc, h.catchType)) = (a1, b1, h1, t1) :: hs)
    (hx : a1 ≤ pc ∧ pc < b1) (h0 : t1 ≠ 0) (hlink : (Cond.classLink own t1 E).before args s = true)
    (kk : ∀ (H1 : Heap) (q : Nat), H.size ≤ H1.size → (∀ i : Nat, i < H.size → H1[i]? = H[i]?) → W p l e R s m args below meth c H1 locs (cells + 1) (slots + 6) Q (F0 m h1 ls [.ref q])) :
    W p l e R s m args below meth c H locs cells slots Q (F0 m pc ls st0) := by
  obtain ⟨x, rs, hsp, e1, e2⟩ := List.map_eq_cons_iff.mp hmap
  simp only [Prod.mk.injEq] at e1
  obtain ⟨i1, i2, i3, i4⟩ := e1
  intro T hT X0
  obtain ⟨q, ce, T', X, c1, c2, c3, c4, c5, c6, st⟩ := h T hT X0
  obtain ⟨cT, l1, l2, l3⟩ := x_link X hown hlink
  cases c3.symm.trans l1
  have st2 := x_caught X (g := F0 m pc ls rest) (q := q) (hpc := x.handlerPc) (vm1 := T'.vm.noted m.cls x.catchType (.cls ce.cls)) rfl (fun Qh Eh d acts => by
    rw [hsp, x_row (S := (T'.setTop (F0 m pc ls rest)).pushFrame (.throwing q)) X.warmed (by simp only [covers, i1, i2]; simpa using hx) (by rw [i4]; exact h0) (by rw [i4]; exact l2) c1 c2 (Vm.classAt_of_findClass c3), if_pos c4]
    exact Iff.rfl)
  rw [i3] at st2
  obtain ⟨t, a1, b1⟩ := kk T'.heap q c5 c6 (T'.setVm (T'.vm.noted m.cls x.catchType (.cls ce.cls))) rfl (X.noted (by rw [i4]; exact l3 _ X.warmed))
  exact ⟨t, (st.trans st2).trans a1, b1⟩
theorem x_catch2 (h : xRun p l e R s m args below meth c H locs cells slots E (F0 m pc ls st0) rest) (hown : s.vm.findClass own = some m.cls) {E1 : String} {a1 b1 h1 t1 a2 b2 h2 t2 : Nat} {hs : List (Nat × Nat × Nat × Nat)} (hmap : c.exceptionTable.toList.map (fun h => (h.startPc, h.endPc, h.handlerPc, h.catchType)) = (a1, b1, h1, t1) :: (a2, b2, h2, t2) :: hs)
    (hx1 : a1 ≤ pc ∧ pc < b1) (h10 : t1 ≠ 0) (hlink1 : (Cond.classLink own t1 E1).before args s = true) (hno : (Cond.not (.castable E E1)).before args s = true) (hx : a2 ≤ pc ∧ pc < b2) (h0 : t2 ≠ 0) (hlink : (Cond.classLink own t2 E).before args s = true)
    (kk : ∀ (H1 : Heap) (q : Nat), H.size ≤ H1.size → (∀ i : Nat, i < H.size → H1[i]? = H[i]?) → W p l e R s m args below meth c H1 locs (cells + 1) (slots + 6) Q (F0 m h2 ls [.ref q])) :
    W p l e R s m args below meth c H locs cells slots Q (F0 m pc ls st0) := by
  obtain ⟨x1, rs1, hsp1, d1, d2⟩ := List.map_eq_cons_iff.mp hmap
  obtain ⟨x, rs, hsp, e1, e2⟩ := List.map_eq_cons_iff.mp d2
  simp only [Prod.mk.injEq] at e1 d1
  obtain ⟨i1, i2, i3, i4⟩ := e1
  obtain ⟨j1, j2, j3, j4⟩ := d1
  intro T hT X0
  obtain ⟨q, ce, T', X, c1, c2, c3, c4, c5, c6, st⟩ := h T hT X0
  obtain ⟨cU, k1, k2, k3⟩ := x_link X hown hlink1
  obtain ⟨cT, l1, l2, l3⟩ := x_link X hown hlink
  cases c3.symm.trans l1
  have hne : s.vm.assignable ce.cls cU = false := by
    have hv := Cond.holds_not_iff.mp hno
    simp only [Cond.value, c3, k1] at hv
    exact Option.some.inj hv
  have hk := Vm.classAt_of_findClass c3
  have n1 : s.WarmedH (T'.vm.noted m.cls x1.catchType (.cls cU)) := by rw [j4]; exact k3 _ X.warmed
  have st2 := x_caught X (g := F0 m pc ls rest) (q := q) (hpc := x.handlerPc) (vm1 := (T'.vm.noted m.cls x1.catchType (.cls cU)).noted m.cls x.catchType (.cls ce.cls)) rfl (fun Qh Eh d acts => by
    rw [hsp1, hsp, x_row (S := (T'.setTop (F0 m pc ls rest)).pushFrame (.throwing q)) X.warmed (by simp only [covers, j1, j2]; simpa using hx1) (by rw [j4]; exact h10) (by rw [j4]; exact k2) c1 c2 hk, if_neg (by rw [hne]; decide)]
    refine (x_row (S := ((T'.setTop (F0 m pc ls rest)).pushFrame (.throwing q)).setVm (T'.vm.noted m.cls x1.catchType (.cls cU))) (f := F0 m pc ls rest) (cT := ce.cls) n1 (by simp only [covers, i1, i2]; simpa using hx) (by rw [i4]; exact h0) (by rw [i4]; exact l2) c1 c2 hk).trans ?_
    rw [if_pos c4]
    exact Iff.rfl)
  rw [i3] at st2
  obtain ⟨t, a1, b1⟩ := kk T'.heap q c5 c6 (T'.setVm ((T'.vm.noted m.cls x1.catchType (.cls cU)).noted m.cls x.catchType (.cls ce.cls))) rfl (X.noted (by rw [i4]; exact l3 _ n1))
  exact ⟨t, (st.trans st2).trans a1, b1⟩
/-- the call of a static method with an exception table -/
theorem xw_runS {hh : List (Nat × Nat × Nat × Nat)} (S : CallFix p m c cc nL s args Ts own) (hM : Met l y ws rm Pc Qc mc ms free) (hT : GoodIn Ts (va_wsS own index y ws)) (hw : ∃ ws', ws = Cond.codeWith y bytes maxL ret hh :: ws') (hrc : rm.cells = mc) (hrs : rm.slots = ms)
    (hd : y.cls ≠ "java/lang/invoke/MethodHandle" ∧ y.cls ≠ "java/lang/invoke/VarHandle" ∧ (parseMethodDescriptor y.desc).map (fun d => d.parameters.length) = some n) (hR : rm.frames + 1 ≤ R.frames ∧ 8 + (maxL + 11) + rm.locals ≤ R.locals) (hp : PreS s H Pc As)
    (hg : g.method = m) (hn : As.length = n) (hsize : g.locals.size = nL) (hstack : g.stack = As.reverse ++ rest) (hW : 2 * g.monitorRoom + (rest.map fun v => v.category).sum ≤ 8) (hdg : decode cc g.pc = .ok (.invokestatic index, 3)) (hf : cells + mc ≤ R.cells ∧ slots + ms ≤ R.slots) :
    va_Run p l e R s m args below meth c H locs cells slots mc ms g rest (Qc As.toArray) (free) := by
  obtain ⟨ws', hw⟩ := hw
  obtain ⟨hx, hb, hml, ho, ht⟩ := S
  have ok : ∀ w ∈ va_wsS own index y ws, w.before args s = true := fun w h => ht w (hT w h).1
  have hG : GoodIn Ts ws := fun w h => hT w (by unfold va_wsS; exact List.mem_append_right _ h)
  have hc : Cond.codeWith y bytes maxL ret hh ∈ ws := by rw [hw]; exact List.mem_cons_self
  have hini : (Cond.initialized y.cls).before args s = true := ok _ (by simp [va_wsS])
  have hl : (Cond.methodLink own index y).before args s = true := ok _ (by simp [va_wsS])
  have hstt : (Cond.static y).before args s = true := ok _ (by simp [va_wsS])
  have hcode : (Cond.codeWith y bytes maxL ret hh).before args s = true := ht _ (hG _ hc).1
  have hK : Back l R p e below s args y 3 8 (PreOf R mc ms Pc) (PostOf Qc mc ms free) := va_backW (hh := hh) (bytes := bytes) (maxL := maxL) (ret := ret) hM hp.1 hrc hrs hR.1 hR.2 (pay_in ht hG) hc (fun a' U hW => word_at hW (Or.inl (by first | rfl | simp [Cond.onTables, Cond.keeps, Cond.steady])) hini)
  intro T hT' X
  obtain ⟨mk, methM, cM, hnamed, hmethM, -, -, -, -, -, -, hsigM⟩ := Cond.codeWith_spec hcode
  have hstatic : methM.isStatic = true := Cond.static_spec hnamed hmethM hstt
  obtain ⟨kP, hkP, -⟩ := className_of_methodNamed hnamed
  have hinitP : kP.init = .initialized := Cond.initialized_spec (findClass_of_methodNamed hnamed) hkP hini
  have hlen : n = methM.sig.parameters.length := by
    have h2 := hd.2.2
    rw [hsigM] at h2
    exact (Option.some.inj h2).symm
  obtain ⟨vm₁, X₁, hstep₁⟩ := X.invokestatic hx ho hl hnamed hmethM hstatic hkP hinitP ⟨hd.1, hd.2.1⟩ (g := g) hg (argsL := As) (rest := rest) (hn.trans hlen) hstack (by rw [hb]; exact hdg)
  obtain ⟨v, ⟨U', l2, c2, s2⟩, X', ⟨g', mk', t, L, e1, e2, hq, h1, hL, h2, h3⟩, hsteps⟩ := hK m meth c ⟨T.setVm vm₁, locs, cells, slots⟩ { g with stack := rest } (.invokestatic index) mk As.toArray X₁ hg (hsize.trans hml.symm) (by rw [hb]; exact hdg) hW (X₁.named hnamed) ⟨hf.1, hf.2, hp.2 (T.setVm vm₁) hT' X₁.warmed⟩
  dsimp only [Pt.U, Pt.locs, Pt.cells, Pt.slots] at X' e1 e2 h1 h2 h3 hsteps
  subst h1; subst h2; subst h3
  exact ⟨v, (T.setVm vm₁).calling g' mk' As.toArray, t, U', L, hT', X', hL, e1, e2, hq, fun target h => hstep₁ _ fun acts => by rw [doInvoke_state]; exact hsteps.trans h⟩
end XC

theorem m_585 : Cond.codeWith y_W_letter b_W_letter 4 (some .int) [(0, 9, 12, 13)] ∈ WT := WT_of 585 (by decide +kernel) (by decide +kernel)
theorem m_663 : Cond.codeWith y_W_poke b_W_poke 4 (some .int) [(0, 6, 9, 13)] ∈ WT := WT_of 663 (by decide +kernel) (by decide +kernel)
theorem m_677 : Cond.codeWith y_W_at b_W_at 4 (some .int) [(0, 9, 12, 13)] ∈ WT := WT_of 677 (by decide +kernel) (by decide +kernel)
theorem m_708 : Cond.codeWith y_W_next b_W_next 5 (some .int) [(0, 10, 13, 13), (0, 10, 17, 27)] ∈ WT := WT_of 708 (by decide +kernel) (by decide +kernel)
theorem m_732 : Cond.codeWith y_W_before b_W_before 5 (some .int) [(0, 10, 13, 13)] ∈ WT := WT_of 732 (by decide +kernel) (by decide +kernel)
theorem m_739 : Cond.codeWith y_W_numbers b_W_numbers 4 (some .int) [(0, 9, 12, 13)] ∈ WT := WT_of 739 (by decide +kernel) (by decide +kernel)
set_option maxRecDepth 100000 in
set_option maxHeartbeats 4000000 in
theorem c_W_letter (l : Launch) (adE adK adV : Nat → Nat) (dC : Nat → ClassId) (dI : Nat → Nat → Nat) (cI cC cL : ClassId) (r0 r1 r2 r3 o0 : Nat) (str : Nat → Int32) (tb ti tp : Int32) (v : List Int32) (ov : Int64) (j : Nat) : Met l y_W_letter (Cond.codeWith y_W_letter b_W_letter 4 (some .int) [(0, 9, 12, 13)] :: WT) ({ frames := 10, cells := 0, slots := 0, locals := 240 }) (va_Pc [.ref r0, .int (nI j), .ref o0] (fun U => hU adE adK adV dC dI cI cC cL r0 r1 r2 r3 o0 str tb ti tp v ov U ∧ j < min v.length 40)) (va_Qi (fun (r : Int32) (_ : Unit) => r = 0) (fun _ t => rwd dC dI cI cC r0 r1 r2 r3 str tb ti tp v t.heap ∧ ow dC dI cL o0 ((v.getD j 0).toInt64) t.heap) (aH r0 r1 r2 r3 o0)) 0 0 (aH r0 r1 r2 r3 o0) := by
  refine va_MetW (cc := b_W_letter) (maxL := 4) (ret := some .int) (hh := [(0, 9, 12, 13)]) (by decide +kernel) rfl ?_
  intro p e s m args below meth c s₁ B hml hv
  obtain ⟨rfl, ⟨hK5, ap5, hC, hX, hw, ho⟩, hj⟩ := hv
  have hx := B.exec
  have hb := B.bytes
  have hr := B.returns
  have hts := atoms_spec (ws := (Cond.codeWith y_W_letter b_W_letter 4 (some .int) [(0, 9, 12, 13)] :: WT)) B.pre
  have hT : ∀ w ∈ WT, w.before _ s = true := fun w h => hts w (inC w h)
  have hown : s.vm.findClass R_W = some m.cls := findClass_of_methodNamed B.named
  have hlocks := B.notSynchronized
  have hS : va_S (aH r0 r1 r2 r3 o0) s.heap s.heap [] := va_S.rf
  have S : CallFix p m c b_W_letter 4 s _ (Cond.codeWith y_W_letter b_W_letter 4 (some .int) [(0, 9, 12, 13)] :: WT) R_W := ⟨hx, hb, hml, hown, hts⟩
  have hl := lv_entry ([.ref r0, .int (nI j), .ref o0]) (n := 4) (Nat.le_of_ble_eq_true rfl)
  rw [lg_entry_eq]
  generalize (lg_sl ([.ref r0, .int (nI j), .ref o0]) ++ List.replicate (4 - (lg_sl ([.ref r0, .int (nI j), .ref o0])).length) Slot.unset).toArray = ls at hl ⊢
  have hl : lv_has ls 4 [(0, .ref r0), (1, .int (nI j)), (2, .ref o0)] := hl
  have hA : ∀ q, aR r0 r1 r2 r3 q → aH r0 r1 r2 r3 o0 q := aR_H
  have hK := hK5.r
  have ap := ap5.r.1
  have hmap := x_table B (hts _ List.mem_cons_self)
  refine lv_aload_n hx hb d_W_letter_0 rfl (lv_at hl 2 rfl) ?_
  refine lv_iconst (v := 0) hx hb d_W_letter_1 (by decide) ?_
  refine lv_aload_n hx hb d_W_letter_2 rfl (lv_at hl 0 rfl) ?_
  refine lv_iload_n hx hb d_W_letter_3 rfl (lv_at hl 1 rfl) ?_
  refine call_R_letter S inC m_587 ⟨(Nat.le_of_ble_eq_true rfl), (Nat.le_of_ble_eq_true rfl)⟩ hl.1 (Nat.le_of_ble_eq_true rfl) d_W_letter_4 ⟨(Nat.le_of_ble_eq_true rfl), (Nat.le_of_ble_eq_true rfl)⟩ hK hC hS hw hj ?_
  refine lv_i2l (v := (v.getD j 0).toInt64) hx hb d_W_letter_7 rfl ?_
  obtain ⟨f, n, ht0, hP⟩ := id hw
  obtain ⟨g, hg0, hPo⟩ := id ho
  have hP5 : va_P (dC, dI) classes (wR r0 r1 r2 r3 cI cC str tb ti tp f n ++ [(o0, .inl (cL, 1, .inr (.inl g)))]) s.heap := hP.app hPo
  have hD5 : va_D (aH r0 r1 r2 r3 o0) (wR r0 r1 r2 r3 cI cC str tb ti tp f n ++ [(o0, .inl (cL, 1, .inr (.inl g)))]) := vd_of ap5 (fun a ha => ha)
  refine va_last (D := (dC, dI)) hx hb hK5 hP5 hD5 hS 4 2 rfl rfl (i := 0) (by unfold vp_in; decide) d_W_letter_8 (fun H locs hP5 hD5 hS => ?_)
  have hw : rwd dC dI cI cC r0 r1 r2 r3 str tb ti tp v H := ⟨f, n, ht0, hP5.sub [0, 1, 2, 3] rfl⟩
  have ho : ow dC dI cL o0 ((v.getD j 0).toInt64) H := ⟨_, rfl, hP5.sub [4] rfl⟩
  refine lv_goto (tgt := 15) hx hb d_W_letter_9 (by decide) ?_
  refine lv_iconst (v := 0) hx hb d_W_letter_15 (by decide) ?_
  exact W.iret (v := 0) hx hb hr (fun t ht hW => ⟨⟨0, (), rfl, rfl, by rw [ht]; exact hw, by rw [ht]; exact ho⟩, hS.F ht⟩) hS.2.2 d_W_letter_16
theorem call_W_letter {p : Program} {l : Launch} {e : Env} {R : Room} {s : State} {m : MethodId} {args : Array Value} {below : List Frame} {meth : Method} {c : Code} {H : Heap} {locs : List Loc} {cells slots : Nat} {Q : State → Prop} {cc : ByteArray} {pc nL idx : Nat} {ls : Array Slot} {rest : List Value} {Ts : List Cond} {own : String} {adE adK adV : Nat → Nat} {A0 : Nat → Prop} {dC : Nat → ClassId} {dI : Nat → Nat → Nat} {cI cC cL : ClassId} {r0 r1 r2 r3 o0 : Nat} {str : Nat → Int32} {tb ti tp : Int32} {v : List Int32} {ov : Int64} {j : Nat} (S : CallFix p m c cc nL s args Ts own) (hTs : ∀ w ∈ WT, w ∈ Ts) (hlk : Cond.methodLink own idx y_W_letter ∈ WT)  (hR : 10 + 1 ≤ R.frames ∧ 8 + (4 + 11) + 240 ≤ R.locals) (hsz : ls.size = nL) (hrm : (rest.map fun v => v.category).sum ≤ 8) (hdg : decode cc pc = .ok (.invokestatic idx, 3)) (hc : cells + 0 ≤ R.cells ∧ slots + 0 ≤ R.slots) (hK : hK5 dC dI cI cC cL s) (ap : apH r0 r1 r2 r3 o0) (hC : cx adE adK adV A0 s s.heap) (hX : xS A0 s s.heap) (hS : va_S A0 s.heap H locs) (hA : ∀ q, aH r0 r1 r2 r3 o0 q → A0 q) (hw : rwd dC dI cI cC r0 r1 r2 r3 str tb ti tp v H) (ho : ow dC dI cL o0 ov H) (hcd : j < min v.length 40) (kk : ∀ (H1 : Heap) (locs1 : List Loc), rwd dC dI cI cC r0 r1 r2 r3 str tb ti tp v H1 → ow dC dI cL o0 ((v.getD j 0).toInt64) H1 → va_S A0 s.heap H1 locs1 → (H.size ≤ H1.size ∧ ∀ q : Nat, q < H.size → ¬ aH r0 r1 r2 r3 o0 q → H1[q]? = H[q]?) → W p l e R s m args below meth c H1 locs1 (cells + 0) (slots + 0) Q (F0 m (pc + 3) ls (.int 0 :: rest))) : W p l e R s m args below meth c H locs cells slots Q (F0 m pc ls (.ref o0 :: .int (nI j) :: .ref r0 :: rest)) :=
  va_calli (xw_runS (n := 3) (hh := [(0, 9, 12, 13)]) (bytes := b_W_letter) (maxL := 4) (ret := some .int) (As := [.ref r0, .int (nI j), .ref o0]) (rest := rest) S (c_W_letter l adE adK adV dC dI cI cC cL r0 r1 r2 r3 o0 str tb ti tp v ov j) (gS hTs hlk m_584 m_49 m_585) ⟨WT, rfl⟩ rfl rfl (by decide +kernel) hR ⟨fun a U g mk q => ⟨q.1, ⟨q.2.1.blind, q.2.2⟩⟩, fun U hU1 hW => ⟨rfl, ⟨hU.at hK ap hC hX hS hA hw ho hU1 hW, hcd⟩⟩⟩ rfl rfl hsz rfl (lv_room hrm) hdg hc) hS (fun q _ h => hA q h) hA (fun r u t H1 locs1 ht hvm hp hB hz hk hS1 => by subst hp; exact kk H1 locs1 (by rw [← ht]; exact hB.1) (by rw [← ht]; exact hB.2) hS1 ⟨hz, hk⟩)

set_option maxRecDepth 100000 in
set_option maxHeartbeats 4000000 in
theorem c_W_next (l : Launch) (adE adK adV : Nat → Nat) (dC : Nat → ClassId) (dI : Nat → Nat → Nat) (cI cC cL : ClassId) (r0 r1 r2 r3 o0 : Nat) (str : Nat → Int32) (tb ti tp : Int32) (v : List Int32) (ov : Int64) (a N : Nat) : Met l y_W_next (Cond.codeWith y_W_next b_W_next 5 (some .int) [(0, 10, 13, 13), (0, 10, 17, 27)] :: WT) ({ frames := 10, cells := 0, slots := 0, locals := 240 }) (va_Pc [.ref r0, .int (nI a), .int (nI N), .ref o0] (fun U => hU adE adK adV dC dI cI cC cL r0 r1 r2 r3 o0 str tb ti tp v ov U ∧ a < 256 ∧ N < 2 ^ 31)) (va_Qi (fun (r : Int32) (_ : Unit) => r = 0) (fun _ t => rwd dC dI cI cC r0 r1 r2 r3 str tb ti tp v t.heap ∧ ow dC dI cL o0 ((endN (goN str 128 N a)).toInt64) t.heap) (aH r0 r1 r2 r3 o0)) 0 0 (aH r0 r1 r2 r3 o0) := by
  refine va_MetW (cc := b_W_next) (maxL := 5) (ret := some .int) (hh := [(0, 10, 13, 13), (0, 10, 17, 27)]) (by decide +kernel) rfl ?_
  intro p e s m args below meth c s₁ B hml hv
  obtain ⟨rfl, ⟨hK5, ap5, hC, hX, hw, ho⟩, ha, hN⟩ := hv
  have hx := B.exec
  have hb := B.bytes
  have hr := B.returns
  have hts := atoms_spec (ws := (Cond.codeWith y_W_next b_W_next 5 (some .int) [(0, 10, 13, 13), (0, 10, 17, 27)] :: WT)) B.pre
  have hT : ∀ w ∈ WT, w.before _ s = true := fun w h => hts w (inC w h)
  have hown : s.vm.findClass R_W = some m.cls := findClass_of_methodNamed B.named
  have hlocks := B.notSynchronized
  have hS : va_S (aH r0 r1 r2 r3 o0) s.heap s.heap [] := va_S.rf
  have S : CallFix p m c b_W_next 5 s _ (Cond.codeWith y_W_next b_W_next 5 (some .int) [(0, 10, 13, 13), (0, 10, 17, 27)] :: WT) R_W := ⟨hx, hb, hml, hown, hts⟩
  have hl := lv_entry ([.ref r0, .int (nI a), .int (nI N), .ref o0]) (n := 5) (Nat.le_of_ble_eq_true rfl)
  rw [lg_entry_eq]
  generalize (lg_sl ([.ref r0, .int (nI a), .int (nI N), .ref o0]) ++ List.replicate (5 - (lg_sl ([.ref r0, .int (nI a), .int (nI N), .ref o0])).length) Slot.unset).toArray = ls at hl ⊢
  have hl : lv_has ls 5 [(0, .ref r0), (1, .int (nI a)), (2, .int (nI N)), (3, .ref o0)] := hl
  have hA : ∀ q, aR r0 r1 r2 r3 q → aH r0 r1 r2 r3 o0 q := aR_H
  have hK := hK5.r
  have ap := ap5.r.1
  have hmap := x_table B (hts _ List.mem_cons_self)
  refine lv_aload_n hx hb d_W_next_0 rfl (lv_at hl 3 rfl) ?_
  refine lv_iconst (v := 0) hx hb d_W_next_1 (by decide) ?_
  refine lv_aload_n hx hb d_W_next_2 rfl (lv_at hl 0 rfl) ?_
  refine lv_iload_n hx hb d_W_next_3 rfl (lv_at hl 1 rfl) ?_
  refine lv_iload_n hx hb d_W_next_4 rfl (lv_at hl 2 rfl) ?_
  refine call_R_next S inC m_710 ⟨(Nat.le_of_ble_eq_true rfl), (Nat.le_of_ble_eq_true rfl)⟩ hl.1 (Nat.le_of_ble_eq_true rfl) d_W_next_5 ⟨(Nat.le_of_ble_eq_true rfl), (Nat.le_of_ble_eq_true rfl)⟩ hK hC hS hw ha hN ?_
  refine lv_i2l (v := (endN (goN str 128 N a)).toInt64) hx hb d_W_next_8 rfl ?_
  obtain ⟨f, n, ht0, hP⟩ := id hw
  obtain ⟨g, hg0, hPo⟩ := id ho
  have hP5 : va_P (dC, dI) classes (wR r0 r1 r2 r3 cI cC str tb ti tp f n ++ [(o0, .inl (cL, 1, .inr (.inl g)))]) s.heap := hP.app hPo
  have hD5 : va_D (aH r0 r1 r2 r3 o0) (wR r0 r1 r2 r3 cI cC str tb ti tp f n ++ [(o0, .inl (cL, 1, .inr (.inl g)))]) := vd_of ap5 (fun a ha => ha)
  refine va_last (D := (dC, dI)) hx hb hK5 hP5 hD5 hS 4 2 rfl rfl (i := 0) (by unfold vp_in; decide) d_W_next_9 (fun H locs hP5 hD5 hS => ?_)
  have hw : rwd dC dI cI cC r0 r1 r2 r3 str tb ti tp v H := ⟨f, n, ht0, hP5.sub [0, 1, 2, 3] rfl⟩
  have ho : ow dC dI cL o0 ((endN (goN str 128 N a)).toInt64) H := ⟨_, rfl, hP5.sub [4] rfl⟩
  refine lv_goto (tgt := 21) hx hb d_W_next_10 (by decide) ?_
  refine lv_iconst (v := 0) hx hb d_W_next_21 (by decide) ?_
  exact W.iret (v := 0) hx hb hr (fun t ht hW => ⟨⟨0, (), rfl, rfl, by rw [ht]; exact hw, by rw [ht]; exact ho⟩, hS.F ht⟩) hS.2.2 d_W_next_22
theorem call_W_next {p : Program} {l : Launch} {e : Env} {R : Room} {s : State} {m : MethodId} {args : Array Value} {below : List Frame} {meth : Method} {c : Code} {H : Heap} {locs : List Loc} {cells slots : Nat} {Q : State → Prop} {cc : ByteArray} {pc nL idx : Nat} {ls : Array Slot} {rest : List Value} {Ts : List Cond} {own : String} {adE adK adV : Nat → Nat} {A0 : Nat → Prop} {dC : Nat → ClassId} {dI : Nat → Nat → Nat} {cI cC cL : ClassId} {r0 r1 r2 r3 o0 : Nat} {str : Nat → Int32} {tb ti tp : Int32} {v : List Int32} {ov : Int64} {a N : Nat} (S : CallFix p m c cc nL s args Ts own) (hTs : ∀ w ∈ WT, w ∈ Ts) (hlk : Cond.methodLink own idx y_W_next ∈ WT)  (hR : 10 + 1 ≤ R.frames ∧ 8 + (5 + 11) + 240 ≤ R.locals) (hsz : ls.size = nL) (hrm : (rest.map fun v => v.category).sum ≤ 8) (hdg : decode cc pc = .ok (.invokestatic idx, 3)) (hc : cells + 0 ≤ R.cells ∧ slots + 0 ≤ R.slots) (hK : hK5 dC dI cI cC cL s) (ap : apH r0 r1 r2 r3 o0) (hC : cx adE adK adV A0 s s.heap) (hX : xS A0 s s.heap) (hS : va_S A0 s.heap H locs) (hA : ∀ q, aH r0 r1 r2 r3 o0 q → A0 q) (hw : rwd dC dI cI cC r0 r1 r2 r3 str tb ti tp v H) (ho : ow dC dI cL o0 ov H) (hcd : a < 256 ∧ N < 2 ^ 31) (kk : ∀ (H1 : Heap) (locs1 : List Loc), rwd dC dI cI cC r0 r1 r2 r3 str tb ti tp v H1 → ow dC dI cL o0 ((endN (goN str 128 N a)).toInt64) H1 → va_S A0 s.heap H1 locs1 → (H.size ≤ H1.size ∧ ∀ q : Nat, q < H.size → ¬ aH r0 r1 r2 r3 o0 q → H1[q]? = H[q]?) → W p l e R s m args below meth c H1 locs1 (cells + 0) (slots + 0) Q (F0 m (pc + 3) ls (.int 0 :: rest))) : W p l e R s m args below meth c H locs cells slots Q (F0 m pc ls (.ref o0 :: .int (nI N) :: .int (nI a) :: .ref r0 :: rest)) :=
  va_calli (xw_runS (n := 4) (hh := [(0, 10, 13, 13), (0, 10, 17, 27)]) (bytes := b_W_next) (maxL := 5) (ret := some .int) (As := [.ref r0, .int (nI a), .int (nI N), .ref o0]) (rest := rest) S (c_W_next l adE adK adV dC dI cI cC cL r0 r1 r2 r3 o0 str tb ti tp v ov a N) (gS hTs hlk m_707 m_49 m_708) ⟨WT, rfl⟩ rfl rfl (by decide +kernel) hR ⟨fun a U g mk q => ⟨q.1, ⟨q.2.1.blind, q.2.2⟩⟩, fun U hU1 hW => ⟨rfl, ⟨hU.at hK ap hC hX hS hA hw ho hU1 hW, hcd⟩⟩⟩ rfl rfl hsz rfl (lv_room hrm) hdg hc) hS (fun q _ h => hA q h) hA (fun r u t H1 locs1 ht hvm hp hB hz hk hS1 => by subst hp; exact kk H1 locs1 (by rw [← ht]; exact hB.1) (by rw [← ht]; exact hB.2) hS1 ⟨hz, hk⟩)

set_option maxRecDepth 100000 in
set_option maxHeartbeats 4000000 in
theorem c_W_before (l : Launch) (adE adK adV : Nat → Nat) (dC : Nat → ClassId) (dI : Nat → Nat → Nat) (cI cC cL : ClassId) (r0 r1 r2 r3 o0 : Nat) (str : Nat → Int32) (tb ti tp : Int32) (v : List Int32) (ov : Int64) (a D : Nat) : Met l y_W_before (Cond.codeWith y_W_before b_W_before 5 (some .int) [(0, 10, 13, 13)] :: WT) ({ frames := 10, cells := 0, slots := 0, locals := 240 }) (va_Pc [.ref r0, .int (nI a), .int (nI D), .ref o0] (fun U => hU adE adK adV dC dI cI cC cL r0 r1 r2 r3 o0 str tb ti tp v ov U ∧ a < 256 ∧ D < 256)) (va_Qi (fun (r : Int32) (_ : Unit) => r = 0) (fun _ t => rwd dC dI cI cC r0 r1 r2 r3 str tb ti tp v t.heap ∧ ow dC dI cL o0 ((goB str 128 D a (-1)).toInt64) t.heap) (aH r0 r1 r2 r3 o0)) 0 0 (aH r0 r1 r2 r3 o0) := by
  refine va_MetW (cc := b_W_before) (maxL := 5) (ret := some .int) (hh := [(0, 10, 13, 13)]) (by decide +kernel) rfl ?_
  intro p e s m args below meth c s₁ B hml hv
  obtain ⟨rfl, ⟨hK5, ap5, hC, hX, hw, ho⟩, ha, hD⟩ := hv
  have hx := B.exec
  have hb := B.bytes
  have hr := B.returns
  have hts := atoms_spec (ws := (Cond.codeWith y_W_before b_W_before 5 (some .int) [(0, 10, 13, 13)] :: WT)) B.pre
  have hT : ∀ w ∈ WT, w.before _ s = true := fun w h => hts w (inC w h)
  have hown : s.vm.findClass R_W = some m.cls := findClass_of_methodNamed B.named
  have hlocks := B.notSynchronized
  have hS : va_S (aH r0 r1 r2 r3 o0) s.heap s.heap [] := va_S.rf
  have S : CallFix p m c b_W_before 5 s _ (Cond.codeWith y_W_before b_W_before 5 (some .int) [(0, 10, 13, 13)] :: WT) R_W := ⟨hx, hb, hml, hown, hts⟩
  have hl := lv_entry ([.ref r0, .int (nI a), .int (nI D), .ref o0]) (n := 5) (Nat.le_of_ble_eq_true rfl)
  rw [lg_entry_eq]
  generalize (lg_sl ([.ref r0, .int (nI a), .int (nI D), .ref o0]) ++ List.replicate (5 - (lg_sl ([.ref r0, .int (nI a), .int (nI D), .ref o0])).length) Slot.unset).toArray = ls at hl ⊢
  have hl : lv_has ls 5 [(0, .ref r0), (1, .int (nI a)), (2, .int (nI D)), (3, .ref o0)] := hl
  have hA : ∀ q, aR r0 r1 r2 r3 q → aH r0 r1 r2 r3 o0 q := aR_H
  have hK := hK5.r
  have ap := ap5.r.1
  have hmap := x_table B (hts _ List.mem_cons_self)
  refine lv_aload_n hx hb d_W_before_0 rfl (lv_at hl 3 rfl) ?_
  refine lv_iconst (v := 0) hx hb d_W_before_1 (by decide) ?_
  refine lv_aload_n hx hb d_W_before_2 rfl (lv_at hl 0 rfl) ?_
  refine lv_iload_n hx hb d_W_before_3 rfl (lv_at hl 1 rfl) ?_
  refine lv_iload_n hx hb d_W_before_4 rfl (lv_at hl 2 rfl) ?_
  refine call_R_before S inC m_733 ⟨(Nat.le_of_ble_eq_true rfl), (Nat.le_of_ble_eq_true rfl)⟩ hl.1 (Nat.le_of_ble_eq_true rfl) d_W_before_5 ⟨(Nat.le_of_ble_eq_true rfl), (Nat.le_of_ble_eq_true rfl)⟩ hK hC hS hw ha hD ?_
  refine lv_i2l (v := (goB str 128 D a (-1)).toInt64) hx hb d_W_before_8 rfl ?_
  obtain ⟨f, n, ht0, hP⟩ := id hw
  obtain ⟨g, hg0, hPo⟩ := id ho
  have hP5 : va_P (dC, dI) classes (wR r0 r1 r2 r3 cI cC str tb ti tp f n ++ [(o0, .inl (cL, 1, .inr (.inl g)))]) s.heap := hP.app hPo
  have hD5 : va_D (aH r0 r1 r2 r3 o0) (wR r0 r1 r2 r3 cI cC str tb ti tp f n ++ [(o0, .inl (cL, 1, .inr (.inl g)))]) := vd_of ap5 (fun a ha => ha)
  refine va_last (D := (dC, dI)) hx hb hK5 hP5 hD5 hS 4 2 rfl rfl (i := 0) (by unfold vp_in; decide) d_W_before_9 (fun H locs hP5 hD5 hS => ?_)
  have hw : rwd dC dI cI cC r0 r1 r2 r3 str tb ti tp v H := ⟨f, n, ht0, hP5.sub [0, 1, 2, 3] rfl⟩
  have ho : ow dC dI cL o0 ((goB str 128 D a (-1)).toInt64) H := ⟨_, rfl, hP5.sub [4] rfl⟩
  refine lv_goto (tgt := 17) hx hb d_W_before_10 (by decide) ?_
  refine lv_iconst (v := 0) hx hb d_W_before_17 (by decide) ?_
  exact W.iret (v := 0) hx hb hr (fun t ht hW => ⟨⟨0, (), rfl, rfl, by rw [ht]; exact hw, by rw [ht]; exact ho⟩, hS.F ht⟩) hS.2.2 d_W_before_18
theorem call_W_before {p : Program} {l : Launch} {e : Env} {R : Room} {s : State} {m : MethodId} {args : Array Value} {below : List Frame} {meth : Method} {c : Code} {H : Heap} {locs : List Loc} {cells slots : Nat} {Q : State → Prop} {cc : ByteArray} {pc nL idx : Nat} {ls : Array Slot} {rest : List Value} {Ts : List Cond} {own : String} {adE adK adV : Nat → Nat} {A0 : Nat → Prop} {dC : Nat → ClassId} {dI : Nat → Nat → Nat} {cI cC cL : ClassId} {r0 r1 r2 r3 o0 : Nat} {str : Nat → Int32} {tb ti tp : Int32} {v : List Int32} {ov : Int64} {a D : Nat} (S : CallFix p m c cc nL s args Ts own) (hTs : ∀ w ∈ WT, w ∈ Ts) (hlk : Cond.methodLink own idx y_W_before ∈ WT)  (hR : 10 + 1 ≤ R.frames ∧ 8 + (5 + 11) + 240 ≤ R.locals) (hsz : ls.size = nL) (hrm : (rest.map fun v => v.category).sum ≤ 8) (hdg : decode cc pc = .ok (.invokestatic idx, 3)) (hc : cells + 0 ≤ R.cells ∧ slots + 0 ≤ R.slots) (hK : hK5 dC dI cI cC cL s) (ap : apH r0 r1 r2 r3 o0) (hC : cx adE adK adV A0 s s.heap) (hX : xS A0 s s.heap) (hS : va_S A0 s.heap H locs) (hA : ∀ q, aH r0 r1 r2 r3 o0 q → A0 q) (hw : rwd dC dI cI cC r0 r1 r2 r3 str tb ti tp v H) (ho : ow dC dI cL o0 ov H) (hcd : a < 256 ∧ D < 256) (kk : ∀ (H1 : Heap) (locs1 : List Loc), rwd dC dI cI cC r0 r1 r2 r3 str tb ti tp v H1 → ow dC dI cL o0 ((goB str 128 D a (-1)).toInt64) H1 → va_S A0 s.heap H1 locs1 → (H.size ≤ H1.size ∧ ∀ q : Nat, q < H.size → ¬ aH r0 r1 r2 r3 o0 q → H1[q]? = H[q]?) → W p l e R s m args below meth c H1 locs1 (cells + 0) (slots + 0) Q (F0 m (pc + 3) ls (.int 0 :: rest))) : W p l e R s m args below meth c H locs cells slots Q (F0 m pc ls (.ref o0 :: .int (nI D) :: .int (nI a) :: .ref r0 :: rest)) :=
  va_calli (xw_runS (n := 4) (hh := [(0, 10, 13, 13)]) (bytes := b_W_before) (maxL := 5) (ret := some .int) (As := [.ref r0, .int (nI a), .int (nI D), .ref o0]) (rest := rest) S (c_W_before l adE adK adV dC dI cI cC cL r0 r1 r2 r3 o0 str tb ti tp v ov a D) (gS hTs hlk m_731 m_49 m_732) ⟨WT, rfl⟩ rfl rfl (by decide +kernel) hR ⟨fun a U g mk q => ⟨q.1, ⟨q.2.1.blind, q.2.2⟩⟩, fun U hU1 hW => ⟨rfl, ⟨hU.at hK ap hC hX hS hA hw ho hU1 hW, hcd⟩⟩⟩ rfl rfl hsz rfl (lv_room hrm) hdg hc) hS (fun q _ h => hA q h) hA (fun r u t H1 locs1 ht hvm hp hB hz hk hS1 => by subst hp; exact kk H1 locs1 (by rw [← ht]; exact hB.1) (by rw [← ht]; exact hB.2) hS1 ⟨hz, hk⟩)

set_option maxRecDepth 100000 in
set_option maxHeartbeats 4000000 in
theorem c_W_numbers (l : Launch) (adE adK adV : Nat → Nat) (dC : Nat → ClassId) (dI : Nat → Nat → Nat) (cI cC cL : ClassId) (r0 r1 r2 r3 o0 : Nat) (str : Nat → Int32) (tb ti tp : Int32) (v : List Int32) (ov : Int64) (a : Nat) : Met l y_W_numbers (Cond.codeWith y_W_numbers b_W_numbers 4 (some .int) [(0, 9, 12, 13)] :: WT) ({ frames := 10, cells := 0, slots := 0, locals := 240 }) (va_Pc [.ref r0, .int (nI a), .ref o0] (fun U => hU adE adK adV dC dI cI cC cL r0 r1 r2 r3 o0 str tb ti tp v ov U ∧ a < 256)) (va_Qi (fun (r : Int32) (_ : Unit) => r = 0) (fun _ t => rwd dC dI cI cC r0 r1 r2 r3 str tb ti tp v t.heap ∧ ow dC dI cL o0 ((nI (goC str 128 a 0)).toInt64) t.heap) (aH r0 r1 r2 r3 o0)) 0 0 (aH r0 r1 r2 r3 o0) := by
  refine va_MetW (cc := b_W_numbers) (maxL := 4) (ret := some .int) (hh := [(0, 9, 12, 13)]) (by decide +kernel) rfl ?_
  intro p e s m args below meth c s₁ B hml hv
  obtain ⟨rfl, ⟨hK5, ap5, hC, hX, hw, ho⟩, ha⟩ := hv
  have hx := B.exec
  have hb := B.bytes
  have hr := B.returns
  have hts := atoms_spec (ws := (Cond.codeWith y_W_numbers b_W_numbers 4 (some .int) [(0, 9, 12, 13)] :: WT)) B.pre
  have hT : ∀ w ∈ WT, w.before _ s = true := fun w h => hts w (inC w h)
  have hown : s.vm.findClass R_W = some m.cls := findClass_of_methodNamed B.named
  have hlocks := B.notSynchronized
  have hS : va_S (aH r0 r1 r2 r3 o0) s.heap s.heap [] := va_S.rf
  have S : CallFix p m c b_W_numbers 4 s _ (Cond.codeWith y_W_numbers b_W_numbers 4 (some .int) [(0, 9, 12, 13)] :: WT) R_W := ⟨hx, hb, hml, hown, hts⟩
  have hl := lv_entry ([.ref r0, .int (nI a), .ref o0]) (n := 4) (Nat.le_of_ble_eq_true rfl)
  rw [lg_entry_eq]
  generalize (lg_sl ([.ref r0, .int (nI a), .ref o0]) ++ List.replicate (4 - (lg_sl ([.ref r0, .int (nI a), .ref o0])).length) Slot.unset).toArray = ls at hl ⊢
  have hl : lv_has ls 4 [(0, .ref r0), (1, .int (nI a)), (2, .ref o0)] := hl
  have hA : ∀ q, aR r0 r1 r2 r3 q → aH r0 r1 r2 r3 o0 q := aR_H
  have hK := hK5.r
  have ap := ap5.r.1
  have hmap := x_table B (hts _ List.mem_cons_self)
  refine lv_aload_n hx hb d_W_numbers_0 rfl (lv_at hl 2 rfl) ?_
  refine lv_iconst (v := 0) hx hb d_W_numbers_1 (by decide) ?_
  refine lv_aload_n hx hb d_W_numbers_2 rfl (lv_at hl 0 rfl) ?_
  refine lv_iload_n hx hb d_W_numbers_3 rfl (lv_at hl 1 rfl) ?_
  refine call_R_numbers S inC m_740 ⟨(Nat.le_of_ble_eq_true rfl), (Nat.le_of_ble_eq_true rfl)⟩ hl.1 (Nat.le_of_ble_eq_true rfl) d_W_numbers_4 ⟨(Nat.le_of_ble_eq_true rfl), (Nat.le_of_ble_eq_true rfl)⟩ hK hC hS hw ha ?_
  refine lv_i2l (v := (nI (goC str 128 a 0)).toInt64) hx hb d_W_numbers_7 rfl ?_
  obtain ⟨f, n, ht0, hP⟩ := id hw
  obtain ⟨g, hg0, hPo⟩ := id ho
  have hP5 : va_P (dC, dI) classes (wR r0 r1 r2 r3 cI cC str tb ti tp f n ++ [(o0, .inl (cL, 1, .inr (.inl g)))]) s.heap := hP.app hPo
  have hD5 : va_D (aH r0 r1 r2 r3 o0) (wR r0 r1 r2 r3 cI cC str tb ti tp f n ++ [(o0, .inl (cL, 1, .inr (.inl g)))]) := vd_of ap5 (fun a ha => ha)
  refine va_last (D := (dC, dI)) hx hb hK5 hP5 hD5 hS 4 2 rfl rfl (i := 0) (by unfold vp_in; decide) d_W_numbers_8 (fun H locs hP5 hD5 hS => ?_)
  have hw : rwd dC dI cI cC r0 r1 r2 r3 str tb ti tp v H := ⟨f, n, ht0, hP5.sub [0, 1, 2, 3] rfl⟩
  have ho : ow dC dI cL o0 ((nI (goC str 128 a 0)).toInt64) H := ⟨_, rfl, hP5.sub [4] rfl⟩
  refine lv_goto (tgt := 15) hx hb d_W_numbers_9 (by decide) ?_
  refine lv_iconst (v := 0) hx hb d_W_numbers_15 (by decide) ?_
  exact W.iret (v := 0) hx hb hr (fun t ht hW => ⟨⟨0, (), rfl, rfl, by rw [ht]; exact hw, by rw [ht]; exact ho⟩, hS.F ht⟩) hS.2.2 d_W_numbers_16
theorem call_W_numbers {p : Program} {l : Launch} {e : Env} {R : Room} {s : State} {m : MethodId} {args : Array Value} {below : List Frame} {meth : Method} {c : Code} {H : Heap} {locs : List Loc} {cells slots : Nat} {Q : State → Prop} {cc : ByteArray} {pc nL idx : Nat} {ls : Array Slot} {rest : List Value} {Ts : List Cond} {own : String} {adE adK adV : Nat → Nat} {A0 : Nat → Prop} {dC : Nat → ClassId} {dI : Nat → Nat → Nat} {cI cC cL : ClassId} {r0 r1 r2 r3 o0 : Nat} {str : Nat → Int32} {tb ti tp : Int32} {v : List Int32} {ov : Int64} {a : Nat} (S : CallFix p m c cc nL s args Ts own) (hTs : ∀ w ∈ WT, w ∈ Ts) (hlk : Cond.methodLink own idx y_W_numbers ∈ WT)  (hR : 10 + 1 ≤ R.frames ∧ 8 + (4 + 11) + 240 ≤ R.locals) (hsz : ls.size = nL) (hrm : (rest.map fun v => v.category).sum ≤ 8) (hdg : decode cc pc = .ok (.invokestatic idx, 3)) (hc : cells + 0 ≤ R.cells ∧ slots + 0 ≤ R.slots) (hK : hK5 dC dI cI cC cL s) (ap : apH r0 r1 r2 r3 o0) (hC : cx adE adK adV A0 s s.heap) (hX : xS A0 s s.heap) (hS : va_S A0 s.heap H locs) (hA : ∀ q, aH r0 r1 r2 r3 o0 q → A0 q) (hw : rwd dC dI cI cC r0 r1 r2 r3 str tb ti tp v H) (ho : ow dC dI cL o0 ov H) (hcd : a < 256) (kk : ∀ (H1 : Heap) (locs1 : List Loc), rwd dC dI cI cC r0 r1 r2 r3 str tb ti tp v H1 → ow dC dI cL o0 ((nI (goC str 128 a 0)).toInt64) H1 → va_S A0 s.heap H1 locs1 → (H.size ≤ H1.size ∧ ∀ q : Nat, q < H.size → ¬ aH r0 r1 r2 r3 o0 q → H1[q]? = H[q]?) → W p l e R s m args below meth c H1 locs1 (cells + 0) (slots + 0) Q (F0 m (pc + 3) ls (.int 0 :: rest))) : W p l e R s m args below meth c H locs cells slots Q (F0 m pc ls (.ref o0 :: .int (nI a) :: .ref r0 :: rest)) :=
  va_calli (xw_runS (n := 3) (hh := [(0, 9, 12, 13)]) (bytes := b_W_numbers) (maxL := 4) (ret := some .int) (As := [.ref r0, .int (nI a), .ref o0]) (rest := rest) S (c_W_numbers l adE adK adV dC dI cI cC cL r0 r1 r2 r3 o0 str tb ti tp v ov a) (gS hTs hlk m_738 m_49 m_739) ⟨WT, rfl⟩ rfl rfl (by decide +kernel) hR ⟨fun a U g mk q => ⟨q.1, ⟨q.2.1.blind, q.2.2⟩⟩, fun U hU1 hW => ⟨rfl, ⟨hU.at hK ap hC hX hS hA hw ho hU1 hW, hcd⟩⟩⟩ rfl rfl hsz rfl (lv_room hrm) hdg hc) hS (fun q _ h => hA q h) hA (fun r u t H1 locs1 ht hvm hp hB hz hk hS1 => by subst hp; exact kk H1 locs1 (by rw [← ht]; exact hB.1) (by rw [← ht]; exact hB.2) hS1 ⟨hz, hk⟩)

set_option maxRecDepth 100000 in
set_option maxHeartbeats 4000000 in
theorem c_W_at0 (l : Launch) (adE adK adV : Nat → Nat) (dC : Nat → ClassId) (dI : Nat → Nat → Nat) (cI cC cL : ClassId) (r0 r1 r2 r3 o0 : Nat) (str : Nat → Int32) (tb ti tp : Int32) (v : List Int32) (ov : Int64) (a : Nat) : Met l y_W_at (Cond.codeWith y_W_at b_W_at 4 (some .int) [(0, 9, 12, 13)] :: WT) ({ frames := 10, cells := 0, slots := 0, locals := 240 }) (va_Pc [.ref r0, .int (nI a), .ref o0] (fun U => hU adE adK adV dC dI cI cC cL r0 r1 r2 r3 o0 str tb ti tp v ov U ∧ a < 256 ∧ f_R_isWholeAt str (nI a) = 0)) (va_Qi (fun (r : Int32) (_ : Unit) => r = 0) (fun _ t => rwd dC dI cI cC r0 r1 r2 r3 str tb ti tp v t.heap ∧ ow dC dI cL o0 (((0 : Int32)).toInt64) t.heap) (aH r0 r1 r2 r3 o0)) 0 0 (aH r0 r1 r2 r3 o0) := by
  refine va_MetW (cc := b_W_at) (maxL := 4) (ret := some .int) (hh := [(0, 9, 12, 13)]) (by decide +kernel) rfl ?_
  intro p e s m args below meth c s₁ B hml hv
  obtain ⟨rfl, ⟨hK5, ap5, hC, hX, hw, ho⟩, ha, hq⟩ := hv
  have hx := B.exec
  have hb := B.bytes
  have hr := B.returns
  have hts := atoms_spec (ws := (Cond.codeWith y_W_at b_W_at 4 (some .int) [(0, 9, 12, 13)] :: WT)) B.pre
  have hT : ∀ w ∈ WT, w.before _ s = true := fun w h => hts w (inC w h)
  have hown : s.vm.findClass R_W = some m.cls := findClass_of_methodNamed B.named
  have hlocks := B.notSynchronized
  have hS : va_S (aH r0 r1 r2 r3 o0) s.heap s.heap [] := va_S.rf
  have S : CallFix p m c b_W_at 4 s _ (Cond.codeWith y_W_at b_W_at 4 (some .int) [(0, 9, 12, 13)] :: WT) R_W := ⟨hx, hb, hml, hown, hts⟩
  have hl := lv_entry ([.ref r0, .int (nI a), .ref o0]) (n := 4) (Nat.le_of_ble_eq_true rfl)
  rw [lg_entry_eq]
  generalize (lg_sl ([.ref r0, .int (nI a), .ref o0]) ++ List.replicate (4 - (lg_sl ([.ref r0, .int (nI a), .ref o0])).length) Slot.unset).toArray = ls at hl ⊢
  have hl : lv_has ls 4 [(0, .ref r0), (1, .int (nI a)), (2, .ref o0)] := hl
  have hA : ∀ q, aR r0 r1 r2 r3 q → aH r0 r1 r2 r3 o0 q := aR_H
  have hK := hK5.r
  have ap := ap5.r.1
  have hmap := x_table B (hts _ List.mem_cons_self)
  refine lv_aload_n hx hb d_W_at_0 rfl (lv_at hl 2 rfl) ?_
  refine lv_iconst (v := 0) hx hb d_W_at_1 (by decide) ?_
  refine lv_aload_n hx hb d_W_at_2 rfl (lv_at hl 0 rfl) ?_
  refine lv_iload_n hx hb d_W_at_3 rfl (lv_at hl 1 rfl) ?_
  refine call_R_at0 S inC m_678 ⟨(Nat.le_of_ble_eq_true rfl), (Nat.le_of_ble_eq_true rfl)⟩ hl.1 (Nat.le_of_ble_eq_true rfl) d_W_at_4 ⟨(Nat.le_of_ble_eq_true rfl), (Nat.le_of_ble_eq_true rfl)⟩ hK ap hC hS hA hw ha hq (fun H1 locs hw hS hfr => ?_)
  have ho : ow dC dI cL o0 ov H1 := ho.kept (hfr.2 o0 ho.lt ap5.r.2)
  generalize H1 = H at hw hS ho ⊢
  refine lv_i2l (v := ((0 : Int32)).toInt64) hx hb d_W_at_7 rfl ?_
  obtain ⟨f, n, ht0, hP⟩ := id hw
  obtain ⟨g, hg0, hPo⟩ := id ho
  have hP5 : va_P (dC, dI) classes (wR r0 r1 r2 r3 cI cC str tb ti tp f n ++ [(o0, .inl (cL, 1, .inr (.inl g)))]) H := hP.app hPo
  have hD5 : va_D (aH r0 r1 r2 r3 o0) (wR r0 r1 r2 r3 cI cC str tb ti tp f n ++ [(o0, .inl (cL, 1, .inr (.inl g)))]) := vd_of ap5 (fun a ha => ha)
  refine va_last (D := (dC, dI)) hx hb hK5 hP5 hD5 hS 4 2 rfl rfl (i := 0) (by unfold vp_in; decide) d_W_at_8 (fun H locs hP5 hD5 hS => ?_)
  have hw : rwd dC dI cI cC r0 r1 r2 r3 str tb ti tp v H := ⟨f, n, ht0, hP5.sub [0, 1, 2, 3] rfl⟩
  have ho : ow dC dI cL o0 (((0 : Int32)).toInt64) H := ⟨_, rfl, hP5.sub [4] rfl⟩
  refine lv_goto (tgt := 15) hx hb d_W_at_9 (by decide) ?_
  refine lv_iconst (v := 0) hx hb d_W_at_15 (by decide) ?_
  exact W.iret (v := 0) hx hb hr (fun t ht hW => ⟨⟨0, (), rfl, rfl, by rw [ht]; exact hw, by rw [ht]; exact ho⟩, hS.F ht⟩) hS.2.2 d_W_at_16
theorem call_W_at0 {p : Program} {l : Launch} {e : Env} {R : Room} {s : State} {m : MethodId} {args : Array Value} {below : List Frame} {meth : Method} {c : Code} {H : Heap} {locs : List Loc} {cells slots : Nat} {Q : State → Prop} {cc : ByteArray} {pc nL idx : Nat} {ls : Array Slot} {rest : List Value} {Ts : List Cond} {own : String} {adE adK adV : Nat → Nat} {A0 : Nat → Prop} {dC : Nat → ClassId} {dI : Nat → Nat → Nat} {cI cC cL : ClassId} {r0 r1 r2 r3 o0 : Nat} {str : Nat → Int32} {tb ti tp : Int32} {v : List Int32} {ov : Int64} {a : Nat} (S : CallFix p m c cc nL s args Ts own) (hTs : ∀ w ∈ WT, w ∈ Ts) (hlk : Cond.methodLink own idx y_W_at ∈ WT)  (hR : 10 + 1 ≤ R.frames ∧ 8 + (4 + 11) + 240 ≤ R.locals) (hsz : ls.size = nL) (hrm : (rest.map fun v => v.category).sum ≤ 8) (hdg : decode cc pc = .ok (.invokestatic idx, 3)) (hc : cells + 0 ≤ R.cells ∧ slots + 0 ≤ R.slots) (hK : hK5 dC dI cI cC cL s) (ap : apH r0 r1 r2 r3 o0) (hC : cx adE adK adV A0 s s.heap) (hX : xS A0 s s.heap) (hS : va_S A0 s.heap H locs) (hA : ∀ q, aH r0 r1 r2 r3 o0 q → A0 q) (hw : rwd dC dI cI cC r0 r1 r2 r3 str tb ti tp v H) (ho : ow dC dI cL o0 ov H) (hcd : a < 256 ∧ f_R_isWholeAt str (nI a) = 0) (kk : ∀ (H1 : Heap) (locs1 : List Loc), rwd dC dI cI cC r0 r1 r2 r3 str tb ti tp v H1 → ow dC dI cL o0 (((0 : Int32)).toInt64) H1 → va_S A0 s.heap H1 locs1 → (H.size ≤ H1.size ∧ ∀ q : Nat, q < H.size → ¬ aH r0 r1 r2 r3 o0 q → H1[q]? = H[q]?) → W p l e R s m args below meth c H1 locs1 (cells + 0) (slots + 0) Q (F0 m (pc + 3) ls (.int 0 :: rest))) : W p l e R s m args below meth c H locs cells slots Q (F0 m pc ls (.ref o0 :: .int (nI a) :: .ref r0 :: rest)) :=
  va_calli (xw_runS (n := 3) (hh := [(0, 9, 12, 13)]) (bytes := b_W_at) (maxL := 4) (ret := some .int) (As := [.ref r0, .int (nI a), .ref o0]) (rest := rest) S (c_W_at0 l adE adK adV dC dI cI cC cL r0 r1 r2 r3 o0 str tb ti tp v ov a) (gS hTs hlk m_676 m_49 m_677) ⟨WT, rfl⟩ rfl rfl (by decide +kernel) hR ⟨fun a U g mk q => ⟨q.1, ⟨q.2.1.blind, q.2.2⟩⟩, fun U hU1 hW => ⟨rfl, ⟨hU.at hK ap hC hX hS hA hw ho hU1 hW, hcd⟩⟩⟩ rfl rfl hsz rfl (lv_room hrm) hdg hc) hS (fun q _ h => hA q h) hA (fun r u t H1 locs1 ht hvm hp hB hz hk hS1 => by subst hp; exact kk H1 locs1 (by rw [← ht]; exact hB.1) (by rw [← ht]; exact hB.2) hS1 ⟨hz, hk⟩)

set_option maxRecDepth 100000 in
set_option maxHeartbeats 4000000 in
theorem c_W_at1 (l : Launch) (adE adK adV : Nat → Nat) (dC : Nat → ClassId) (dI : Nat → Nat → Nat) (cI cC cL : ClassId) (r0 r1 r2 r3 o0 : Nat) (str : Nat → Int32) (tb ti tp : Int32) (v : List Int32) (ov : Int64) (a : Nat) : Met l y_W_at (Cond.codeWith y_W_at b_W_at 4 (some .int) [(0, 9, 12, 13)] :: WT) ({ frames := 10, cells := 0, slots := 0, locals := 240 }) (va_Pc [.ref r0, .int (nI a), .ref o0] (fun U => hU adE adK adV dC dI cI cC cL r0 r1 r2 r3 o0 str tb ti tp v ov U ∧ a < 256 ∧ ¬ f_R_isWholeAt str (nI a) = 0)) (va_Qi (fun (r : Int32) (_ : Unit) => r = 0) (fun _ t => rwd dC dI cI cC r0 r1 r2 r3 str (f_tb (f_R_bitsAt str (nI a))) (f_K_isInstruction (f_R_kindOf (f_R_bitsAt str (nI a)))) (f_K_operandCount (f_R_kindOf (f_R_bitsAt str (nI a)))) (f_T_write (f_R_kindOf (f_R_bitsAt str (nI a))) (f_R_bitsAt str (nI a))) t.heap ∧ ow dC dI cL o0 ((f_tb (f_R_bitsAt str (nI a))).toInt64) t.heap) (aH r0 r1 r2 r3 o0)) 0 0 (aH r0 r1 r2 r3 o0) := by
  refine va_MetW (cc := b_W_at) (maxL := 4) (ret := some .int) (hh := [(0, 9, 12, 13)]) (by decide +kernel) rfl ?_
  intro p e s m args below meth c s₁ B hml hv
  obtain ⟨rfl, ⟨hK5, ap5, hC, hX, hw, ho⟩, ha, hq⟩ := hv
  have hx := B.exec
  have hb := B.bytes
  have hr := B.returns
  have hts := atoms_spec (ws := (Cond.codeWith y_W_at b_W_at 4 (some .int) [(0, 9, 12, 13)] :: WT)) B.pre
  have hT : ∀ w ∈ WT, w.before _ s = true := fun w h => hts w (inC w h)
  have hown : s.vm.findClass R_W = some m.cls := findClass_of_methodNamed B.named
  have hlocks := B.notSynchronized
  have hS : va_S (aH r0 r1 r2 r3 o0) s.heap s.heap [] := va_S.rf
  have S : CallFix p m c b_W_at 4 s _ (Cond.codeWith y_W_at b_W_at 4 (some .int) [(0, 9, 12, 13)] :: WT) R_W := ⟨hx, hb, hml, hown, hts⟩
  have hl := lv_entry ([.ref r0, .int (nI a), .ref o0]) (n := 4) (Nat.le_of_ble_eq_true rfl)
  rw [lg_entry_eq]
  generalize (lg_sl ([.ref r0, .int (nI a), .ref o0]) ++ List.replicate (4 - (lg_sl ([.ref r0, .int (nI a), .ref o0])).length) Slot.unset).toArray = ls at hl ⊢
  have hl : lv_has ls 4 [(0, .ref r0), (1, .int (nI a)), (2, .ref o0)] := hl
  have hA : ∀ q, aR r0 r1 r2 r3 q → aH r0 r1 r2 r3 o0 q := aR_H
  have hK := hK5.r
  have ap := ap5.r.1
  have hmap := x_table B (hts _ List.mem_cons_self)
  refine lv_aload_n hx hb d_W_at_0 rfl (lv_at hl 2 rfl) ?_
  refine lv_iconst (v := 0) hx hb d_W_at_1 (by decide) ?_
  refine lv_aload_n hx hb d_W_at_2 rfl (lv_at hl 0 rfl) ?_
  refine lv_iload_n hx hb d_W_at_3 rfl (lv_at hl 1 rfl) ?_
  refine call_R_at1 S inC m_678 ⟨(Nat.le_of_ble_eq_true rfl), (Nat.le_of_ble_eq_true rfl)⟩ hl.1 (Nat.le_of_ble_eq_true rfl) d_W_at_4 ⟨(Nat.le_of_ble_eq_true rfl), (Nat.le_of_ble_eq_true rfl)⟩ hK ap hC hS hA hw ha hq (fun H1 locs hw hS hfr => ?_)
  have ho : ow dC dI cL o0 ov H1 := ho.kept (hfr.2 o0 ho.lt ap5.r.2)
  generalize H1 = H at hw hS ho ⊢
  refine lv_i2l (v := (f_tb (f_R_bitsAt str (nI a))).toInt64) hx hb d_W_at_7 rfl ?_
  obtain ⟨f, n, ht0, hP⟩ := id hw
  obtain ⟨g, hg0, hPo⟩ := id ho
  have hP5 : va_P (dC, dI) classes (wR r0 r1 r2 r3 cI cC str (f_tb (f_R_bitsAt str (nI a))) (f_K_isInstruction (f_R_kindOf (f_R_bitsAt str (nI a)))) (f_K_operandCount (f_R_kindOf (f_R_bitsAt str (nI a)))) f n ++ [(o0, .inl (cL, 1, .inr (.inl g)))]) H := hP.app hPo
  have hD5 : va_D (aH r0 r1 r2 r3 o0) (wR r0 r1 r2 r3 cI cC str (f_tb (f_R_bitsAt str (nI a))) (f_K_isInstruction (f_R_kindOf (f_R_bitsAt str (nI a)))) (f_K_operandCount (f_R_kindOf (f_R_bitsAt str (nI a)))) f n ++ [(o0, .inl (cL, 1, .inr (.inl g)))]) := vd_of ap5 (fun a ha => ha)
  refine va_last (D := (dC, dI)) hx hb hK5 hP5 hD5 hS 4 2 rfl rfl (i := 0) (by unfold vp_in; decide) d_W_at_8 (fun H locs hP5 hD5 hS => ?_)
  have hw : rwd dC dI cI cC r0 r1 r2 r3 str (f_tb (f_R_bitsAt str (nI a))) (f_K_isInstruction (f_R_kindOf (f_R_bitsAt str (nI a)))) (f_K_operandCount (f_R_kindOf (f_R_bitsAt str (nI a)))) (f_T_write (f_R_kindOf (f_R_bitsAt str (nI a))) (f_R_bitsAt str (nI a))) H := ⟨f, n, ht0, hP5.sub [0, 1, 2, 3] rfl⟩
  have ho : ow dC dI cL o0 ((f_tb (f_R_bitsAt str (nI a))).toInt64) H := ⟨_, rfl, hP5.sub [4] rfl⟩
  refine lv_goto (tgt := 15) hx hb d_W_at_9 (by decide) ?_
  refine lv_iconst (v := 0) hx hb d_W_at_15 (by decide) ?_
  exact W.iret (v := 0) hx hb hr (fun t ht hW => ⟨⟨0, (), rfl, rfl, by rw [ht]; exact hw, by rw [ht]; exact ho⟩, hS.F ht⟩) hS.2.2 d_W_at_16
theorem call_W_at1 {p : Program} {l : Launch} {e : Env} {R : Room} {s : State} {m : MethodId} {args : Array Value} {below : List Frame} {meth : Method} {c : Code} {H : Heap} {locs : List Loc} {cells slots : Nat} {Q : State → Prop} {cc : ByteArray} {pc nL idx : Nat} {ls : Array Slot} {rest : List Value} {Ts : List Cond} {own : String} {adE adK adV : Nat → Nat} {A0 : Nat → Prop} {dC : Nat → ClassId} {dI : Nat → Nat → Nat} {cI cC cL : ClassId} {r0 r1 r2 r3 o0 : Nat} {str : Nat → Int32} {tb ti tp : Int32} {v : List Int32} {ov : Int64} {a : Nat} (S : CallFix p m c cc nL s args Ts own) (hTs : ∀ w ∈ WT, w ∈ Ts) (hlk : Cond.methodLink own idx y_W_at ∈ WT)  (hR : 10 + 1 ≤ R.frames ∧ 8 + (4 + 11) + 240 ≤ R.locals) (hsz : ls.size = nL) (hrm : (rest.map fun v => v.category).sum ≤ 8) (hdg : decode cc pc = .ok (.invokestatic idx, 3)) (hc : cells + 0 ≤ R.cells ∧ slots + 0 ≤ R.slots) (hK : hK5 dC dI cI cC cL s) (ap : apH r0 r1 r2 r3 o0) (hC : cx adE adK adV A0 s s.heap) (hX : xS A0 s s.heap) (hS : va_S A0 s.heap H locs) (hA : ∀ q, aH r0 r1 r2 r3 o0 q → A0 q) (hw : rwd dC dI cI cC r0 r1 r2 r3 str tb ti tp v H) (ho : ow dC dI cL o0 ov H) (hcd : a < 256 ∧ ¬ f_R_isWholeAt str (nI a) = 0) (kk : ∀ (H1 : Heap) (locs1 : List Loc), rwd dC dI cI cC r0 r1 r2 r3 str (f_tb (f_R_bitsAt str (nI a))) (f_K_isInstruction (f_R_kindOf (f_R_bitsAt str (nI a)))) (f_K_operandCount (f_R_kindOf (f_R_bitsAt str (nI a)))) (f_T_write (f_R_kindOf (f_R_bitsAt str (nI a))) (f_R_bitsAt str (nI a))) H1 → ow dC dI cL o0 ((f_tb (f_R_bitsAt str (nI a))).toInt64) H1 → va_S A0 s.heap H1 locs1 → (H.size ≤ H1.size ∧ ∀ q : Nat, q < H.size → ¬ aH r0 r1 r2 r3 o0 q → H1[q]? = H[q]?) → W p l e R s m args below meth c H1 locs1 (cells + 0) (slots + 0) Q (F0 m (pc + 3) ls (.int 0 :: rest))) : W p l e R s m args below meth c H locs cells slots Q (F0 m pc ls (.ref o0 :: .int (nI a) :: .ref r0 :: rest)) :=
  va_calli (xw_runS (n := 3) (hh := [(0, 9, 12, 13)]) (bytes := b_W_at) (maxL := 4) (ret := some .int) (As := [.ref r0, .int (nI a), .ref o0]) (rest := rest) S (c_W_at1 l adE adK adV dC dI cI cC cL r0 r1 r2 r3 o0 str tb ti tp v ov a) (gS hTs hlk m_676 m_49 m_677) ⟨WT, rfl⟩ rfl rfl (by decide +kernel) hR ⟨fun a U g mk q => ⟨q.1, ⟨q.2.1.blind, q.2.2⟩⟩, fun U hU1 hW => ⟨rfl, ⟨hU.at hK ap hC hX hS hA hw ho hU1 hW, hcd⟩⟩⟩ rfl rfl hsz rfl (lv_room hrm) hdg hc) hS (fun q _ h => hA q h) hA (fun r u t H1 locs1 ht hvm hp hB hz hk hS1 => by subst hp; exact kk H1 locs1 (by rw [← ht]; exact hB.1) (by rw [← ht]; exact hB.2) hS1 ⟨hz, hk⟩)

set_option maxRecDepth 100000 in
set_option maxHeartbeats 4000000 in
theorem c_W_poke (l : Launch) (adE adK adV : Nat → Nat) (dC : Nat → ClassId) (dI : Nat → Nat → Nat) (cI cC cL : ClassId) (r0 r1 r2 r3 o0 : Nat) (str : Nat → Int32) (tb ti tp : Int32) (v : List Int32) (ov : Int64) (a : Nat) (x : Int32) : Met l y_W_poke (Cond.codeWith y_W_poke b_W_poke 4 (some .int) [(0, 6, 9, 13)] :: WT) ({ frames := 10, cells := 0, slots := 0, locals := 240 }) (va_Pc [.ref r0, .int (nI a), .int x] (fun U => hU adE adK adV dC dI cI cC cL r0 r1 r2 r3 o0 str tb ti tp v ov U ∧ a < 256)) (va_Qi (fun (r : Int32) (_ : Unit) => r = 0) (fun _ t => rwd dC dI cI cC r0 r1 r2 r3 (upd str a (x &&& 255)) tb ti tp v t.heap ∧ ow dC dI cL o0 ov t.heap) (aH r0 r1 r2 r3 o0)) 0 0 (aH r0 r1 r2 r3 o0) := by
  refine va_MetW (cc := b_W_poke) (maxL := 4) (ret := some .int) (hh := [(0, 6, 9, 13)]) (by decide +kernel) rfl ?_
  intro p e s m args below meth c s₁ B hml hv
  obtain ⟨rfl, ⟨hK5, ap5, hC, hX, hw, ho⟩, ha⟩ := hv
  have hx := B.exec
  have hb := B.bytes
  have hr := B.returns
  have hts := atoms_spec (ws := (Cond.codeWith y_W_poke b_W_poke 4 (some .int) [(0, 6, 9, 13)] :: WT)) B.pre
  have hT : ∀ w ∈ WT, w.before _ s = true := fun w h => hts w (inC w h)
  have hown : s.vm.findClass R_W = some m.cls := findClass_of_methodNamed B.named
  have hlocks := B.notSynchronized
  have hS : va_S (aH r0 r1 r2 r3 o0) s.heap s.heap [] := va_S.rf
  have S : CallFix p m c b_W_poke 4 s _ (Cond.codeWith y_W_poke b_W_poke 4 (some .int) [(0, 6, 9, 13)] :: WT) R_W := ⟨hx, hb, hml, hown, hts⟩
  have hl := lv_entry ([.ref r0, .int (nI a), .int x]) (n := 4) (Nat.le_of_ble_eq_true rfl)
  rw [lg_entry_eq]
  generalize (lg_sl ([.ref r0, .int (nI a), .int x]) ++ List.replicate (4 - (lg_sl ([.ref r0, .int (nI a), .int x])).length) Slot.unset).toArray = ls at hl ⊢
  have hl : lv_has ls 4 [(0, .ref r0), (1, .int (nI a)), (2, .int x)] := hl
  have hA : ∀ q, aR r0 r1 r2 r3 q → aH r0 r1 r2 r3 o0 q := aR_H
  have hK := hK5.r
  have ap := ap5.r.1
  have hmap := x_table B (hts _ List.mem_cons_self)
  refine lv_aload_n hx hb d_W_poke_0 rfl (lv_at hl 0 rfl) ?_
  refine lv_iload_n hx hb d_W_poke_1 rfl (lv_at hl 1 rfl) ?_
  refine lv_iload_n hx hb d_W_poke_2 rfl (lv_at hl 2 rfl) ?_
  refine call_R_poke S inC m_664 ⟨(Nat.le_of_ble_eq_true rfl), (Nat.le_of_ble_eq_true rfl)⟩ hl.1 (Nat.le_of_ble_eq_true rfl) d_W_poke_3 ⟨(Nat.le_of_ble_eq_true rfl), (Nat.le_of_ble_eq_true rfl)⟩ hK ap hC hS hA hw ha (fun H1 locs hw hS hfr => ?_)
  have ho : ow dC dI cL o0 ov H1 := ho.kept (hfr.2 o0 ho.lt ap5.r.2)
  refine lv_goto (tgt := 12) hx hb d_W_poke_6 (by decide) ?_
  refine lv_iconst (v := 0) hx hb d_W_poke_12 (by decide) ?_
  exact W.iret (v := 0) hx hb hr (fun t ht hW => ⟨⟨0, (), rfl, rfl, by rw [ht]; exact hw, by rw [ht]; exact ho⟩, hS.F ht⟩) hS.2.2 d_W_poke_13
theorem call_W_poke {p : Program} {l : Launch} {e : Env} {R : Room} {s : State} {m : MethodId} {args : Array Value} {below : List Frame} {meth : Method} {c : Code} {H : Heap} {locs : List Loc} {cells slots : Nat} {Q : State → Prop} {cc : ByteArray} {pc nL idx : Nat} {ls : Array Slot} {rest : List Value} {Ts : List Cond} {own : String} {adE adK adV : Nat → Nat} {A0 : Nat → Prop} {dC : Nat → ClassId} {dI : Nat → Nat → Nat} {cI cC cL : ClassId} {r0 r1 r2 r3 o0 : Nat} {str : Nat → Int32} {tb ti tp : Int32} {v : List Int32} {ov : Int64} {a : Nat} {x : Int32} (S : CallFix p m c cc nL s args Ts own) (hTs : ∀ w ∈ WT, w ∈ Ts) (hlk : Cond.methodLink own idx y_W_poke ∈ WT)  (hR : 10 + 1 ≤ R.frames ∧ 8 + (4 + 11) + 240 ≤ R.locals) (hsz : ls.size = nL) (hrm : (rest.map fun v => v.category).sum ≤ 8) (hdg : decode cc pc = .ok (.invokestatic idx, 3)) (hc : cells + 0 ≤ R.cells ∧ slots + 0 ≤ R.slots) (hK : hK5 dC dI cI cC cL s) (ap : apH r0 r1 r2 r3 o0) (hC : cx adE adK adV A0 s s.heap) (hX : xS A0 s s.heap) (hS : va_S A0 s.heap H locs) (hA : ∀ q, aH r0 r1 r2 r3 o0 q → A0 q) (hw : rwd dC dI cI cC r0 r1 r2 r3 str tb ti tp v H) (ho : ow dC dI cL o0 ov H) (hcd : a < 256) (kk : ∀ (H1 : Heap) (locs1 : List Loc), rwd dC dI cI cC r0 r1 r2 r3 (upd str a (x &&& 255)) tb ti tp v H1 → ow dC dI cL o0 ov H1 → va_S A0 s.heap H1 locs1 → (H.size ≤ H1.size ∧ ∀ q : Nat, q < H.size → ¬ aH r0 r1 r2 r3 o0 q → H1[q]? = H[q]?) → W p l e R s m args below meth c H1 locs1 (cells + 0) (slots + 0) Q (F0 m (pc + 3) ls (.int 0 :: rest))) : W p l e R s m args below meth c H locs cells slots Q (F0 m pc ls (.int x :: .int (nI a) :: .ref r0 :: rest)) :=
  va_calli (xw_runS (n := 3) (hh := [(0, 6, 9, 13)]) (bytes := b_W_poke) (maxL := 4) (ret := some .int) (As := [.ref r0, .int (nI a), .int x]) (rest := rest) S (c_W_poke l adE adK adV dC dI cI cC cL r0 r1 r2 r3 o0 str tb ti tp v ov a x) (gS hTs hlk m_662 m_49 m_663) ⟨WT, rfl⟩ rfl rfl (by decide +kernel) hR ⟨fun a U g mk q => ⟨q.1, ⟨q.2.1.blind, q.2.2⟩⟩, fun U hU1 hW => ⟨rfl, ⟨hU.at hK ap hC hX hS hA hw ho hU1 hW, hcd⟩⟩⟩ rfl rfl hsz rfl (lv_room hrm) hdg hc) hS (fun q _ h => hA q h) hA (fun r u t H1 locs1 ht hvm hp hB hz hk hS1 => by subst hp; exact kk H1 locs1 (by rw [← ht]; exact hB.1) (by rw [← ht]; exact hB.2) hS1 ⟨hz, hk⟩)

set_option maxRecDepth 100000 in
set_option maxHeartbeats 4000000 in
theorem c_W_letterX (l : Launch) (hfl : l.flags = pinnedFlags ++ [noTraceFlag]) (adE adK adV : Nat → Nat) (dC : Nat → ClassId) (dI : Nat → Nat → Nat) (cI cC cL : ClassId) (r0 r1 r2 r3 o0 : Nat) (str : Nat → Int32) (tb ti tp : Int32) (v : List Int32) (ov : Int64) (x : Int32) : Met l y_W_letter (Cond.codeWith y_W_letter b_W_letter 4 (some .int) [(0, 9, 12, 13)] :: WT) ({ frames := 10, cells := 1, slots := 6, locals := 240 }) (va_Pc [.ref r0, .int x, .ref o0] (fun U => hU adE adK adV dC dI cI cC cL r0 r1 r2 r3 o0 str tb ti tp v ov U ∧ (x < 0 ∨ nI (min v.length 40) ≤ x))) (va_Qi (fun (r : Int32) (_ : Unit) => r = 1) (fun _ t => rwd dC dI cI cC r0 r1 r2 r3 str tb ti tp v t.heap ∧ ow dC dI cL o0 ov t.heap) (aH r0 r1 r2 r3 o0)) 1 6 (aH r0 r1 r2 r3 o0) := by
  refine va_MetW (cc := b_W_letter) (maxL := 4) (ret := some .int) (hh := [(0, 9, 12, 13)]) (by decide +kernel) rfl ?_
  intro p e s m args below meth c s₁ B hml hv
  obtain ⟨rfl, ⟨hK5, ap5, hC, hX, hw, ho⟩, hj⟩ := hv
  have hx := B.exec
  have hb := B.bytes
  have hr := B.returns
  have hts := atoms_spec (ws := (Cond.codeWith y_W_letter b_W_letter 4 (some .int) [(0, 9, 12, 13)] :: WT)) B.pre
  have hT : ∀ w ∈ WT, w.before _ s = true := fun w h => hts w (inC w h)
  have hown : s.vm.findClass R_W = some m.cls := findClass_of_methodNamed B.named
  have hlocks := B.notSynchronized
  have hS : va_S (aH r0 r1 r2 r3 o0) s.heap s.heap [] := va_S.rf
  have S : CallFix p m c b_W_letter 4 s _ (Cond.codeWith y_W_letter b_W_letter 4 (some .int) [(0, 9, 12, 13)] :: WT) R_W := ⟨hx, hb, hml, hown, hts⟩
  have hl := lv_entry ([.ref r0, .int x, .ref o0]) (n := 4) (Nat.le_of_ble_eq_true rfl)
  rw [lg_entry_eq]
  generalize (lg_sl ([.ref r0, .int x, .ref o0]) ++ List.replicate (4 - (lg_sl ([.ref r0, .int x, .ref o0])).length) Slot.unset).toArray = ls at hl ⊢
  have hl : lv_has ls 4 [(0, .ref r0), (1, .int x), (2, .ref o0)] := hl
  have hA : ∀ q, aR r0 r1 r2 r3 q → aH r0 r1 r2 r3 o0 q := aR_H
  have hK := hK5.r
  have ap := ap5.r.1
  have hmap := x_table B (hts _ List.mem_cons_self)
  refine lv_aload_n hx hb d_W_letter_0 rfl (lv_at hl 2 rfl) ?_
  refine lv_iconst (v := 0) hx hb d_W_letter_1 (by decide) ?_
  refine lv_aload_n hx hb d_W_letter_2 rfl (lv_at hl 0 rfl) ?_
  refine lv_iload_n hx hb d_W_letter_3 rfl (lv_at hl 1 rfl) ?_
  refine x_catch1 (x_runV (As := [.int x]) (rest := [.int 0, .ref o0]) S (k_R_letter l hfl adE adK adV dC dI cI cC r0 r1 r2 r3 str tb ti tp v x) (cwV 1 hts (gV inC m_587 m_588 m_589 m_50 m_590) rfl rfl rfl (by decide +kernel) ⟨(Nat.le_of_ble_eq_true rfl), (Nat.le_of_ble_eq_true rfl)⟩) ⟨fun a U g mk q => ⟨q.1, va_K.moved (u := U) (U := U.calling g mk a) (Vm.Alike.refl U.vm) q.2.1, q.2.2.1, q.2.2.2.1.blind, q.2.2.2.2.1.blind, q.2.2.2.2.2⟩, rwd.recv hK hw, fun U hU hW => ⟨rfl, va_K.moved hW.alike hK, by rw [hU]; exact hw, hC.at hS no_in hU hW, hX.at hS no_in hU hW, hj⟩⟩ rfl rfl hl.1 rfl (lv_room (Nat.le_of_ble_eq_true rfl)) d_W_letter_4 ⟨(Nat.le_of_ble_eq_true rfl), (Nat.le_of_ble_eq_true rfl)⟩) hown hmap ⟨by decide, by decide⟩ (by decide) (hT _ m_586) (fun H1 q hz hk => ?_)
  have hS : va_S (aH r0 r1 r2 r3 o0) s.heap H1 [] := ⟨hz, fun i hi _ => hk i hi, fun _ h => by cases h⟩
  have hw := hw.kept (fun i hi _ => hk i hi)
  have ho := ho.kept (hk o0 ho.lt)
  refine lv_astore_n (lv' := (3, .ref q) :: [(0, .ref r0), (1, .int x), (2, .ref o0)]) hx hb d_W_letter_12 rfl hl (by decide) rfl (fun ls hl => ?_)
  refine lv_iconst (v := 1) hx hb d_W_letter_13 (by decide) ?_
  exact W.iret (v := 1) hx hb hr (fun t ht hW => ⟨⟨1, (), rfl, rfl, by rw [ht]; exact hw, by rw [ht]; exact ho⟩, hS.F ht⟩) hS.2.2 d_W_letter_14
theorem call_W_letterX {p : Program} {l : Launch} {e : Env} {R : Room} {s : State} {m : MethodId} {args : Array Value} {below : List Frame} {meth : Method} {c : Code} {H : Heap} {locs : List Loc} {cells slots : Nat} {Q : State → Prop} {cc : ByteArray} {pc nL idx : Nat} {ls : Array Slot} {rest : List Value} {Ts : List Cond} {own : String} {adE adK adV : Nat → Nat} {A0 : Nat → Prop} {dC : Nat → ClassId} {dI : Nat → Nat → Nat} {cI cC cL : ClassId} {r0 r1 r2 r3 o0 : Nat} {str : Nat → Int32} {tb ti tp : Int32} {v : List Int32} {ov : Int64} {x : Int32} (S : CallFix p m c cc nL s args Ts own) (hTs : ∀ w ∈ WT, w ∈ Ts) (hlk : Cond.methodLink own idx y_W_letter ∈ WT) (hfl : l.flags = pinnedFlags ++ [noTraceFlag]) (hR : 10 + 1 ≤ R.frames ∧ 8 + (4 + 11) + 240 ≤ R.locals) (hsz : ls.size = nL) (hrm : (rest.map fun v => v.category).sum ≤ 8) (hdg : decode cc pc = .ok (.invokestatic idx, 3)) (hc : cells + 1 ≤ R.cells ∧ slots + 6 ≤ R.slots) (hK : hK5 dC dI cI cC cL s) (ap : apH r0 r1 r2 r3 o0) (hC : cx adE adK adV A0 s s.heap) (hX : xS A0 s s.heap) (hS : va_S A0 s.heap H locs) (hA : ∀ q, aH r0 r1 r2 r3 o0 q → A0 q) (hw : rwd dC dI cI cC r0 r1 r2 r3 str tb ti tp v H) (ho : ow dC dI cL o0 ov H) (hcd : (x < 0 ∨ nI (min v.length 40) ≤ x)) (kk : ∀ (H1 : Heap) (locs1 : List Loc), rwd dC dI cI cC r0 r1 r2 r3 str tb ti tp v H1 → ow dC dI cL o0 ov H1 → va_S A0 s.heap H1 locs1 → (H.size ≤ H1.size ∧ ∀ q : Nat, q < H.size → ¬ aH r0 r1 r2 r3 o0 q → H1[q]? = H[q]?) → W p l e R s m args below meth c H1 locs1 (cells + 1) (slots + 6) Q (F0 m (pc + 3) ls (.int 1 :: rest))) : W p l e R s m args below meth c H locs cells slots Q (F0 m pc ls (.ref o0 :: .int x :: .ref r0 :: rest)) :=
  va_calli (xw_runS (n := 3) (hh := [(0, 9, 12, 13)]) (bytes := b_W_letter) (maxL := 4) (ret := some .int) (As := [.ref r0, .int x, .ref o0]) (rest := rest) S (c_W_letterX l hfl adE adK adV dC dI cI cC cL r0 r1 r2 r3 o0 str tb ti tp v ov x) (gS hTs hlk m_584 m_49 m_585) ⟨WT, rfl⟩ rfl rfl (by decide +kernel) hR ⟨fun a U g mk q => ⟨q.1, ⟨q.2.1.blind, q.2.2⟩⟩, fun U hU1 hW => ⟨rfl, ⟨hU.at hK ap hC hX hS hA hw ho hU1 hW, hcd⟩⟩⟩ rfl rfl hsz rfl (lv_room hrm) hdg hc) hS (fun q _ h => hA q h) hA (fun r u t H1 locs1 ht hvm hp hB hz hk hS1 => by subst hp; exact kk H1 locs1 (by rw [← ht]; exact hB.1) (by rw [← ht]; exact hB.2) hS1 ⟨hz, hk⟩)

set_option maxRecDepth 100000 in
set_option maxHeartbeats 4000000 in
theorem c_W_pokeX (l : Launch) (hfl : l.flags = pinnedFlags ++ [noTraceFlag]) (adE adK adV : Nat → Nat) (dC : Nat → ClassId) (dI : Nat → Nat → Nat) (cI cC cL : ClassId) (r0 r1 r2 r3 o0 : Nat) (str : Nat → Int32) (tb ti tp : Int32) (v : List Int32) (ov : Int64) (x y : Int32) : Met l y_W_poke (Cond.codeWith y_W_poke b_W_poke 4 (some .int) [(0, 6, 9, 13)] :: WT) ({ frames := 10, cells := 1, slots := 6, locals := 240 }) (va_Pc [.ref r0, .int x, .int y] (fun U => hU adE adK adV dC dI cI cC cL r0 r1 r2 r3 o0 str tb ti tp v ov U ∧ f_R_isAddress x = 0)) (va_Qi (fun (r : Int32) (_ : Unit) => r = 1) (fun _ t => rwd dC dI cI cC r0 r1 r2 r3 str tb ti tp v t.heap ∧ ow dC dI cL o0 ov t.heap) (aH r0 r1 r2 r3 o0)) 1 6 (aH r0 r1 r2 r3 o0) := by
  refine va_MetW (cc := b_W_poke) (maxL := 4) (ret := some .int) (hh := [(0, 6, 9, 13)]) (by decide +kernel) rfl ?_
  intro p e s m args below meth c s₁ B hml hv
  obtain ⟨rfl, ⟨hK5, ap5, hC, hX, hw, ho⟩, hj⟩ := hv
  have hx := B.exec
  have hb := B.bytes
  have hr := B.returns
  have hts := atoms_spec (ws := (Cond.codeWith y_W_poke b_W_poke 4 (some .int) [(0, 6, 9, 13)] :: WT)) B.pre
  have hT : ∀ w ∈ WT, w.before _ s = true := fun w h => hts w (inC w h)
  have hown : s.vm.findClass R_W = some m.cls := findClass_of_methodNamed B.named
  have hlocks := B.notSynchronized
  have hS : va_S (aH r0 r1 r2 r3 o0) s.heap s.heap [] := va_S.rf
  have S : CallFix p m c b_W_poke 4 s _ (Cond.codeWith y_W_poke b_W_poke 4 (some .int) [(0, 6, 9, 13)] :: WT) R_W := ⟨hx, hb, hml, hown, hts⟩
  have hl := lv_entry ([.ref r0, .int x, .int y]) (n := 4) (Nat.le_of_ble_eq_true rfl)
  rw [lg_entry_eq]
  generalize (lg_sl ([.ref r0, .int x, .int y]) ++ List.replicate (4 - (lg_sl ([.ref r0, .int x, .int y])).length) Slot.unset).toArray = ls at hl ⊢
  have hl : lv_has ls 4 [(0, .ref r0), (1, .int x), (2, .int y)] := hl
  have hA : ∀ q, aR r0 r1 r2 r3 q → aH r0 r1 r2 r3 o0 q := aR_H
  have hK := hK5.r
  have ap := ap5.r.1
  have hmap := x_table B (hts _ List.mem_cons_self)
  refine lv_aload_n hx hb d_W_poke_0 rfl (lv_at hl 0 rfl) ?_
  refine lv_iload_n hx hb d_W_poke_1 rfl (lv_at hl 1 rfl) ?_
  refine lv_iload_n hx hb d_W_poke_2 rfl (lv_at hl 2 rfl) ?_
  refine x_catch1 (x_runV (As := [.int x, .int y]) (rest := []) S (k_R_poke l hfl adE adK adV r0 x y) (cwV 2 hts (gV inC m_664 m_665 m_666 m_50 m_667) rfl rfl rfl (by decide +kernel) ⟨(Nat.le_of_ble_eq_true rfl), (Nat.le_of_ble_eq_true rfl)⟩) ⟨fun a U g mk q => ⟨q.1, q.2.1.blind, q.2.2.1.blind, q.2.2.2⟩, rwd.recv hK hw, fun U hU hW => ⟨rfl, hC.at hS no_in hU hW, hX.at hS no_in hU hW, hj⟩⟩ rfl rfl hl.1 rfl (lv_room (Nat.le_of_ble_eq_true rfl)) d_W_poke_3 ⟨(Nat.le_of_ble_eq_true rfl), (Nat.le_of_ble_eq_true rfl)⟩) hown hmap ⟨by decide, by decide⟩ (by decide) (hT _ m_586) (fun H1 q hz hk => ?_)
  have hS : va_S (aH r0 r1 r2 r3 o0) s.heap H1 [] := ⟨hz, fun i hi _ => hk i hi, fun _ h => by cases h⟩
  have hw := hw.kept (fun i hi _ => hk i hi)
  have ho := ho.kept (hk o0 ho.lt)
  refine lv_astore_n (lv' := (3, .ref q) :: [(0, .ref r0), (1, .int x), (2, .int y)]) hx hb d_W_poke_9 rfl hl (by decide) rfl (fun ls hl => ?_)
  refine lv_iconst (v := 1) hx hb d_W_poke_10 (by decide) ?_
  exact W.iret (v := 1) hx hb hr (fun t ht hW => ⟨⟨1, (), rfl, rfl, by rw [ht]; exact hw, by rw [ht]; exact ho⟩, hS.F ht⟩) hS.2.2 d_W_poke_11
theorem call_W_pokeX {p : Program} {l : Launch} {e : Env} {R : Room} {s : State} {m : MethodId} {args : Array Value} {below : List Frame} {meth : Method} {c : Code} {H : Heap} {locs : List Loc} {cells slots : Nat} {Q : State → Prop} {cc : ByteArray} {pc nL idx : Nat} {ls : Array Slot} {rest : List Value} {Ts : List Cond} {own : String} {adE adK adV : Nat → Nat} {A0 : Nat → Prop} {dC : Nat → ClassId} {dI : Nat → Nat → Nat} {cI cC cL : ClassId} {r0 r1 r2 r3 o0 : Nat} {str : Nat → Int32} {tb ti tp : Int32} {v : List Int32} {ov : Int64} {x y : Int32} (S : CallFix p m c cc nL s args Ts own) (hTs : ∀ w ∈ WT, w ∈ Ts) (hlk : Cond.methodLink own idx y_W_poke ∈ WT) (hfl : l.flags = pinnedFlags ++ [noTraceFlag]) (hR : 10 + 1 ≤ R.frames ∧ 8 + (4 + 11) + 240 ≤ R.locals) (hsz : ls.size = nL) (hrm : (rest.map fun v => v.category).sum ≤ 8) (hdg : decode cc pc = .ok (.invokestatic idx, 3)) (hc : cells + 1 ≤ R.cells ∧ slots + 6 ≤ R.slots) (hK : hK5 dC dI cI cC cL s) (ap : apH r0 r1 r2 r3 o0) (hC : cx adE adK adV A0 s s.heap) (hX : xS A0 s s.heap) (hS : va_S A0 s.heap H locs) (hA : ∀ q, aH r0 r1 r2 r3 o0 q → A0 q) (hw : rwd dC dI cI cC r0 r1 r2 r3 str tb ti tp v H) (ho : ow dC dI cL o0 ov H) (hcd : f_R_isAddress x = 0) (kk : ∀ (H1 : Heap) (locs1 : List Loc), rwd dC dI cI cC r0 r1 r2 r3 str tb ti tp v H1 → ow dC dI cL o0 ov H1 → va_S A0 s.heap H1 locs1 → (H.size ≤ H1.size ∧ ∀ q : Nat, q < H.size → ¬ aH r0 r1 r2 r3 o0 q → H1[q]? = H[q]?) → W p l e R s m args below meth c H1 locs1 (cells + 1) (slots + 6) Q (F0 m (pc + 3) ls (.int 1 :: rest))) : W p l e R s m args below meth c H locs cells slots Q (F0 m pc ls (.int y :: .int x :: .ref r0 :: rest)) :=
  va_calli (xw_runS (n := 3) (hh := [(0, 6, 9, 13)]) (bytes := b_W_poke) (maxL := 4) (ret := some .int) (As := [.ref r0, .int x, .int y]) (rest := rest) S (c_W_pokeX l hfl adE adK adV dC dI cI cC cL r0 r1 r2 r3 o0 str tb ti tp v ov x y) (gS hTs hlk m_662 m_49 m_663) ⟨WT, rfl⟩ rfl rfl (by decide +kernel) hR ⟨fun a U g mk q => ⟨q.1, ⟨q.2.1.blind, q.2.2⟩⟩, fun U hU1 hW => ⟨rfl, ⟨hU.at hK ap hC hX hS hA hw ho hU1 hW, hcd⟩⟩⟩ rfl rfl hsz rfl (lv_room hrm) hdg hc) hS (fun q _ h => hA q h) hA (fun r u t H1 locs1 ht hvm hp hB hz hk hS1 => by subst hp; exact kk H1 locs1 (by rw [← ht]; exact hB.1) (by rw [← ht]; exact hB.2) hS1 ⟨hz, hk⟩)

set_option maxRecDepth 100000 in
set_option maxHeartbeats 4000000 in
theorem c_W_atX (l : Launch) (hfl : l.flags = pinnedFlags ++ [noTraceFlag]) (adE adK adV : Nat → Nat) (dC : Nat → ClassId) (dI : Nat → Nat → Nat) (cI cC cL : ClassId) (r0 r1 r2 r3 o0 : Nat) (str : Nat → Int32) (tb ti tp : Int32) (v : List Int32) (ov : Int64) (x : Int32) : Met l y_W_at (Cond.codeWith y_W_at b_W_at 4 (some .int) [(0, 9, 12, 13)] :: WT) ({ frames := 10, cells := 1, slots := 6, locals := 240 }) (va_Pc [.ref r0, .int x, .ref o0] (fun U => hU adE adK adV dC dI cI cC cL r0 r1 r2 r3 o0 str tb ti tp v ov U ∧ f_R_isAddress x = 0)) (va_Qi (fun (r : Int32) (_ : Unit) => r = 1) (fun _ t => rwd dC dI cI cC r0 r1 r2 r3 str tb ti tp v t.heap ∧ ow dC dI cL o0 ov t.heap) (aH r0 r1 r2 r3 o0)) 1 6 (aH r0 r1 r2 r3 o0) := by
  refine va_MetW (cc := b_W_at) (maxL := 4) (ret := some .int) (hh := [(0, 9, 12, 13)]) (by decide +kernel) rfl ?_
  intro p e s m args below meth c s₁ B hml hv
  obtain ⟨rfl, ⟨hK5, ap5, hC, hX, hw, ho⟩, hj⟩ := hv
  have hx := B.exec
  have hb := B.bytes
  have hr := B.returns
  have hts := atoms_spec (ws := (Cond.codeWith y_W_at b_W_at 4 (some .int) [(0, 9, 12, 13)] :: WT)) B.pre
  have hT : ∀ w ∈ WT, w.before _ s = true := fun w h => hts w (inC w h)
  have hown : s.vm.findClass R_W = some m.cls := findClass_of_methodNamed B.named
  have hlocks := B.notSynchronized
  have hS : va_S (aH r0 r1 r2 r3 o0) s.heap s.heap [] := va_S.rf
  have S : CallFix p m c b_W_at 4 s _ (Cond.codeWith y_W_at b_W_at 4 (some .int) [(0, 9, 12, 13)] :: WT) R_W := ⟨hx, hb, hml, hown, hts⟩
  have hl := lv_entry ([.ref r0, .int x, .ref o0]) (n := 4) (Nat.le_of_ble_eq_true rfl)
  rw [lg_entry_eq]
  generalize (lg_sl ([.ref r0, .int x, .ref o0]) ++ List.replicate (4 - (lg_sl ([.ref r0, .int x, .ref o0])).length) Slot.unset).toArray = ls at hl ⊢
  have hl : lv_has ls 4 [(0, .ref r0), (1, .int x), (2, .ref o0)] := hl
  have hA : ∀ q, aR r0 r1 r2 r3 q → aH r0 r1 r2 r3 o0 q := aR_H
  have hK := hK5.r
  have ap := ap5.r.1
  have hmap := x_table B (hts _ List.mem_cons_self)
  refine lv_aload_n hx hb d_W_at_0 rfl (lv_at hl 2 rfl) ?_
  refine lv_iconst (v := 0) hx hb d_W_at_1 (by decide) ?_
  refine lv_aload_n hx hb d_W_at_2 rfl (lv_at hl 0 rfl) ?_
  refine lv_iload_n hx hb d_W_at_3 rfl (lv_at hl 1 rfl) ?_
  refine x_catch1 (x_runV (As := [.int x]) (rest := [.int 0, .ref o0]) S (k_R_at l hfl adE adK adV r0 x) (cwV 1 hts (gV inC m_678 m_679 m_680 m_50 m_681) rfl rfl rfl (by decide +kernel) ⟨(Nat.le_of_ble_eq_true rfl), (Nat.le_of_ble_eq_true rfl)⟩) ⟨fun a U g mk q => ⟨q.1, q.2.1.blind, q.2.2.1.blind, q.2.2.2⟩, rwd.recv hK hw, fun U hU hW => ⟨rfl, hC.at hS no_in hU hW, hX.at hS no_in hU hW, hj⟩⟩ rfl rfl hl.1 rfl (lv_room (Nat.le_of_ble_eq_true rfl)) d_W_at_4 ⟨(Nat.le_of_ble_eq_true rfl), (Nat.le_of_ble_eq_true rfl)⟩) hown hmap ⟨by decide, by decide⟩ (by decide) (hT _ m_586) (fun H1 q hz hk => ?_)
  have hS : va_S (aH r0 r1 r2 r3 o0) s.heap H1 [] := ⟨hz, fun i hi _ => hk i hi, fun _ h => by cases h⟩
  have hw := hw.kept (fun i hi _ => hk i hi)
  have ho := ho.kept (hk o0 ho.lt)
  refine lv_astore_n (lv' := (3, .ref q) :: [(0, .ref r0), (1, .int x), (2, .ref o0)]) hx hb d_W_at_12 rfl hl (by decide) rfl (fun ls hl => ?_)
  refine lv_iconst (v := 1) hx hb d_W_at_13 (by decide) ?_
  exact W.iret (v := 1) hx hb hr (fun t ht hW => ⟨⟨1, (), rfl, rfl, by rw [ht]; exact hw, by rw [ht]; exact ho⟩, hS.F ht⟩) hS.2.2 d_W_at_14
theorem call_W_atX {p : Program} {l : Launch} {e : Env} {R : Room} {s : State} {m : MethodId} {args : Array Value} {below : List Frame} {meth : Method} {c : Code} {H : Heap} {locs : List Loc} {cells slots : Nat} {Q : State → Prop} {cc : ByteArray} {pc nL idx : Nat} {ls : Array Slot} {rest : List Value} {Ts : List Cond} {own : String} {adE adK adV : Nat → Nat} {A0 : Nat → Prop} {dC : Nat → ClassId} {dI : Nat → Nat → Nat} {cI cC cL : ClassId} {r0 r1 r2 r3 o0 : Nat} {str : Nat → Int32} {tb ti tp : Int32} {v : List Int32} {ov : Int64} {x : Int32} (S : CallFix p m c cc nL s args Ts own) (hTs : ∀ w ∈ WT, w ∈ Ts) (hlk : Cond.methodLink own idx y_W_at ∈ WT) (hfl : l.flags = pinnedFlags ++ [noTraceFlag]) (hR : 10 + 1 ≤ R.frames ∧ 8 + (4 + 11) + 240 ≤ R.locals) (hsz : ls.size = nL) (hrm : (rest.map fun v => v.category).sum ≤ 8) (hdg : decode cc pc = .ok (.invokestatic idx, 3)) (hc : cells + 1 ≤ R.cells ∧ slots + 6 ≤ R.slots) (hK : hK5 dC dI cI cC cL s) (ap : apH r0 r1 r2 r3 o0) (hC : cx adE adK adV A0 s s.heap) (hX : xS A0 s s.heap) (hS : va_S A0 s.heap H locs) (hA : ∀ q, aH r0 r1 r2 r3 o0 q → A0 q) (hw : rwd dC dI cI cC r0 r1 r2 r3 str tb ti tp v H) (ho : ow dC dI cL o0 ov H) (hcd : f_R_isAddress x = 0) (kk : ∀ (H1 : Heap) (locs1 : List Loc), rwd dC dI cI cC r0 r1 r2 r3 str tb ti tp v H1 → ow dC dI cL o0 ov H1 → va_S A0 s.heap H1 locs1 → (H.size ≤ H1.size ∧ ∀ q : Nat, q < H.size → ¬ aH r0 r1 r2 r3 o0 q → H1[q]? = H[q]?) → W p l e R s m args below meth c H1 locs1 (cells + 1) (slots + 6) Q (F0 m (pc + 3) ls (.int 1 :: rest))) : W p l e R s m args below meth c H locs cells slots Q (F0 m pc ls (.ref o0 :: .int x :: .ref r0 :: rest)) :=
  va_calli (xw_runS (n := 3) (hh := [(0, 9, 12, 13)]) (bytes := b_W_at) (maxL := 4) (ret := some .int) (As := [.ref r0, .int x, .ref o0]) (rest := rest) S (c_W_atX l hfl adE adK adV dC dI cI cC cL r0 r1 r2 r3 o0 str tb ti tp v ov x) (gS hTs hlk m_676 m_49 m_677) ⟨WT, rfl⟩ rfl rfl (by decide +kernel) hR ⟨fun a U g mk q => ⟨q.1, ⟨q.2.1.blind, q.2.2⟩⟩, fun U hU1 hW => ⟨rfl, ⟨hU.at hK ap hC hX hS hA hw ho hU1 hW, hcd⟩⟩⟩ rfl rfl hsz rfl (lv_room hrm) hdg hc) hS (fun q _ h => hA q h) hA (fun r u t H1 locs1 ht hvm hp hB hz hk hS1 => by subst hp; exact kk H1 locs1 (by rw [← ht]; exact hB.1) (by rw [← ht]; exact hB.2) hS1 ⟨hz, hk⟩)

set_option maxRecDepth 100000 in
set_option maxHeartbeats 4000000 in
theorem c_W_nextX (l : Launch) (hfl : l.flags = pinnedFlags ++ [noTraceFlag]) (adE adK adV : Nat → Nat) (dC : Nat → ClassId) (dI : Nat → Nat → Nat) (cI cC cL : ClassId) (r0 r1 r2 r3 o0 : Nat) (str : Nat → Int32) (tb ti tp : Int32) (v : List Int32) (ov : Int64) (x y : Int32) : Met l y_W_next (Cond.codeWith y_W_next b_W_next 5 (some .int) [(0, 10, 13, 13), (0, 10, 17, 27)] :: WT) ({ frames := 10, cells := 1, slots := 6, locals := 240 }) (va_Pc [.ref r0, .int x, .int y, .ref o0] (fun U => hU adE adK adV dC dI cI cC cL r0 r1 r2 r3 o0 str tb ti tp v ov U ∧ f_R_isAddress x = 0)) (va_Qi (fun (r : Int32) (_ : Unit) => r = 1) (fun _ t => rwd dC dI cI cC r0 r1 r2 r3 str tb ti tp v t.heap ∧ ow dC dI cL o0 ov t.heap) (aH r0 r1 r2 r3 o0)) 1 6 (aH r0 r1 r2 r3 o0) := by
  refine va_MetW (cc := b_W_next) (maxL := 5) (ret := some .int) (hh := [(0, 10, 13, 13), (0, 10, 17, 27)]) (by decide +kernel) rfl ?_
  intro p e s m args below meth c s₁ B hml hv
  obtain ⟨rfl, ⟨hK5, ap5, hC, hX, hw, ho⟩, hj⟩ := hv
  have hx := B.exec
  have hb := B.bytes
  have hr := B.returns
  have hts := atoms_spec (ws := (Cond.codeWith y_W_next b_W_next 5 (some .int) [(0, 10, 13, 13), (0, 10, 17, 27)] :: WT)) B.pre
  have hT : ∀ w ∈ WT, w.before _ s = true := fun w h => hts w (inC w h)
  have hown : s.vm.findClass R_W = some m.cls := findClass_of_methodNamed B.named
  have hlocks := B.notSynchronized
  have hS : va_S (aH r0 r1 r2 r3 o0) s.heap s.heap [] := va_S.rf
  have S : CallFix p m c b_W_next 5 s _ (Cond.codeWith y_W_next b_W_next 5 (some .int) [(0, 10, 13, 13), (0, 10, 17, 27)] :: WT) R_W := ⟨hx, hb, hml, hown, hts⟩
  have hl := lv_entry ([.ref r0, .int x, .int y, .ref o0]) (n := 5) (Nat.le_of_ble_eq_true rfl)
  rw [lg_entry_eq]
  generalize (lg_sl ([.ref r0, .int x, .int y, .ref o0]) ++ List.replicate (5 - (lg_sl ([.ref r0, .int x, .int y, .ref o0])).length) Slot.unset).toArray = ls at hl ⊢
  have hl : lv_has ls 5 [(0, .ref r0), (1, .int x), (2, .int y), (3, .ref o0)] := hl
  have hA : ∀ q, aR r0 r1 r2 r3 q → aH r0 r1 r2 r3 o0 q := aR_H
  have hK := hK5.r
  have ap := ap5.r.1
  have hmap := x_table B (hts _ List.mem_cons_self)
  refine lv_aload_n hx hb d_W_next_0 rfl (lv_at hl 3 rfl) ?_
  refine lv_iconst (v := 0) hx hb d_W_next_1 (by decide) ?_
  refine lv_aload_n hx hb d_W_next_2 rfl (lv_at hl 0 rfl) ?_
  refine lv_iload_n hx hb d_W_next_3 rfl (lv_at hl 1 rfl) ?_
  refine lv_iload_n hx hb d_W_next_4 rfl (lv_at hl 2 rfl) ?_
  refine x_catch1 (x_runV (As := [.int x, .int y]) (rest := [.int 0, .ref o0]) S (k_R_next l hfl adE adK adV r0 x y) (cwV 2 hts (gV inC m_710 m_711 m_712 m_50 m_713) rfl rfl rfl (by decide +kernel) ⟨(Nat.le_of_ble_eq_true rfl), (Nat.le_of_ble_eq_true rfl)⟩) ⟨fun a U g mk q => ⟨q.1, q.2.1.blind, q.2.2.1.blind, q.2.2.2⟩, rwd.recv hK hw, fun U hU hW => ⟨rfl, hC.at hS no_in hU hW, hX.at hS no_in hU hW, hj⟩⟩ rfl rfl hl.1 rfl (lv_room (Nat.le_of_ble_eq_true rfl)) d_W_next_5 ⟨(Nat.le_of_ble_eq_true rfl), (Nat.le_of_ble_eq_true rfl)⟩) hown hmap ⟨by decide, by decide⟩ (by decide) (hT _ m_586) (fun H1 q hz hk => ?_)
  have hS : va_S (aH r0 r1 r2 r3 o0) s.heap H1 [] := ⟨hz, fun i hi _ => hk i hi, fun _ h => by cases h⟩
  have hw := hw.kept (fun i hi _ => hk i hi)
  have ho := ho.kept (hk o0 ho.lt)
  refine lv_astore (lv' := (4, .ref q) :: [(0, .ref r0), (1, .int x), (2, .int y), (3, .ref o0)]) hx hb d_W_next_13 hl (by decide) rfl (fun ls hl => ?_)
  refine lv_iconst (v := 1) hx hb d_W_next_15 (by decide) ?_
  exact W.iret (v := 1) hx hb hr (fun t ht hW => ⟨⟨1, (), rfl, rfl, by rw [ht]; exact hw, by rw [ht]; exact ho⟩, hS.F ht⟩) hS.2.2 d_W_next_16
theorem call_W_nextX {p : Program} {l : Launch} {e : Env} {R : Room} {s : State} {m : MethodId} {args : Array Value} {below : List Frame} {meth : Method} {c : Code} {H : Heap} {locs : List Loc} {cells slots : Nat} {Q : State → Prop} {cc : ByteArray} {pc nL idx : Nat} {ls : Array Slot} {rest : List Value} {Ts : List Cond} {own : String} {adE adK adV : Nat → Nat} {A0 : Nat → Prop} {dC : Nat → ClassId} {dI : Nat → Nat → Nat} {cI cC cL : ClassId} {r0 r1 r2 r3 o0 : Nat} {str : Nat → Int32} {tb ti tp : Int32} {v : List Int32} {ov : Int64} {x y : Int32} (S : CallFix p m c cc nL s args Ts own) (hTs : ∀ w ∈ WT, w ∈ Ts) (hlk : Cond.methodLink own idx y_W_next ∈ WT) (hfl : l.flags = pinnedFlags ++ [noTraceFlag]) (hR : 10 + 1 ≤ R.frames ∧ 8 + (5 + 11) + 240 ≤ R.locals) (hsz : ls.size = nL) (hrm : (rest.map fun v => v.category).sum ≤ 8) (hdg : decode cc pc = .ok (.invokestatic idx, 3)) (hc : cells + 1 ≤ R.cells ∧ slots + 6 ≤ R.slots) (hK : hK5 dC dI cI cC cL s) (ap : apH r0 r1 r2 r3 o0) (hC : cx adE adK adV A0 s s.heap) (hX : xS A0 s s.heap) (hS : va_S A0 s.heap H locs) (hA : ∀ q, aH r0 r1 r2 r3 o0 q → A0 q) (hw : rwd dC dI cI cC r0 r1 r2 r3 str tb ti tp v H) (ho : ow dC dI cL o0 ov H) (hcd : f_R_isAddress x = 0) (kk : ∀ (H1 : Heap) (locs1 : List Loc), rwd dC dI cI cC r0 r1 r2 r3 str tb ti tp v H1 → ow dC dI cL o0 ov H1 → va_S A0 s.heap H1 locs1 → (H.size ≤ H1.size ∧ ∀ q : Nat, q < H.size → ¬ aH r0 r1 r2 r3 o0 q → H1[q]? = H[q]?) → W p l e R s m args below meth c H1 locs1 (cells + 1) (slots + 6) Q (F0 m (pc + 3) ls (.int 1 :: rest))) : W p l e R s m args below meth c H locs cells slots Q (F0 m pc ls (.ref o0 :: .int y :: .int x :: .ref r0 :: rest)) :=
  va_calli (xw_runS (n := 4) (hh := [(0, 10, 13, 13), (0, 10, 17, 27)]) (bytes := b_W_next) (maxL := 5) (ret := some .int) (As := [.ref r0, .int x, .int y, .ref o0]) (rest := rest) S (c_W_nextX l hfl adE adK adV dC dI cI cC cL r0 r1 r2 r3 o0 str tb ti tp v ov x y) (gS hTs hlk m_707 m_49 m_708) ⟨WT, rfl⟩ rfl rfl (by decide +kernel) hR ⟨fun a U g mk q => ⟨q.1, ⟨q.2.1.blind, q.2.2⟩⟩, fun U hU1 hW => ⟨rfl, ⟨hU.at hK ap hC hX hS hA hw ho hU1 hW, hcd⟩⟩⟩ rfl rfl hsz rfl (lv_room hrm) hdg hc) hS (fun q _ h => hA q h) hA (fun r u t H1 locs1 ht hvm hp hB hz hk hS1 => by subst hp; exact kk H1 locs1 (by rw [← ht]; exact hB.1) (by rw [← ht]; exact hB.2) hS1 ⟨hz, hk⟩)

set_option maxRecDepth 100000 in
set_option maxHeartbeats 4000000 in
theorem c_W_beforeX (l : Launch) (hfl : l.flags = pinnedFlags ++ [noTraceFlag]) (adE adK adV : Nat → Nat) (dC : Nat → ClassId) (dI : Nat → Nat → Nat) (cI cC cL : ClassId) (r0 r1 r2 r3 o0 : Nat) (str : Nat → Int32) (tb ti tp : Int32) (v : List Int32) (ov : Int64) (x y : Int32) : Met l y_W_before (Cond.codeWith y_W_before b_W_before 5 (some .int) [(0, 10, 13, 13)] :: WT) ({ frames := 10, cells := 1, slots := 6, locals := 240 }) (va_Pc [.ref r0, .int x, .int y, .ref o0] (fun U => hU adE adK adV dC dI cI cC cL r0 r1 r2 r3 o0 str tb ti tp v ov U ∧ f_R_isAddress x = 0)) (va_Qi (fun (r : Int32) (_ : Unit) => r = 1) (fun _ t => rwd dC dI cI cC r0 r1 r2 r3 str tb ti tp v t.heap ∧ ow dC dI cL o0 ov t.heap) (aH r0 r1 r2 r3 o0)) 1 6 (aH r0 r1 r2 r3 o0) := by
  refine va_MetW (cc := b_W_before) (maxL := 5) (ret := some .int) (hh := [(0, 10, 13, 13)]) (by decide +kernel) rfl ?_
  intro p e s m args below meth c s₁ B hml hv
  obtain ⟨rfl, ⟨hK5, ap5, hC, hX, hw, ho⟩, hj⟩ := hv
  have hx := B.exec
  have hb := B.bytes
  have hr := B.returns
  have hts := atoms_spec (ws := (Cond.codeWith y_W_before b_W_before 5 (some .int) [(0, 10, 13, 13)] :: WT)) B.pre
  have hT : ∀ w ∈ WT, w.before _ s = true := fun w h => hts w (inC w h)
  have hown : s.vm.findClass R_W = some m.cls := findClass_of_methodNamed B.named
  have hlocks := B.notSynchronized
  have hS : va_S (aH r0 r1 r2 r3 o0) s.heap s.heap [] := va_S.rf
  have S : CallFix p m c b_W_before 5 s _ (Cond.codeWith y_W_before b_W_before 5 (some .int) [(0, 10, 13, 13)] :: WT) R_W := ⟨hx, hb, hml, hown, hts⟩
  have hl := lv_entry ([.ref r0, .int x, .int y, .ref o0]) (n := 5) (Nat.le_of_ble_eq_true rfl)
  rw [lg_entry_eq]
  generalize (lg_sl ([.ref r0, .int x, .int y, .ref o0]) ++ List.replicate (5 - (lg_sl ([.ref r0, .int x, .int y, .ref o0])).length) Slot.unset).toArray = ls at hl ⊢
  have hl : lv_has ls 5 [(0, .ref r0), (1, .int x), (2, .int y), (3, .ref o0)] := hl
  have hA : ∀ q, aR r0 r1 r2 r3 q → aH r0 r1 r2 r3 o0 q := aR_H
  have hK := hK5.r
  have ap := ap5.r.1
  have hmap := x_table B (hts _ List.mem_cons_self)
  refine lv_aload_n hx hb d_W_before_0 rfl (lv_at hl 3 rfl) ?_
  refine lv_iconst (v := 0) hx hb d_W_before_1 (by decide) ?_
  refine lv_aload_n hx hb d_W_before_2 rfl (lv_at hl 0 rfl) ?_
  refine lv_iload_n hx hb d_W_before_3 rfl (lv_at hl 1 rfl) ?_
  refine lv_iload_n hx hb d_W_before_4 rfl (lv_at hl 2 rfl) ?_
  refine x_catch1 (x_runV (As := [.int x, .int y]) (rest := [.int 0, .ref o0]) S (k_R_before l hfl adE adK adV r0 x y) (cwV 2 hts (gV inC m_733 m_734 m_735 m_50 m_736) rfl rfl rfl (by decide +kernel) ⟨(Nat.le_of_ble_eq_true rfl), (Nat.le_of_ble_eq_true rfl)⟩) ⟨fun a U g mk q => ⟨q.1, q.2.1.blind, q.2.2.1.blind, q.2.2.2⟩, rwd.recv hK hw, fun U hU hW => ⟨rfl, hC.at hS no_in hU hW, hX.at hS no_in hU hW, hj⟩⟩ rfl rfl hl.1 rfl (lv_room (Nat.le_of_ble_eq_true rfl)) d_W_before_5 ⟨(Nat.le_of_ble_eq_true rfl), (Nat.le_of_ble_eq_true rfl)⟩) hown hmap ⟨by decide, by decide⟩ (by decide) (hT _ m_586) (fun H1 q hz hk => ?_)
  have hS : va_S (aH r0 r1 r2 r3 o0) s.heap H1 [] := ⟨hz, fun i hi _ => hk i hi, fun _ h => by cases h⟩
  have hw := hw.kept (fun i hi _ => hk i hi)
  have ho := ho.kept (hk o0 ho.lt)
  refine lv_astore (lv' := (4, .ref q) :: [(0, .ref r0), (1, .int x), (2, .int y), (3, .ref o0)]) hx hb d_W_before_13 hl (by decide) rfl (fun ls hl => ?_)
  refine lv_iconst (v := 1) hx hb d_W_before_15 (by decide) ?_
  exact W.iret (v := 1) hx hb hr (fun t ht hW => ⟨⟨1, (), rfl, rfl, by rw [ht]; exact hw, by rw [ht]; exact ho⟩, hS.F ht⟩) hS.2.2 d_W_before_16
theorem call_W_beforeX {p : Program} {l : Launch} {e : Env} {R : Room} {s : State} {m : MethodId} {args : Array Value} {below : List Frame} {meth : Method} {c : Code} {H : Heap} {locs : List Loc} {cells slots : Nat} {Q : State → Prop} {cc : ByteArray} {pc nL idx : Nat} {ls : Array Slot} {rest : List Value} {Ts : List Cond} {own : String} {adE adK adV : Nat → Nat} {A0 : Nat → Prop} {dC : Nat → ClassId} {dI : Nat → Nat → Nat} {cI cC cL : ClassId} {r0 r1 r2 r3 o0 : Nat} {str : Nat → Int32} {tb ti tp : Int32} {v : List Int32} {ov : Int64} {x y : Int32} (S : CallFix p m c cc nL s args Ts own) (hTs : ∀ w ∈ WT, w ∈ Ts) (hlk : Cond.methodLink own idx y_W_before ∈ WT) (hfl : l.flags = pinnedFlags ++ [noTraceFlag]) (hR : 10 + 1 ≤ R.frames ∧ 8 + (5 + 11) + 240 ≤ R.locals) (hsz : ls.size = nL) (hrm : (rest.map fun v => v.category).sum ≤ 8) (hdg : decode cc pc = .ok (.invokestatic idx, 3)) (hc : cells + 1 ≤ R.cells ∧ slots + 6 ≤ R.slots) (hK : hK5 dC dI cI cC cL s) (ap : apH r0 r1 r2 r3 o0) (hC : cx adE adK adV A0 s s.heap) (hX : xS A0 s s.heap) (hS : va_S A0 s.heap H locs) (hA : ∀ q, aH r0 r1 r2 r3 o0 q → A0 q) (hw : rwd dC dI cI cC r0 r1 r2 r3 str tb ti tp v H) (ho : ow dC dI cL o0 ov H) (hcd : f_R_isAddress x = 0) (kk : ∀ (H1 : Heap) (locs1 : List Loc), rwd dC dI cI cC r0 r1 r2 r3 str tb ti tp v H1 → ow dC dI cL o0 ov H1 → va_S A0 s.heap H1 locs1 → (H.size ≤ H1.size ∧ ∀ q : Nat, q < H.size → ¬ aH r0 r1 r2 r3 o0 q → H1[q]? = H[q]?) → W p l e R s m args below meth c H1 locs1 (cells + 1) (slots + 6) Q (F0 m (pc + 3) ls (.int 1 :: rest))) : W p l e R s m args below meth c H locs cells slots Q (F0 m pc ls (.ref o0 :: .int y :: .int x :: .ref r0 :: rest)) :=
  va_calli (xw_runS (n := 4) (hh := [(0, 10, 13, 13)]) (bytes := b_W_before) (maxL := 5) (ret := some .int) (As := [.ref r0, .int x, .int y, .ref o0]) (rest := rest) S (c_W_beforeX l hfl adE adK adV dC dI cI cC cL r0 r1 r2 r3 o0 str tb ti tp v ov x y) (gS hTs hlk m_731 m_49 m_732) ⟨WT, rfl⟩ rfl rfl (by decide +kernel) hR ⟨fun a U g mk q => ⟨q.1, ⟨q.2.1.blind, q.2.2⟩⟩, fun U hU1 hW => ⟨rfl, ⟨hU.at hK ap hC hX hS hA hw ho hU1 hW, hcd⟩⟩⟩ rfl rfl hsz rfl (lv_room hrm) hdg hc) hS (fun q _ h => hA q h) hA (fun r u t H1 locs1 ht hvm hp hB hz hk hS1 => by subst hp; exact kk H1 locs1 (by rw [← ht]; exact hB.1) (by rw [← ht]; exact hB.2) hS1 ⟨hz, hk⟩)

set_option maxRecDepth 100000 in
set_option maxHeartbeats 4000000 in
theorem c_W_numbersX (l : Launch) (hfl : l.flags = pinnedFlags ++ [noTraceFlag]) (adE adK adV : Nat → Nat) (dC : Nat → ClassId) (dI : Nat → Nat → Nat) (cI cC cL : ClassId) (r0 r1 r2 r3 o0 : Nat) (str : Nat → Int32) (tb ti tp : Int32) (v : List Int32) (ov : Int64) (x : Int32) : Met l y_W_numbers (Cond.codeWith y_W_numbers b_W_numbers 4 (some .int) [(0, 9, 12, 13)] :: WT) ({ frames := 10, cells := 1, slots := 6, locals := 240 }) (va_Pc [.ref r0, .int x, .ref o0] (fun U => hU adE adK adV dC dI cI cC cL r0 r1 r2 r3 o0 str tb ti tp v ov U ∧ f_R_isAddress x = 0)) (va_Qi (fun (r : Int32) (_ : Unit) => r = 1) (fun _ t => rwd dC dI cI cC r0 r1 r2 r3 str tb ti tp v t.heap ∧ ow dC dI cL o0 ov t.heap) (aH r0 r1 r2 r3 o0)) 1 6 (aH r0 r1 r2 r3 o0) := by
  refine va_MetW (cc := b_W_numbers) (maxL := 4) (ret := some .int) (hh := [(0, 9, 12, 13)]) (by decide +kernel) rfl ?_
  intro p e s m args below meth c s₁ B hml hv
  obtain ⟨rfl, ⟨hK5, ap5, hC, hX, hw, ho⟩, hj⟩ := hv
  have hx := B.exec
  have hb := B.bytes
  have hr := B.returns
  have hts := atoms_spec (ws := (Cond.codeWith y_W_numbers b_W_numbers 4 (some .int) [(0, 9, 12, 13)] :: WT)) B.pre
  have hT : ∀ w ∈ WT, w.before _ s = true := fun w h => hts w (inC w h)
  have hown : s.vm.findClass R_W = some m.cls := findClass_of_methodNamed B.named
  have hlocks := B.notSynchronized
  have hS : va_S (aH r0 r1 r2 r3 o0) s.heap s.heap [] := va_S.rf
  have S : CallFix p m c b_W_numbers 4 s _ (Cond.codeWith y_W_numbers b_W_numbers 4 (some .int) [(0, 9, 12, 13)] :: WT) R_W := ⟨hx, hb, hml, hown, hts⟩
  have hl := lv_entry ([.ref r0, .int x, .ref o0]) (n := 4) (Nat.le_of_ble_eq_true rfl)
  rw [lg_entry_eq]
  generalize (lg_sl ([.ref r0, .int x, .ref o0]) ++ List.replicate (4 - (lg_sl ([.ref r0, .int x, .ref o0])).length) Slot.unset).toArray = ls at hl ⊢
  have hl : lv_has ls 4 [(0, .ref r0), (1, .int x), (2, .ref o0)] := hl
  have hA : ∀ q, aR r0 r1 r2 r3 q → aH r0 r1 r2 r3 o0 q := aR_H
  have hK := hK5.r
  have ap := ap5.r.1
  have hmap := x_table B (hts _ List.mem_cons_self)
  refine lv_aload_n hx hb d_W_numbers_0 rfl (lv_at hl 2 rfl) ?_
  refine lv_iconst (v := 0) hx hb d_W_numbers_1 (by decide) ?_
  refine lv_aload_n hx hb d_W_numbers_2 rfl (lv_at hl 0 rfl) ?_
  refine lv_iload_n hx hb d_W_numbers_3 rfl (lv_at hl 1 rfl) ?_
  refine x_catch1 (x_runV (As := [.int x]) (rest := [.int 0, .ref o0]) S (k_R_numbers l hfl adE adK adV r0 x) (cwV 1 hts (gV inC m_740 m_741 m_742 m_50 m_743) rfl rfl rfl (by decide +kernel) ⟨(Nat.le_of_ble_eq_true rfl), (Nat.le_of_ble_eq_true rfl)⟩) ⟨fun a U g mk q => ⟨q.1, q.2.1.blind, q.2.2.1.blind, q.2.2.2⟩, rwd.recv hK hw, fun U hU hW => ⟨rfl, hC.at hS no_in hU hW, hX.at hS no_in hU hW, hj⟩⟩ rfl rfl hl.1 rfl (lv_room (Nat.le_of_ble_eq_true rfl)) d_W_numbers_4 ⟨(Nat.le_of_ble_eq_true rfl), (Nat.le_of_ble_eq_true rfl)⟩) hown hmap ⟨by decide, by decide⟩ (by decide) (hT _ m_586) (fun H1 q hz hk => ?_)
  have hS : va_S (aH r0 r1 r2 r3 o0) s.heap H1 [] := ⟨hz, fun i hi _ => hk i hi, fun _ h => by cases h⟩
  have hw := hw.kept (fun i hi _ => hk i hi)
  have ho := ho.kept (hk o0 ho.lt)
  refine lv_astore_n (lv' := (3, .ref q) :: [(0, .ref r0), (1, .int x), (2, .ref o0)]) hx hb d_W_numbers_12 rfl hl (by decide) rfl (fun ls hl => ?_)
  refine lv_iconst (v := 1) hx hb d_W_numbers_13 (by decide) ?_
  exact W.iret (v := 1) hx hb hr (fun t ht hW => ⟨⟨1, (), rfl, rfl, by rw [ht]; exact hw, by rw [ht]; exact ho⟩, hS.F ht⟩) hS.2.2 d_W_numbers_14
theorem call_W_numbersX {p : Program} {l : Launch} {e : Env} {R : Room} {s : State} {m : MethodId} {args : Array Value} {below : List Frame} {meth : Method} {c : Code} {H : Heap} {locs : List Loc} {cells slots : Nat} {Q : State → Prop} {cc : ByteArray} {pc nL idx : Nat} {ls : Array Slot} {rest : List Value} {Ts : List Cond} {own : String} {adE adK adV : Nat → Nat} {A0 : Nat → Prop} {dC : Nat → ClassId} {dI : Nat → Nat → Nat} {cI cC cL : ClassId} {r0 r1 r2 r3 o0 : Nat} {str : Nat → Int32} {tb ti tp : Int32} {v : List Int32} {ov : Int64} {x : Int32} (S : CallFix p m c cc nL s args Ts own) (hTs : ∀ w ∈ WT, w ∈ Ts) (hlk : Cond.methodLink own idx y_W_numbers ∈ WT) (hfl : l.flags = pinnedFlags ++ [noTraceFlag]) (hR : 10 + 1 ≤ R.frames ∧ 8 + (4 + 11) + 240 ≤ R.locals) (hsz : ls.size = nL) (hrm : (rest.map fun v => v.category).sum ≤ 8) (hdg : decode cc pc = .ok (.invokestatic idx, 3)) (hc : cells + 1 ≤ R.cells ∧ slots + 6 ≤ R.slots) (hK : hK5 dC dI cI cC cL s) (ap : apH r0 r1 r2 r3 o0) (hC : cx adE adK adV A0 s s.heap) (hX : xS A0 s s.heap) (hS : va_S A0 s.heap H locs) (hA : ∀ q, aH r0 r1 r2 r3 o0 q → A0 q) (hw : rwd dC dI cI cC r0 r1 r2 r3 str tb ti tp v H) (ho : ow dC dI cL o0 ov H) (hcd : f_R_isAddress x = 0) (kk : ∀ (H1 : Heap) (locs1 : List Loc), rwd dC dI cI cC r0 r1 r2 r3 str tb ti tp v H1 → ow dC dI cL o0 ov H1 → va_S A0 s.heap H1 locs1 → (H.size ≤ H1.size ∧ ∀ q : Nat, q < H.size → ¬ aH r0 r1 r2 r3 o0 q → H1[q]? = H[q]?) → W p l e R s m args below meth c H1 locs1 (cells + 1) (slots + 6) Q (F0 m (pc + 3) ls (.int 1 :: rest))) : W p l e R s m args below meth c H locs cells slots Q (F0 m pc ls (.ref o0 :: .int x :: .ref r0 :: rest)) :=
  va_calli (xw_runS (n := 3) (hh := [(0, 9, 12, 13)]) (bytes := b_W_numbers) (maxL := 4) (ret := some .int) (As := [.ref r0, .int x, .ref o0]) (rest := rest) S (c_W_numbersX l hfl adE adK adV dC dI cI cC cL r0 r1 r2 r3 o0 str tb ti tp v ov x) (gS hTs hlk m_738 m_49 m_739) ⟨WT, rfl⟩ rfl rfl (by decide +kernel) hR ⟨fun a U g mk q => ⟨q.1, ⟨q.2.1.blind, q.2.2⟩⟩, fun U hU1 hW => ⟨rfl, ⟨hU.at hK ap hC hX hS hA hw ho hU1 hW, hcd⟩⟩⟩ rfl rfl hsz rfl (lv_room hrm) hdg hc) hS (fun q _ h => hA q h) hA (fun r u t H1 locs1 ht hvm hp hB hz hk hS1 => by subst hp; exact kk H1 locs1 (by rw [← ht]; exact hB.1) (by rw [← ht]; exact hB.2) hS1 ⟨hz, hk⟩)

set_option maxRecDepth 100000 in
set_option maxHeartbeats 4000000 in
theorem c_W_beforeX2 (l : Launch) (hfl : l.flags = pinnedFlags ++ [noTraceFlag]) (adE adK adV : Nat → Nat) (dC : Nat → ClassId) (dI : Nat → Nat → Nat) (cI cC cL : ClassId) (r0 r1 r2 r3 o0 : Nat) (str : Nat → Int32) (tb ti tp : Int32) (v : List Int32) (ov : Int64) (x y : Int32) : Met l y_W_before (Cond.codeWith y_W_before b_W_before 5 (some .int) [(0, 10, 13, 13)] :: WT) ({ frames := 10, cells := 1, slots := 6, locals := 240 }) (va_Pc [.ref r0, .int x, .int y, .ref o0] (fun U => hU adE adK adV dC dI cI cC cL r0 r1 r2 r3 o0 str tb ti tp v ov U ∧ ¬ f_R_isAddress x = 0 ∧ f_R_isAddress y = 0)) (va_Qi (fun (r : Int32) (_ : Unit) => r = 1) (fun _ t => rwd dC dI cI cC r0 r1 r2 r3 str tb ti tp v t.heap ∧ ow dC dI cL o0 ov t.heap) (aH r0 r1 r2 r3 o0)) 1 6 (aH r0 r1 r2 r3 o0) := by
  refine va_MetW (cc := b_W_before) (maxL := 5) (ret := some .int) (hh := [(0, 10, 13, 13)]) (by decide +kernel) rfl ?_
  intro p e s m args below meth c s₁ B hml hv
  obtain ⟨rfl, ⟨hK5, ap5, hC, hX, hw, ho⟩, hj1, hj⟩ := hv
  have hx := B.exec
  have hb := B.bytes
  have hr := B.returns
  have hts := atoms_spec (ws := (Cond.codeWith y_W_before b_W_before 5 (some .int) [(0, 10, 13, 13)] :: WT)) B.pre
  have hT : ∀ w ∈ WT, w.before _ s = true := fun w h => hts w (inC w h)
  have hown : s.vm.findClass R_W = some m.cls := findClass_of_methodNamed B.named
  have hlocks := B.notSynchronized
  have hS : va_S (aH r0 r1 r2 r3 o0) s.heap s.heap [] := va_S.rf
  have S : CallFix p m c b_W_before 5 s _ (Cond.codeWith y_W_before b_W_before 5 (some .int) [(0, 10, 13, 13)] :: WT) R_W := ⟨hx, hb, hml, hown, hts⟩
  have hl := lv_entry ([.ref r0, .int x, .int y, .ref o0]) (n := 5) (Nat.le_of_ble_eq_true rfl)
  rw [lg_entry_eq]
  generalize (lg_sl ([.ref r0, .int x, .int y, .ref o0]) ++ List.replicate (5 - (lg_sl ([.ref r0, .int x, .int y, .ref o0])).length) Slot.unset).toArray = ls at hl ⊢
  have hl : lv_has ls 5 [(0, .ref r0), (1, .int x), (2, .int y), (3, .ref o0)] := hl
  have hA : ∀ q, aR r0 r1 r2 r3 q → aH r0 r1 r2 r3 o0 q := aR_H
  have hK := hK5.r
  have ap := ap5.r.1
  have hmap := x_table B (hts _ List.mem_cons_self)
  refine lv_aload_n hx hb d_W_before_0 rfl (lv_at hl 3 rfl) ?_
  refine lv_iconst (v := 0) hx hb d_W_before_1 (by decide) ?_
  refine lv_aload_n hx hb d_W_before_2 rfl (lv_at hl 0 rfl) ?_
  refine lv_iload_n hx hb d_W_before_3 rfl (lv_at hl 1 rfl) ?_
  refine lv_iload_n hx hb d_W_before_4 rfl (lv_at hl 2 rfl) ?_
  refine x_catch1 (x_runV (As := [.int x, .int y]) (rest := [.int 0, .ref o0]) S (k_R_before2 l hfl adE adK adV r0 x y) (cwV 2 hts (gV inC m_733 m_734 m_735 m_50 m_736) rfl rfl rfl (by decide +kernel) ⟨(Nat.le_of_ble_eq_true rfl), (Nat.le_of_ble_eq_true rfl)⟩) ⟨fun a U g mk q => ⟨q.1, q.2.1.blind, q.2.2.1.blind, q.2.2.2⟩, rwd.recv hK hw, fun U hU hW => ⟨rfl, hC.at hS no_in hU hW, hX.at hS no_in hU hW, hj1, hj⟩⟩ rfl rfl hl.1 rfl (lv_room (Nat.le_of_ble_eq_true rfl)) d_W_before_5 ⟨(Nat.le_of_ble_eq_true rfl), (Nat.le_of_ble_eq_true rfl)⟩) hown hmap ⟨by decide, by decide⟩ (by decide) (hT _ m_586) (fun H1 q hz hk => ?_)
  have hS : va_S (aH r0 r1 r2 r3 o0) s.heap H1 [] := ⟨hz, fun i hi _ => hk i hi, fun _ h => by cases h⟩
  have hw := hw.kept (fun i hi _ => hk i hi)
  have ho := ho.kept (hk o0 ho.lt)
  refine lv_astore (lv' := (4, .ref q) :: [(0, .ref r0), (1, .int x), (2, .int y), (3, .ref o0)]) hx hb d_W_before_13 hl (by decide) rfl (fun ls hl => ?_)
  refine lv_iconst (v := 1) hx hb d_W_before_15 (by decide) ?_
  exact W.iret (v := 1) hx hb hr (fun t ht hW => ⟨⟨1, (), rfl, rfl, by rw [ht]; exact hw, by rw [ht]; exact ho⟩, hS.F ht⟩) hS.2.2 d_W_before_16
theorem call_W_beforeX2 {p : Program} {l : Launch} {e : Env} {R : Room} {s : State} {m : MethodId} {args : Array Value} {below : List Frame} {meth : Method} {c : Code} {H : Heap} {locs : List Loc} {cells slots : Nat} {Q : State → Prop} {cc : ByteArray} {pc nL idx : Nat} {ls : Array Slot} {rest : List Value} {Ts : List Cond} {own : String} {adE adK adV : Nat → Nat} {A0 : Nat → Prop} {dC : Nat → ClassId} {dI : Nat → Nat → Nat} {cI cC cL : ClassId} {r0 r1 r2 r3 o0 : Nat} {str : Nat → Int32} {tb ti tp : Int32} {v : List Int32} {ov : Int64} {x y : Int32} (S : CallFix p m c cc nL s args Ts own) (hTs : ∀ w ∈ WT, w ∈ Ts) (hlk : Cond.methodLink own idx y_W_before ∈ WT) (hfl : l.flags = pinnedFlags ++ [noTraceFlag]) (hR : 10 + 1 ≤ R.frames ∧ 8 + (5 + 11) + 240 ≤ R.locals) (hsz : ls.size = nL) (hrm : (rest.map fun v => v.category).sum ≤ 8) (hdg : decode cc pc = .ok (.invokestatic idx, 3)) (hc : cells + 1 ≤ R.cells ∧ slots + 6 ≤ R.slots) (hK : hK5 dC dI cI cC cL s) (ap : apH r0 r1 r2 r3 o0) (hC : cx adE adK adV A0 s s.heap) (hX : xS A0 s s.heap) (hS : va_S A0 s.heap H locs) (hA : ∀ q, aH r0 r1 r2 r3 o0 q → A0 q) (hw : rwd dC dI cI cC r0 r1 r2 r3 str tb ti tp v H) (ho : ow dC dI cL o0 ov H) (hcd : ¬ f_R_isAddress x = 0 ∧ f_R_isAddress y = 0) (kk : ∀ (H1 : Heap) (locs1 : List Loc), rwd dC dI cI cC r0 r1 r2 r3 str tb ti tp v H1 → ow dC dI cL o0 ov H1 → va_S A0 s.heap H1 locs1 → (H.size ≤ H1.size ∧ ∀ q : Nat, q < H.size → ¬ aH r0 r1 r2 r3 o0 q → H1[q]? = H[q]?) → W p l e R s m args below meth c H1 locs1 (cells + 1) (slots + 6) Q (F0 m (pc + 3) ls (.int 1 :: rest))) : W p l e R s m args below meth c H locs cells slots Q (F0 m pc ls (.ref o0 :: .int y :: .int x :: .ref r0 :: rest)) :=
  va_calli (xw_runS (n := 4) (hh := [(0, 10, 13, 13)]) (bytes := b_W_before) (maxL := 5) (ret := some .int) (As := [.ref r0, .int x, .int y, .ref o0]) (rest := rest) S (c_W_beforeX2 l hfl adE adK adV dC dI cI cC cL r0 r1 r2 r3 o0 str tb ti tp v ov x y) (gS hTs hlk m_731 m_49 m_732) ⟨WT, rfl⟩ rfl rfl (by decide +kernel) hR ⟨fun a U g mk q => ⟨q.1, ⟨q.2.1.blind, q.2.2⟩⟩, fun U hU1 hW => ⟨rfl, ⟨hU.at hK ap hC hX hS hA hw ho hU1 hW, hcd⟩⟩⟩ rfl rfl hsz rfl (lv_room hrm) hdg hc) hS (fun q _ h => hA q h) hA (fun r u t H1 locs1 ht hvm hp hB hz hk hS1 => by subst hp; exact kk H1 locs1 (by rw [← ht]; exact hB.1) (by rw [← ht]; exact hB.2) hS1 ⟨hz, hk⟩)

set_option maxRecDepth 100000 in
set_option maxHeartbeats 4000000 in
theorem c_W_nextX2 (l : Launch) (hfl : l.flags = pinnedFlags ++ [noTraceFlag]) (adE adK adV : Nat → Nat) (dC : Nat → ClassId) (dI : Nat → Nat → Nat) (cI cC cL : ClassId) (r0 r1 r2 r3 o0 : Nat) (str : Nat → Int32) (tb ti tp : Int32) (v : List Int32) (ov : Int64) (x y : Int32) : Met l y_W_next (Cond.codeWith y_W_next b_W_next 5 (some .int) [(0, 10, 13, 13), (0, 10, 17, 27)] :: WT) ({ frames := 10, cells := 1, slots := 6, locals := 240 }) (va_Pc [.ref r0, .int x, .int y, .ref o0] (fun U => hU adE adK adV dC dI cI cC cL r0 r1 r2 r3 o0 str tb ti tp v ov U ∧ ¬ f_R_isAddress x = 0 ∧ y < 0)) (va_Qi (fun (r : Int32) (_ : Unit) => r = 2) (fun _ t => rwd dC dI cI cC r0 r1 r2 r3 str tb ti tp v t.heap ∧ ow dC dI cL o0 ov t.heap) (aH r0 r1 r2 r3 o0)) 1 6 (aH r0 r1 r2 r3 o0) := by
  refine va_MetW (cc := b_W_next) (maxL := 5) (ret := some .int) (hh := [(0, 10, 13, 13), (0, 10, 17, 27)]) (by decide +kernel) rfl ?_
  intro p e s m args below meth c s₁ B hml hv
  obtain ⟨rfl, ⟨hK5, ap5, hC, hX, hw, ho⟩, hj1, hj⟩ := hv
  have hx := B.exec
  have hb := B.bytes
  have hr := B.returns
  have hts := atoms_spec (ws := (Cond.codeWith y_W_next b_W_next 5 (some .int) [(0, 10, 13, 13), (0, 10, 17, 27)] :: WT)) B.pre
  have hT : ∀ w ∈ WT, w.before _ s = true := fun w h => hts w (inC w h)
  have hown : s.vm.findClass R_W = some m.cls := findClass_of_methodNamed B.named
  have hlocks := B.notSynchronized
  have hS : va_S (aH r0 r1 r2 r3 o0) s.heap s.heap [] := va_S.rf
  have S : CallFix p m c b_W_next 5 s _ (Cond.codeWith y_W_next b_W_next 5 (some .int) [(0, 10, 13, 13), (0, 10, 17, 27)] :: WT) R_W := ⟨hx, hb, hml, hown, hts⟩
  have hl := lv_entry ([.ref r0, .int x, .int y, .ref o0]) (n := 5) (Nat.le_of_ble_eq_true rfl)
  rw [lg_entry_eq]
  generalize (lg_sl ([.ref r0, .int x, .int y, .ref o0]) ++ List.replicate (5 - (lg_sl ([.ref r0, .int x, .int y, .ref o0])).length) Slot.unset).toArray = ls at hl ⊢
  have hl : lv_has ls 5 [(0, .ref r0), (1, .int x), (2, .int y), (3, .ref o0)] := hl
  have hA : ∀ q, aR r0 r1 r2 r3 q → aH r0 r1 r2 r3 o0 q := aR_H
  have hK := hK5.r
  have ap := ap5.r.1
  have hmap := x_table B (hts _ List.mem_cons_self)
  refine lv_aload_n hx hb d_W_next_0 rfl (lv_at hl 3 rfl) ?_
  refine lv_iconst (v := 0) hx hb d_W_next_1 (by decide) ?_
  refine lv_aload_n hx hb d_W_next_2 rfl (lv_at hl 0 rfl) ?_
  refine lv_iload_n hx hb d_W_next_3 rfl (lv_at hl 1 rfl) ?_
  refine lv_iload_n hx hb d_W_next_4 rfl (lv_at hl 2 rfl) ?_
  refine x_catch2 (x_runV (As := [.int x, .int y]) (rest := [.int 0, .ref o0]) S (k_R_next2 l hfl adE adK adV r0 x y) (cwV 2 hts (gV inC m_710 m_711 m_712 m_50 m_713) rfl rfl rfl (by decide +kernel) ⟨(Nat.le_of_ble_eq_true rfl), (Nat.le_of_ble_eq_true rfl)⟩) ⟨fun a U g mk q => ⟨q.1, q.2.1.blind, q.2.2.1.blind, q.2.2.2⟩, rwd.recv hK hw, fun U hU hW => ⟨rfl, hC.at hS no_in hU hW, hX.at hS no_in hU hW, hj1, hj⟩⟩ rfl rfl hl.1 rfl (lv_room (Nat.le_of_ble_eq_true rfl)) d_W_next_5 ⟨(Nat.le_of_ble_eq_true rfl), (Nat.le_of_ble_eq_true rfl)⟩) hown hmap ⟨by decide, by decide⟩ (by decide) (hT _ m_586) (hX.words _ _ (by decide)) ⟨by decide, by decide⟩ (by decide) (hT _ m_709) (fun H1 q hz hk => ?_)
  have hS : va_S (aH r0 r1 r2 r3 o0) s.heap H1 [] := ⟨hz, fun i hi _ => hk i hi, fun _ h => by cases h⟩
  have hw := hw.kept (fun i hi _ => hk i hi)
  have ho := ho.kept (hk o0 ho.lt)
  refine lv_astore (lv' := (4, .ref q) :: [(0, .ref r0), (1, .int x), (2, .int y), (3, .ref o0)]) hx hb d_W_next_17 hl (by decide) rfl (fun ls hl => ?_)
  refine lv_iconst (v := 2) hx hb d_W_next_19 (by decide) ?_
  exact W.iret (v := 2) hx hb hr (fun t ht hW => ⟨⟨2, (), rfl, rfl, by rw [ht]; exact hw, by rw [ht]; exact ho⟩, hS.F ht⟩) hS.2.2 d_W_next_20
theorem call_W_nextX2 {p : Program} {l : Launch} {e : Env} {R : Room} {s : State} {m : MethodId} {args : Array Value} {below : List Frame} {meth : Method} {c : Code} {H : Heap} {locs : List Loc} {cells slots : Nat} {Q : State → Prop} {cc : ByteArray} {pc nL idx : Nat} {ls : Array Slot} {rest : List Value} {Ts : List Cond} {own : String} {adE adK adV : Nat → Nat} {A0 : Nat → Prop} {dC : Nat → ClassId} {dI : Nat → Nat → Nat} {cI cC cL : ClassId} {r0 r1 r2 r3 o0 : Nat} {str : Nat → Int32} {tb ti tp : Int32} {v : List Int32} {ov : Int64} {x y : Int32} (S : CallFix p m c cc nL s args Ts own) (hTs : ∀ w ∈ WT, w ∈ Ts) (hlk : Cond.methodLink own idx y_W_next ∈ WT) (hfl : l.flags = pinnedFlags ++ [noTraceFlag]) (hR : 10 + 1 ≤ R.frames ∧ 8 + (5 + 11) + 240 ≤ R.locals) (hsz : ls.size = nL) (hrm : (rest.map fun v => v.category).sum ≤ 8) (hdg : decode cc pc = .ok (.invokestatic idx, 3)) (hc : cells + 1 ≤ R.cells ∧ slots + 6 ≤ R.slots) (hK : hK5 dC dI cI cC cL s) (ap : apH r0 r1 r2 r3 o0) (hC : cx adE adK adV A0 s s.heap) (hX : xS A0 s s.heap) (hS : va_S A0 s.heap H locs) (hA : ∀ q, aH r0 r1 r2 r3 o0 q → A0 q) (hw : rwd dC dI cI cC r0 r1 r2 r3 str tb ti tp v H) (ho : ow dC dI cL o0 ov H) (hcd : ¬ f_R_isAddress x = 0 ∧ y < 0) (kk : ∀ (H1 : Heap) (locs1 : List Loc), rwd dC dI cI cC r0 r1 r2 r3 str tb ti tp v H1 → ow dC dI cL o0 ov H1 → va_S A0 s.heap H1 locs1 → (H.size ≤ H1.size ∧ ∀ q : Nat, q < H.size → ¬ aH r0 r1 r2 r3 o0 q → H1[q]? = H[q]?) → W p l e R s m args below meth c H1 locs1 (cells + 1) (slots + 6) Q (F0 m (pc + 3) ls (.int 2 :: rest))) : W p l e R s m args below meth c H locs cells slots Q (F0 m pc ls (.ref o0 :: .int y :: .int x :: .ref r0 :: rest)) :=
  va_calli (xw_runS (n := 4) (hh := [(0, 10, 13, 13), (0, 10, 17, 27)]) (bytes := b_W_next) (maxL := 5) (ret := some .int) (As := [.ref r0, .int x, .int y, .ref o0]) (rest := rest) S (c_W_nextX2 l hfl adE adK adV dC dI cI cC cL r0 r1 r2 r3 o0 str tb ti tp v ov x y) (gS hTs hlk m_707 m_49 m_708) ⟨WT, rfl⟩ rfl rfl (by decide +kernel) hR ⟨fun a U g mk q => ⟨q.1, ⟨q.2.1.blind, q.2.2⟩⟩, fun U hU1 hW => ⟨rfl, ⟨hU.at hK ap hC hX hS hA hw ho hU1 hW, hcd⟩⟩⟩ rfl rfl hsz rfl (lv_room hrm) hdg hc) hS (fun q _ h => hA q h) hA (fun r u t H1 locs1 ht hvm hp hB hz hk hS1 => by subst hp; exact kk H1 locs1 (by rw [← ht]; exact hB.1) (by rw [← ht]; exact hB.2) hS1 ⟨hz, hk⟩)
