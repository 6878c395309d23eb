def f_F_part (x0 x1 x2 x3 : Int32) : Int32 :=
  ((ushr x0 x1) &&& (((1 : Int32) <<< (x2 &&& 31)) - 1)) <<< (x3 &&& 31)
set_option maxRecDepth 100000 in
set_option maxHeartbeats 4000000 in
theorem c_F_part (l : Launch) (x0 x1 x2 x3 : Int32) : Met l y_F_part (Cond.code y_F_part b_F_part 4 (some .int) :: WT) ({ frames := 0, cells := 0, slots := 0, locals := 0 }) (va_Pc [.int x0, .int x1, .int x2, .int x3] (fun _ => True)) (vp_Si (fun r => r = f_F_part x0 x1 x2 x3)) 0 0 no := by
  refine va_MetF (cc := b_F_part) (maxL := 4) (ret := (some .int)) (by decide +kernel) rfl ?_
  intro p e s m args below meth c s₁ B hml hv
  obtain ⟨rfl, -⟩ := hv
  have hx := B.exec
  have hb := B.bytes
  have hr := B.returns
  have hts := atoms_spec (ws := (Cond.code y_F_part b_F_part 4 (some .int) :: WT)) B.pre
  have hT : ∀ w ∈ WT, w.before _ s = true := fun w h => hts w (inC w h)
  have hown : s.vm.findClass R_F = some m.cls := findClass_of_methodNamed B.named
  have hlocks := B.notSynchronized
  have hS : va_S no s.heap s.heap [] := va_S.rf
  have S : CallFix p m c b_F_part 4 s _ (Cond.code y_F_part b_F_part 4 (some .int) :: WT) R_F := ⟨hx, hb, hml, hown, hts⟩
  have hl := lv_entry ([.int x0, .int x1, .int x2, .int x3]) (n := 4) (Nat.le_of_ble_eq_true rfl)
  rw [lg_entry_eq]
  generalize (lg_sl ([.int x0, .int x1, .int x2, .int x3]) ++ List.replicate (4 - (lg_sl ([.int x0, .int x1, .int x2, .int x3])).length) Slot.unset).toArray = ls at hl ⊢
  have hl : lv_has ls 4 [(0, .int x0), (1, .int x1), (2, .int x2), (3, .int x3)] := hl
  refine lv_iload_n hx hb d_F_part_0 rfl (lv_at hl 0 rfl) ?_
  refine lv_iload_n hx hb d_F_part_1 rfl (lv_at hl 1 rfl) ?_
  refine lv_iushr (v := ushr x0 x1) hx hb d_F_part_2 rfl ?_
  refine lv_iconst (v := 1) hx hb d_F_part_3 (by decide) ?_
  refine lv_iload_n hx hb d_F_part_4 rfl (lv_at hl 2 rfl) ?_
  refine lv_ishl hx hb d_F_part_5 ?_
  refine lv_iconst (v := 1) hx hb d_F_part_6 (by decide) ?_
  refine lv_isub hx hb d_F_part_7 ?_
  refine lv_iand hx hb d_F_part_8 ?_
  refine lv_iload_n hx hb d_F_part_9 rfl (lv_at hl 3 rfl) ?_
  refine lv_ishl hx hb d_F_part_10 ?_
  exact W.iret (v := ((ushr x0 x1) &&& (((1 : Int32) <<< (x2 &&& 31)) - 1)) <<< (x3 &&& 31)) hx hb hr (fun t ht hW => ⟨((ushr x0 x1) &&& (((1 : Int32) <<< (x2 &&& 31)) - 1)) <<< (x3 &&& 31), rfl, rfl, ht⟩) (fun _ h => by cases h) d_F_part_11
theorem call_F_part {p : Program} {l : Launch} {e : Env} {R : Room} {s : State} {m : MethodId} {args : Array Value} {below : List Frame} {meth : Method} {c : Code} {H : Heap} {locs : List Loc} {cells slots : Nat} {Q : State → Prop} {cc : ByteArray} {pc nL idx : Nat} {ls : Array Slot} {rest : List Value} {Ts : List Cond} {own : String} {x0 x1 x2 x3 : Int32} (S : CallFix p m c cc nL s args Ts own) (hTs : ∀ w ∈ WT, w ∈ Ts) (h1 : Cond.methodLink own idx y_F_part ∈ WT) (hR : 0 + 1 ≤ R.frames ∧ 8 + (4 + 11) + 0 ≤ R.locals) (hsz : ls.size = nL) (hrm : (rest.map fun v => v.category).sum ≤ 8) (hdg : decode cc pc = .ok (.invokestatic idx, 3)) (hc : cells ≤ R.cells ∧ slots ≤ R.slots) (kk : W p l e R s m args below meth c H locs cells slots Q (F0 m (pc + 3) ls (.int (f_F_part x0 x1 x2 x3) :: rest))) : W p l e R s m args below meth c H locs cells slots Q (F0 m pc ls (.int x3 :: .int x2 :: .int x1 :: .int x0 :: rest)) :=
  vp_callSi (va_Run.run (va_runS (As := [.int x0, .int x1, .int x2, .int x3]) (rest := rest) S (c_F_part l x0 x1 x2 x3) (va_cwS 4 S.2.2.2.2 (gS hTs h1 m_305 m_57 m_306) rfl rfl rfl (by decide +kernel) hR) ⟨fun a U g mk q => q, fun U hU hW => ⟨rfl, trivial⟩⟩ rfl rfl hsz rfl (lv_room hrm) hdg hc)) (fun r e => by subst e; exact kk)

def f_F_signed (x0 x1 x2 : Int32) : Int32 :=
  (-((ushr x0 x1) &&& 1)) <<< (x2 &&& 31)
set_option maxRecDepth 100000 in
set_option maxHeartbeats 4000000 in
theorem c_F_signed (l : Launch) (x0 x1 x2 : Int32) : Met l y_F_signed (Cond.code y_F_signed b_F_signed 3 (some .int) :: WT) ({ frames := 0, cells := 0, slots := 0, locals := 0 }) (va_Pc [.int x0, .int x1, .int x2] (fun _ => True)) (vp_Si (fun r => r = f_F_signed x0 x1 x2)) 0 0 no := by
  refine va_MetF (cc := b_F_signed) (maxL := 3) (ret := (some .int)) (by decide +kernel) rfl ?_
  intro p e s m args below meth c s₁ B hml hv
  obtain ⟨rfl, -⟩ := hv
  have hx := B.exec
  have hb := B.bytes
  have hr := B.returns
  have hts := atoms_spec (ws := (Cond.code y_F_signed b_F_signed 3 (some .int) :: WT)) B.pre
  have hT : ∀ w ∈ WT, w.before _ s = true := fun w h => hts w (inC w h)
  have hown : s.vm.findClass R_F = some m.cls := findClass_of_methodNamed B.named
  have hlocks := B.notSynchronized
  have hS : va_S no s.heap s.heap [] := va_S.rf
  have S : CallFix p m c b_F_signed 3 s _ (Cond.code y_F_signed b_F_signed 3 (some .int) :: WT) R_F := ⟨hx, hb, hml, hown, hts⟩
  have hl := lv_entry ([.int x0, .int x1, .int x2]) (n := 3) (Nat.le_of_ble_eq_true rfl)
  rw [lg_entry_eq]
  generalize (lg_sl ([.int x0, .int x1, .int x2]) ++ List.replicate (3 - (lg_sl ([.int x0, .int x1, .int x2])).length) Slot.unset).toArray = ls at hl ⊢
  have hl : lv_has ls 3 [(0, .int x0), (1, .int x1), (2, .int x2)] := hl
  refine lv_iload_n hx hb d_F_signed_0 rfl (lv_at hl 0 rfl) ?_
  refine lv_iload_n hx hb d_F_signed_1 rfl (lv_at hl 1 rfl) ?_
  refine lv_iushr (v := ushr x0 x1) hx hb d_F_signed_2 rfl ?_
  refine lv_iconst (v := 1) hx hb d_F_signed_3 (by decide) ?_
  refine lv_iand hx hb d_F_signed_4 ?_
  refine lv_ineg hx hb d_F_signed_5 ?_
  refine lv_iload_n hx hb d_F_signed_6 rfl (lv_at hl 2 rfl) ?_
  refine lv_ishl hx hb d_F_signed_7 ?_
  exact W.iret (v := (-((ushr x0 x1) &&& 1)) <<< (x2 &&& 31)) hx hb hr (fun t ht hW => ⟨(-((ushr x0 x1) &&& 1)) <<< (x2 &&& 31), rfl, rfl, ht⟩) (fun _ h => by cases h) d_F_signed_8
theorem call_F_signed {p : Program} {l : Launch} {e : Env} {R : Room} {s : State} {m : MethodId} {args : Array Value} {below : List Frame} {meth : Method} {c : Code} {H : Heap} {locs : List Loc} {cells slots : Nat} {Q : State → Prop} {cc : ByteArray} {pc nL idx : Nat} {ls : Array Slot} {rest : List Value} {Ts : List Cond} {own : String} {x0 x1 x2 : Int32} (S : CallFix p m c cc nL s args Ts own) (hTs : ∀ w ∈ WT, w ∈ Ts) (h1 : Cond.methodLink own idx y_F_signed ∈ WT) (hR : 0 + 1 ≤ R.frames ∧ 8 + (3 + 11) + 0 ≤ R.locals) (hsz : ls.size = nL) (hrm : (rest.map fun v => v.category).sum ≤ 8) (hdg : decode cc pc = .ok (.invokestatic idx, 3)) (hc : cells ≤ R.cells ∧ slots ≤ R.slots) (kk : W p l e R s m args below meth c H locs cells slots Q (F0 m (pc + 3) ls (.int (f_F_signed x0 x1 x2) :: rest))) : W p l e R s m args below meth c H locs cells slots Q (F0 m pc ls (.int x2 :: .int x1 :: .int x0 :: rest)) :=
  vp_callSi (va_Run.run (va_runS (As := [.int x0, .int x1, .int x2]) (rest := rest) S (c_F_signed l x0 x1 x2) (va_cwS 3 S.2.2.2.2 (gS hTs h1 m_333 m_57 m_334) rfl rfl rfl (by decide +kernel) hR) ⟨fun a U g mk q => q, fun U hU hW => ⟨rfl, trivial⟩⟩ rfl rfl hsz rfl (lv_room hrm) hdg hc)) (fun r e => by subst e; exact kk)

def f_F_store (x0 : Int32) : Int32 :=
  ((x0 >>> ((25 : Int32) &&& 31)) <<< ((5 : Int32) &&& 31)) ||| ((x0 >>> ((7 : Int32) &&& 31)) &&& 31)
set_option maxRecDepth 100000 in
set_option maxHeartbeats 4000000 in
theorem c_F_store (l : Launch) (x0 : Int32) : Met l y_F_store (Cond.code y_F_store b_F_store 1 (some .int) :: WT) ({ frames := 0, cells := 0, slots := 0, locals := 0 }) (va_Pc [.int x0] (fun _ => True)) (vp_Si (fun r => r = f_F_store x0)) 0 0 no := by
  refine va_MetF (cc := b_F_store) (maxL := 1) (ret := (some .int)) (by decide +kernel) rfl ?_
  intro p e s m args below meth c s₁ B hml hv
  obtain ⟨rfl, -⟩ := hv
  have hx := B.exec
  have hb := B.bytes
  have hr := B.returns
  have hts := atoms_spec (ws := (Cond.code y_F_store b_F_store 1 (some .int) :: WT)) B.pre
  have hT : ∀ w ∈ WT, w.before _ s = true := fun w h => hts w (inC w h)
  have hown : s.vm.findClass R_F = some m.cls := findClass_of_methodNamed B.named
  have hlocks := B.notSynchronized
  have hS : va_S no s.heap s.heap [] := va_S.rf
  have S : CallFix p m c b_F_store 1 s _ (Cond.code y_F_store b_F_store 1 (some .int) :: WT) R_F := ⟨hx, hb, hml, hown, hts⟩
  have hl := lv_entry ([.int x0]) (n := 1) (Nat.le_of_ble_eq_true rfl)
  rw [lg_entry_eq]
  generalize (lg_sl ([.int x0]) ++ List.replicate (1 - (lg_sl ([.int x0])).length) Slot.unset).toArray = ls at hl ⊢
  have hl : lv_has ls 1 [(0, .int x0)] := hl
  refine lv_iload_n hx hb d_F_store_0 rfl (lv_at hl 0 rfl) ?_
  refine lv_bipush (v := 25) hx hb d_F_store_1 (by decide) ?_
  refine lv_ishr hx hb d_F_store_3 ?_
  refine lv_iconst (v := 5) hx hb d_F_store_4 (by decide) ?_
  refine lv_ishl hx hb d_F_store_5 ?_
  refine lv_iload_n hx hb d_F_store_6 rfl (lv_at hl 0 rfl) ?_
  refine lv_bipush (v := 7) hx hb d_F_store_7 (by decide) ?_
  refine lv_ishr hx hb d_F_store_9 ?_
  refine lv_bipush (v := 31) hx hb d_F_store_10 (by decide) ?_
  refine lv_iand hx hb d_F_store_12 ?_
  refine lv_ior hx hb d_F_store_13 ?_
  exact W.iret (v := ((x0 >>> ((25 : Int32) &&& 31)) <<< ((5 : Int32) &&& 31)) ||| ((x0 >>> ((7 : Int32) &&& 31)) &&& 31)) hx hb hr (fun t ht hW => ⟨((x0 >>> ((25 : Int32) &&& 31)) <<< ((5 : Int32) &&& 31)) ||| ((x0 >>> ((7 : Int32) &&& 31)) &&& 31), rfl, rfl, ht⟩) (fun _ h => by cases h) d_F_store_14
theorem call_F_store {p : Program} {l : Launch} {e : Env} {R : Room} {s : State} {m : MethodId} {args : Array Value} {below : List Frame} {meth : Method} {c : Code} {H : Heap} {locs : List Loc} {cells slots : Nat} {Q : State → Prop} {cc : ByteArray} {pc nL idx : Nat} {ls : Array Slot} {rest : List Value} {Ts : List Cond} {own : String} {x0 : Int32} (S : CallFix p m c cc nL s args Ts own) (hTs : ∀ w ∈ WT, w ∈ Ts) (h1 : Cond.methodLink own idx y_F_store ∈ WT) (hR : 0 + 1 ≤ R.frames ∧ 8 + (1 + 11) + 0 ≤ R.locals) (hsz : ls.size = nL) (hrm : (rest.map fun v => v.category).sum ≤ 8) (hdg : decode cc pc = .ok (.invokestatic idx, 3)) (hc : cells ≤ R.cells ∧ slots ≤ R.slots) (kk : W p l e R s m args below meth c H locs cells slots Q (F0 m (pc + 3) ls (.int (f_F_store x0) :: rest))) : W p l e R s m args below meth c H locs cells slots Q (F0 m pc ls (.int x0 :: rest)) :=
  vp_callSi (va_Run.run (va_runS (As := [.int x0]) (rest := rest) S (c_F_store l x0) (va_cwS 1 S.2.2.2.2 (gS hTs h1 m_528 m_57 m_529) rfl rfl rfl (by decide +kernel) hR) ⟨fun a U g mk q => q, fun U hU hW => ⟨rfl, trivial⟩⟩ rfl rfl hsz rfl (lv_room hrm) hdg hc)) (fun r e => by subst e; exact kk)

def f_F_branch (x0 : Int32) : Int32 :=
  (((f_F_signed x0 31 12) ||| (f_F_part x0 7 1 11)) ||| (f_F_part x0 25 6 5)) ||| (f_F_part x0 8 4 1)
set_option maxRecDepth 100000 in
set_option maxHeartbeats 4000000 in
theorem c_F_branch (l : Launch) (x0 : Int32) : Met l y_F_branch (Cond.code y_F_branch b_F_branch 1 (some .int) :: WT) ({ frames := 1, cells := 0, slots := 0, locals := 23 }) (va_Pc [.int x0] (fun _ => True)) (vp_Si (fun r => r = f_F_branch x0)) 0 0 no := by
  refine va_MetF (cc := b_F_branch) (maxL := 1) (ret := (some .int)) (by decide +kernel) rfl ?_
  intro p e s m args below meth c s₁ B hml hv
  obtain ⟨rfl, -⟩ := hv
  have hx := B.exec
  have hb := B.bytes
  have hr := B.returns
  have hts := atoms_spec (ws := (Cond.code y_F_branch b_F_branch 1 (some .int) :: WT)) B.pre
  have hT : ∀ w ∈ WT, w.before _ s = true := fun w h => hts w (inC w h)
  have hown : s.vm.findClass R_F = some m.cls := findClass_of_methodNamed B.named
  have hlocks := B.notSynchronized
  have hS : va_S no s.heap s.heap [] := va_S.rf
  have S : CallFix p m c b_F_branch 1 s _ (Cond.code y_F_branch b_F_branch 1 (some .int) :: WT) R_F := ⟨hx, hb, hml, hown, hts⟩
  have hl := lv_entry ([.int x0]) (n := 1) (Nat.le_of_ble_eq_true rfl)
  rw [lg_entry_eq]
  generalize (lg_sl ([.int x0]) ++ List.replicate (1 - (lg_sl ([.int x0])).length) Slot.unset).toArray = ls at hl ⊢
  have hl : lv_has ls 1 [(0, .int x0)] := hl
  refine lv_iload_n hx hb d_F_branch_0 rfl (lv_at hl 0 rfl) ?_
  refine lv_bipush (v := 31) hx hb d_F_branch_1 (by decide) ?_
  refine lv_bipush (v := 12) hx hb d_F_branch_3 (by decide) ?_
  refine call_F_signed S inC m_332 ⟨(Nat.le_of_ble_eq_true rfl), (Nat.le_of_ble_eq_true rfl)⟩ hl.1 (Nat.le_of_ble_eq_true rfl) d_F_branch_5 ⟨(Nat.le_of_ble_eq_true rfl), (Nat.le_of_ble_eq_true rfl)⟩ ?_
  refine lv_iload_n hx hb d_F_branch_8 rfl (lv_at hl 0 rfl) ?_
  refine lv_bipush (v := 7) hx hb d_F_branch_9 (by decide) ?_
  refine lv_iconst (v := 1) hx hb d_F_branch_11 (by decide) ?_
  refine lv_bipush (v := 11) hx hb d_F_branch_12 (by decide) ?_
  refine call_F_part S inC m_304 ⟨(Nat.le_of_ble_eq_true rfl), (Nat.le_of_ble_eq_true rfl)⟩ hl.1 (Nat.le_of_ble_eq_true rfl) d_F_branch_14 ⟨(Nat.le_of_ble_eq_true rfl), (Nat.le_of_ble_eq_true rfl)⟩ ?_
  refine lv_ior hx hb d_F_branch_17 ?_
  refine lv_iload_n hx hb d_F_branch_18 rfl (lv_at hl 0 rfl) ?_
  refine lv_bipush (v := 25) hx hb d_F_branch_19 (by decide) ?_
  refine lv_bipush (v := 6) hx hb d_F_branch_21 (by decide) ?_
  refine lv_iconst (v := 5) hx hb d_F_branch_23 (by decide) ?_
  refine call_F_part S inC m_304 ⟨(Nat.le_of_ble_eq_true rfl), (Nat.le_of_ble_eq_true rfl)⟩ hl.1 (Nat.le_of_ble_eq_true rfl) d_F_branch_24 ⟨(Nat.le_of_ble_eq_true rfl), (Nat.le_of_ble_eq_true rfl)⟩ ?_
  refine lv_ior hx hb d_F_branch_27 ?_
  refine lv_iload_n hx hb d_F_branch_28 rfl (lv_at hl 0 rfl) ?_
  refine lv_bipush (v := 8) hx hb d_F_branch_29 (by decide) ?_
  refine lv_iconst (v := 4) hx hb d_F_branch_31 (by decide) ?_
  refine lv_iconst (v := 1) hx hb d_F_branch_32 (by decide) ?_
  refine call_F_part S inC m_304 ⟨(Nat.le_of_ble_eq_true rfl), (Nat.le_of_ble_eq_true rfl)⟩ hl.1 (Nat.le_of_ble_eq_true rfl) d_F_branch_33 ⟨(Nat.le_of_ble_eq_true rfl), (Nat.le_of_ble_eq_true rfl)⟩ ?_
  refine lv_ior hx hb d_F_branch_36 ?_
  exact W.iret (v := (((f_F_signed x0 31 12) ||| (f_F_part x0 7 1 11)) ||| (f_F_part x0 25 6 5)) ||| (f_F_part x0 8 4 1)) hx hb hr (fun t ht hW => ⟨(((f_F_signed x0 31 12) ||| (f_F_part x0 7 1 11)) ||| (f_F_part x0 25 6 5)) ||| (f_F_part x0 8 4 1), rfl, rfl, ht⟩) (fun _ h => by cases h) d_F_branch_37
theorem call_F_branch {p : Program} {l : Launch} {e : Env} {R : Room} {s : State} {m : MethodId} {args : Array Value} {below : List Frame} {meth : Method} {c : Code} {H : Heap} {locs : List Loc} {cells slots : Nat} {Q : State → Prop} {cc : ByteArray} {pc nL idx : Nat} {ls : Array Slot} {rest : List Value} {Ts : List Cond} {own : String} {x0 : Int32} (S : CallFix p m c cc nL s args Ts own) (hTs : ∀ w ∈ WT, w ∈ Ts) (h1 : Cond.methodLink own idx y_F_branch ∈ WT) (hR : 1 + 1 ≤ R.frames ∧ 8 + (1 + 11) + 23 ≤ R.locals) (hsz : ls.size = nL) (hrm : (rest.map fun v => v.category).sum ≤ 8) (hdg : decode cc pc = .ok (.invokestatic idx, 3)) (hc : cells ≤ R.cells ∧ slots ≤ R.slots) (kk : W p l e R s m args below meth c H locs cells slots Q (F0 m (pc + 3) ls (.int (f_F_branch x0) :: rest))) : W p l e R s m args below meth c H locs cells slots Q (F0 m pc ls (.int x0 :: rest)) :=
  vp_callSi (va_Run.run (va_runS (As := [.int x0]) (rest := rest) S (c_F_branch l x0) (va_cwS 1 S.2.2.2.2 (gS hTs h1 m_545 m_57 m_546) rfl rfl rfl (by decide +kernel) hR) ⟨fun a U g mk q => q, fun U hU hW => ⟨rfl, trivial⟩⟩ rfl rfl hsz rfl (lv_room hrm) hdg hc)) (fun r e => by subst e; exact kk)

def f_F_jump (x0 : Int32) : Int32 :=
  (((f_F_signed x0 31 20) ||| (f_F_part x0 12 8 12)) ||| (f_F_part x0 20 1 11)) ||| (f_F_part x0 21 10 1)
set_option maxRecDepth 100000 in
set_option maxHeartbeats 4000000 in
theorem c_F_jump (l : Launch) (x0 : Int32) : Met l y_F_jump (Cond.code y_F_jump b_F_jump 1 (some .int) :: WT) ({ frames := 1, cells := 0, slots := 0, locals := 23 }) (va_Pc [.int x0] (fun _ => True)) (vp_Si (fun r => r = f_F_jump x0)) 0 0 no := by
  refine va_MetF (cc := b_F_jump) (maxL := 1) (ret := (some .int)) (by decide +kernel) rfl ?_
  intro p e s m args below meth c s₁ B hml hv
  obtain ⟨rfl, -⟩ := hv
  have hx := B.exec
  have hb := B.bytes
  have hr := B.returns
  have hts := atoms_spec (ws := (Cond.code y_F_jump b_F_jump 1 (some .int) :: WT)) B.pre
  have hT : ∀ w ∈ WT, w.before _ s = true := fun w h => hts w (inC w h)
  have hown : s.vm.findClass R_F = some m.cls := findClass_of_methodNamed B.named
  have hlocks := B.notSynchronized
  have hS : va_S no s.heap s.heap [] := va_S.rf
  have S : CallFix p m c b_F_jump 1 s _ (Cond.code y_F_jump b_F_jump 1 (some .int) :: WT) R_F := ⟨hx, hb, hml, hown, hts⟩
  have hl := lv_entry ([.int x0]) (n := 1) (Nat.le_of_ble_eq_true rfl)
  rw [lg_entry_eq]
  generalize (lg_sl ([.int x0]) ++ List.replicate (1 - (lg_sl ([.int x0])).length) Slot.unset).toArray = ls at hl ⊢
  have hl : lv_has ls 1 [(0, .int x0)] := hl
  refine lv_iload_n hx hb d_F_jump_0 rfl (lv_at hl 0 rfl) ?_
  refine lv_bipush (v := 31) hx hb d_F_jump_1 (by decide) ?_
  refine lv_bipush (v := 20) hx hb d_F_jump_3 (by decide) ?_
  refine call_F_signed S inC m_332 ⟨(Nat.le_of_ble_eq_true rfl), (Nat.le_of_ble_eq_true rfl)⟩ hl.1 (Nat.le_of_ble_eq_true rfl) d_F_jump_5 ⟨(Nat.le_of_ble_eq_true rfl), (Nat.le_of_ble_eq_true rfl)⟩ ?_
  refine lv_iload_n hx hb d_F_jump_8 rfl (lv_at hl 0 rfl) ?_
  refine lv_bipush (v := 12) hx hb d_F_jump_9 (by decide) ?_
  refine lv_bipush (v := 8) hx hb d_F_jump_11 (by decide) ?_
  refine lv_bipush (v := 12) hx hb d_F_jump_13 (by decide) ?_
  refine call_F_part S inC m_304 ⟨(Nat.le_of_ble_eq_true rfl), (Nat.le_of_ble_eq_true rfl)⟩ hl.1 (Nat.le_of_ble_eq_true rfl) d_F_jump_15 ⟨(Nat.le_of_ble_eq_true rfl), (Nat.le_of_ble_eq_true rfl)⟩ ?_
  refine lv_ior hx hb d_F_jump_18 ?_
  refine lv_iload_n hx hb d_F_jump_19 rfl (lv_at hl 0 rfl) ?_
  refine lv_bipush (v := 20) hx hb d_F_jump_20 (by decide) ?_
  refine lv_iconst (v := 1) hx hb d_F_jump_22 (by decide) ?_
  refine lv_bipush (v := 11) hx hb d_F_jump_23 (by decide) ?_
  refine call_F_part S inC m_304 ⟨(Nat.le_of_ble_eq_true rfl), (Nat.le_of_ble_eq_true rfl)⟩ hl.1 (Nat.le_of_ble_eq_true rfl) d_F_jump_25 ⟨(Nat.le_of_ble_eq_true rfl), (Nat.le_of_ble_eq_true rfl)⟩ ?_
  refine lv_ior hx hb d_F_jump_28 ?_
  refine lv_iload_n hx hb d_F_jump_29 rfl (lv_at hl 0 rfl) ?_
  refine lv_bipush (v := 21) hx hb d_F_jump_30 (by decide) ?_
  refine lv_bipush (v := 10) hx hb d_F_jump_32 (by decide) ?_
  refine lv_iconst (v := 1) hx hb d_F_jump_34 (by decide) ?_
  refine call_F_part S inC m_304 ⟨(Nat.le_of_ble_eq_true rfl), (Nat.le_of_ble_eq_true rfl)⟩ hl.1 (Nat.le_of_ble_eq_true rfl) d_F_jump_35 ⟨(Nat.le_of_ble_eq_true rfl), (Nat.le_of_ble_eq_true rfl)⟩ ?_
  refine lv_ior hx hb d_F_jump_38 ?_
  exact W.iret (v := (((f_F_signed x0 31 20) ||| (f_F_part x0 12 8 12)) ||| (f_F_part x0 20 1 11)) ||| (f_F_part x0 21 10 1)) hx hb hr (fun t ht hW => ⟨(((f_F_signed x0 31 20) ||| (f_F_part x0 12 8 12)) ||| (f_F_part x0 20 1 11)) ||| (f_F_part x0 21 10 1), rfl, rfl, ht⟩) (fun _ h => by cases h) d_F_jump_39
theorem call_F_jump {p : Program} {l : Launch} {e : Env} {R : Room} {s : State} {m : MethodId} {args : Array Value} {below : List Frame} {meth : Method} {c : Code} {H : Heap} {locs : List Loc} {cells slots : Nat} {Q : State → Prop} {cc : ByteArray} {pc nL idx : Nat} {ls : Array Slot} {rest : List Value} {Ts : List Cond} {own : String} {x0 : Int32} (S : CallFix p m c cc nL s args Ts own) (hTs : ∀ w ∈ WT, w ∈ Ts) (h1 : Cond.methodLink own idx y_F_jump ∈ WT) (hR : 1 + 1 ≤ R.frames ∧ 8 + (1 + 11) + 23 ≤ R.locals) (hsz : ls.size = nL) (hrm : (rest.map fun v => v.category).sum ≤ 8) (hdg : decode cc pc = .ok (.invokestatic idx, 3)) (hc : cells ≤ R.cells ∧ slots ≤ R.slots) (kk : W p l e R s m args below meth c H locs cells slots Q (F0 m (pc + 3) ls (.int (f_F_jump x0) :: rest))) : W p l e R s m args below meth c H locs cells slots Q (F0 m pc ls (.int x0 :: rest)) :=
  vp_callSi (va_Run.run (va_runS (As := [.int x0]) (rest := rest) S (c_F_jump l x0) (va_cwS 1 S.2.2.2.2 (gS hTs h1 m_552 m_57 m_553) rfl rfl rfl (by decide +kernel) hR) ⟨fun a U g mk q => q, fun U hU hW => ⟨rfl, trivial⟩⟩ rfl rfl hsz rfl (lv_room hrm) hdg hc)) (fun r e => by subst e; exact kk)

def f_F_six (x0 : Int32) : Int32 :=
  (f_F_signed x0 12 5) ||| (f_F_part x0 2 5 0)
set_option maxRecDepth 100000 in
set_option maxHeartbeats 4000000 in
theorem c_F_six (l : Launch) (x0 : Int32) : Met l y_F_six (Cond.code y_F_six b_F_six 1 (some .int) :: WT) ({ frames := 1, cells := 0, slots := 0, locals := 23 }) (va_Pc [.int x0] (fun _ => True)) (vp_Si (fun r => r = f_F_six x0)) 0 0 no := by
  refine va_MetF (cc := b_F_six) (maxL := 1) (ret := (some .int)) (by decide +kernel) rfl ?_
  intro p e s m args below meth c s₁ B hml hv
  obtain ⟨rfl, -⟩ := hv
  have hx := B.exec
  have hb := B.bytes
  have hr := B.returns
  have hts := atoms_spec (ws := (Cond.code y_F_six b_F_six 1 (some .int) :: WT)) B.pre
  have hT : ∀ w ∈ WT, w.before _ s = true := fun w h => hts w (inC w h)
  have hown : s.vm.findClass R_F = some m.cls := findClass_of_methodNamed B.named
  have hlocks := B.notSynchronized
  have hS : va_S no s.heap s.heap [] := va_S.rf
  have S : CallFix p m c b_F_six 1 s _ (Cond.code y_F_six b_F_six 1 (some .int) :: WT) R_F := ⟨hx, hb, hml, hown, hts⟩
  have hl := lv_entry ([.int x0]) (n := 1) (Nat.le_of_ble_eq_true rfl)
  rw [lg_entry_eq]
  generalize (lg_sl ([.int x0]) ++ List.replicate (1 - (lg_sl ([.int x0])).length) Slot.unset).toArray = ls at hl ⊢
  have hl : lv_has ls 1 [(0, .int x0)] := hl
  refine lv_iload_n hx hb d_F_six_0 rfl (lv_at hl 0 rfl) ?_
  refine lv_bipush (v := 12) hx hb d_F_six_1 (by decide) ?_
  refine lv_iconst (v := 5) hx hb d_F_six_3 (by decide) ?_
  refine call_F_signed S inC m_332 ⟨(Nat.le_of_ble_eq_true rfl), (Nat.le_of_ble_eq_true rfl)⟩ hl.1 (Nat.le_of_ble_eq_true rfl) d_F_six_4 ⟨(Nat.le_of_ble_eq_true rfl), (Nat.le_of_ble_eq_true rfl)⟩ ?_
  refine lv_iload_n hx hb d_F_six_7 rfl (lv_at hl 0 rfl) ?_
  refine lv_iconst (v := 2) hx hb d_F_six_8 (by decide) ?_
  refine lv_iconst (v := 5) hx hb d_F_six_9 (by decide) ?_
  refine lv_iconst (v := 0) hx hb d_F_six_10 (by decide) ?_
  refine call_F_part S inC m_304 ⟨(Nat.le_of_ble_eq_true rfl), (Nat.le_of_ble_eq_true rfl)⟩ hl.1 (Nat.le_of_ble_eq_true rfl) d_F_six_11 ⟨(Nat.le_of_ble_eq_true rfl), (Nat.le_of_ble_eq_true rfl)⟩ ?_
  refine lv_ior hx hb d_F_six_14 ?_
  exact W.iret (v := (f_F_signed x0 12 5) ||| (f_F_part x0 2 5 0)) hx hb hr (fun t ht hW => ⟨(f_F_signed x0 12 5) ||| (f_F_part x0 2 5 0), rfl, rfl, ht⟩) (fun _ h => by cases h) d_F_six_15
theorem call_F_six {p : Program} {l : Launch} {e : Env} {R : Room} {s : State} {m : MethodId} {args : Array Value} {below : List Frame} {meth : Method} {c : Code} {H : Heap} {locs : List Loc} {cells slots : Nat} {Q : State → Prop} {cc : ByteArray} {pc nL idx : Nat} {ls : Array Slot} {rest : List Value} {Ts : List Cond} {own : String} {x0 : Int32} (S : CallFix p m c cc nL s args Ts own) (hTs : ∀ w ∈ WT, w ∈ Ts) (h1 : Cond.methodLink own idx y_F_six ∈ WT) (hR : 1 + 1 ≤ R.frames ∧ 8 + (1 + 11) + 23 ≤ R.locals) (hsz : ls.size = nL) (hrm : (rest.map fun v => v.category).sum ≤ 8) (hdg : decode cc pc = .ok (.invokestatic idx, 3)) (hc : cells ≤ R.cells ∧ slots ≤ R.slots) (kk : W p l e R s m args below meth c H locs cells slots Q (F0 m (pc + 3) ls (.int (f_F_six x0) :: rest))) : W p l e R s m args below meth c H locs cells slots Q (F0 m pc ls (.int x0 :: rest)) :=
  vp_callSi (va_Run.run (va_runS (As := [.int x0]) (rest := rest) S (c_F_six l x0) (va_cwS 1 S.2.2.2.2 (gS hTs h1 m_330 m_57 m_331) rfl rfl rfl (by decide +kernel) hR) ⟨fun a U g mk q => q, fun U hU hW => ⟨rfl, trivial⟩⟩ rfl rfl hsz rfl (lv_room hrm) hdg hc)) (fun r e => by subst e; exact kk)

def f_F_times4 (x0 : Int32) : Int32 :=
  (((f_F_part x0 11 2 4) ||| (f_F_part x0 7 4 6)) ||| (f_F_part x0 6 1 2)) ||| (f_F_part x0 5 1 3)
set_option maxRecDepth 100000 in
set_option maxHeartbeats 4000000 in
theorem c_F_times4 (l : Launch) (x0 : Int32) : Met l y_F_times4 (Cond.code y_F_times4 b_F_times4 1 (some .int) :: WT) ({ frames := 1, cells := 0, slots := 0, locals := 23 }) (va_Pc [.int x0] (fun _ => True)) (vp_Si (fun r => r = f_F_times4 x0)) 0 0 no := by
  refine va_MetF (cc := b_F_times4) (maxL := 1) (ret := (some .int)) (by decide +kernel) rfl ?_
  intro p e s m args below meth c s₁ B hml hv
  obtain ⟨rfl, -⟩ := hv
  have hx := B.exec
  have hb := B.bytes
  have hr := B.returns
  have hts := atoms_spec (ws := (Cond.code y_F_times4 b_F_times4 1 (some .int) :: WT)) B.pre
  have hT : ∀ w ∈ WT, w.before _ s = true := fun w h => hts w (inC w h)
  have hown : s.vm.findClass R_F = some m.cls := findClass_of_methodNamed B.named
  have hlocks := B.notSynchronized
  have hS : va_S no s.heap s.heap [] := va_S.rf
  have S : CallFix p m c b_F_times4 1 s _ (Cond.code y_F_times4 b_F_times4 1 (some .int) :: WT) R_F := ⟨hx, hb, hml, hown, hts⟩
  have hl := lv_entry ([.int x0]) (n := 1) (Nat.le_of_ble_eq_true rfl)
  rw [lg_entry_eq]
  generalize (lg_sl ([.int x0]) ++ List.replicate (1 - (lg_sl ([.int x0])).length) Slot.unset).toArray = ls at hl ⊢
  have hl : lv_has ls 1 [(0, .int x0)] := hl
  refine lv_iload_n hx hb d_F_times4_0 rfl (lv_at hl 0 rfl) ?_
  refine lv_bipush (v := 11) hx hb d_F_times4_1 (by decide) ?_
  refine lv_iconst (v := 2) hx hb d_F_times4_3 (by decide) ?_
  refine lv_iconst (v := 4) hx hb d_F_times4_4 (by decide) ?_
  refine call_F_part S inC m_304 ⟨(Nat.le_of_ble_eq_true rfl), (Nat.le_of_ble_eq_true rfl)⟩ hl.1 (Nat.le_of_ble_eq_true rfl) d_F_times4_5 ⟨(Nat.le_of_ble_eq_true rfl), (Nat.le_of_ble_eq_true rfl)⟩ ?_
  refine lv_iload_n hx hb d_F_times4_8 rfl (lv_at hl 0 rfl) ?_
  refine lv_bipush (v := 7) hx hb d_F_times4_9 (by decide) ?_
  refine lv_iconst (v := 4) hx hb d_F_times4_11 (by decide) ?_
  refine lv_bipush (v := 6) hx hb d_F_times4_12 (by decide) ?_
  refine call_F_part S inC m_304 ⟨(Nat.le_of_ble_eq_true rfl), (Nat.le_of_ble_eq_true rfl)⟩ hl.1 (Nat.le_of_ble_eq_true rfl) d_F_times4_14 ⟨(Nat.le_of_ble_eq_true rfl), (Nat.le_of_ble_eq_true rfl)⟩ ?_
  refine lv_ior hx hb d_F_times4_17 ?_
  refine lv_iload_n hx hb d_F_times4_18 rfl (lv_at hl 0 rfl) ?_
  refine lv_bipush (v := 6) hx hb d_F_times4_19 (by decide) ?_
  refine lv_iconst (v := 1) hx hb d_F_times4_21 (by decide) ?_
  refine lv_iconst (v := 2) hx hb d_F_times4_22 (by decide) ?_
  refine call_F_part S inC m_304 ⟨(Nat.le_of_ble_eq_true rfl), (Nat.le_of_ble_eq_true rfl)⟩ hl.1 (Nat.le_of_ble_eq_true rfl) d_F_times4_23 ⟨(Nat.le_of_ble_eq_true rfl), (Nat.le_of_ble_eq_true rfl)⟩ ?_
  refine lv_ior hx hb d_F_times4_26 ?_
  refine lv_iload_n hx hb d_F_times4_27 rfl (lv_at hl 0 rfl) ?_
  refine lv_iconst (v := 5) hx hb d_F_times4_28 (by decide) ?_
  refine lv_iconst (v := 1) hx hb d_F_times4_29 (by decide) ?_
  refine lv_iconst (v := 3) hx hb d_F_times4_30 (by decide) ?_
  refine call_F_part S inC m_304 ⟨(Nat.le_of_ble_eq_true rfl), (Nat.le_of_ble_eq_true rfl)⟩ hl.1 (Nat.le_of_ble_eq_true rfl) d_F_times4_31 ⟨(Nat.le_of_ble_eq_true rfl), (Nat.le_of_ble_eq_true rfl)⟩ ?_
  refine lv_ior hx hb d_F_times4_34 ?_
  exact W.iret (v := (((f_F_part x0 11 2 4) ||| (f_F_part x0 7 4 6)) ||| (f_F_part x0 6 1 2)) ||| (f_F_part x0 5 1 3)) hx hb hr (fun t ht hW => ⟨(((f_F_part x0 11 2 4) ||| (f_F_part x0 7 4 6)) ||| (f_F_part x0 6 1 2)) ||| (f_F_part x0 5 1 3), rfl, rfl, ht⟩) (fun _ h => by cases h) d_F_times4_35
theorem call_F_times4 {p : Program} {l : Launch} {e : Env} {R : Room} {s : State} {m : MethodId} {args : Array Value} {below : List Frame} {meth : Method} {c : Code} {H : Heap} {locs : List Loc} {cells slots : Nat} {Q : State → Prop} {cc : ByteArray} {pc nL idx : Nat} {ls : Array Slot} {rest : List Value} {Ts : List Cond} {own : String} {x0 : Int32} (S : CallFix p m c cc nL s args Ts own) (hTs : ∀ w ∈ WT, w ∈ Ts) (h1 : Cond.methodLink own idx y_F_times4 ∈ WT) (hR : 1 + 1 ≤ R.frames ∧ 8 + (1 + 11) + 23 ≤ R.locals) (hsz : ls.size = nL) (hrm : (rest.map fun v => v.category).sum ≤ 8) (hdg : decode cc pc = .ok (.invokestatic idx, 3)) (hc : cells ≤ R.cells ∧ slots ≤ R.slots) (kk : W p l e R s m args below meth c H locs cells slots Q (F0 m (pc + 3) ls (.int (f_F_times4 x0) :: rest))) : W p l e R s m args below meth c H locs cells slots Q (F0 m pc ls (.int x0 :: rest)) :=
  vp_callSi (va_Run.run (va_runS (As := [.int x0]) (rest := rest) S (c_F_times4 l x0) (va_cwS 1 S.2.2.2.2 (gS hTs h1 m_302 m_57 m_303) rfl rfl rfl (by decide +kernel) hR) ⟨fun a U g mk q => q, fun U hU hW => ⟨rfl, trivial⟩⟩ rfl rfl hsz rfl (lv_room hrm) hdg hc)) (fun r e => by subst e; exact kk)

def f_F_times16 (x0 : Int32) : Int32 :=
  ((((f_F_signed x0 12 9) ||| (f_F_part x0 6 1 4)) ||| (f_F_part x0 5 1 6)) ||| (f_F_part x0 3 2 7)) ||| (f_F_part x0 2 1 5)
set_option maxRecDepth 100000 in
set_option maxHeartbeats 4000000 in
theorem c_F_times16 (l : Launch) (x0 : Int32) : Met l y_F_times16 (Cond.code y_F_times16 b_F_times16 1 (some .int) :: WT) ({ frames := 1, cells := 0, slots := 0, locals := 23 }) (va_Pc [.int x0] (fun _ => True)) (vp_Si (fun r => r = f_F_times16 x0)) 0 0 no := by
  refine va_MetF (cc := b_F_times16) (maxL := 1) (ret := (some .int)) (by decide +kernel) rfl ?_
  intro p e s m args below meth c s₁ B hml hv
  obtain ⟨rfl, -⟩ := hv
  have hx := B.exec
  have hb := B.bytes
  have hr := B.returns
  have hts := atoms_spec (ws := (Cond.code y_F_times16 b_F_times16 1 (some .int) :: WT)) B.pre
  have hT : ∀ w ∈ WT, w.before _ s = true := fun w h => hts w (inC w h)
  have hown : s.vm.findClass R_F = some m.cls := findClass_of_methodNamed B.named
  have hlocks := B.notSynchronized
  have hS : va_S no s.heap s.heap [] := va_S.rf
  have S : CallFix p m c b_F_times16 1 s _ (Cond.code y_F_times16 b_F_times16 1 (some .int) :: WT) R_F := ⟨hx, hb, hml, hown, hts⟩
  have hl := lv_entry ([.int x0]) (n := 1) (Nat.le_of_ble_eq_true rfl)
  rw [lg_entry_eq]
  generalize (lg_sl ([.int x0]) ++ List.replicate (1 - (lg_sl ([.int x0])).length) Slot.unset).toArray = ls at hl ⊢
  have hl : lv_has ls 1 [(0, .int x0)] := hl
  refine lv_iload_n hx hb d_F_times16_0 rfl (lv_at hl 0 rfl) ?_
  refine lv_bipush (v := 12) hx hb d_F_times16_1 (by decide) ?_
  refine lv_bipush (v := 9) hx hb d_F_times16_3 (by decide) ?_
  refine call_F_signed S inC m_332 ⟨(Nat.le_of_ble_eq_true rfl), (Nat.le_of_ble_eq_true rfl)⟩ hl.1 (Nat.le_of_ble_eq_true rfl) d_F_times16_5 ⟨(Nat.le_of_ble_eq_true rfl), (Nat.le_of_ble_eq_true rfl)⟩ ?_
  refine lv_iload_n hx hb d_F_times16_8 rfl (lv_at hl 0 rfl) ?_
  refine lv_bipush (v := 6) hx hb d_F_times16_9 (by decide) ?_
  refine lv_iconst (v := 1) hx hb d_F_times16_11 (by decide) ?_
  refine lv_iconst (v := 4) hx hb d_F_times16_12 (by decide) ?_
  refine call_F_part S inC m_304 ⟨(Nat.le_of_ble_eq_true rfl), (Nat.le_of_ble_eq_true rfl)⟩ hl.1 (Nat.le_of_ble_eq_true rfl) d_F_times16_13 ⟨(Nat.le_of_ble_eq_true rfl), (Nat.le_of_ble_eq_true rfl)⟩ ?_
  refine lv_ior hx hb d_F_times16_16 ?_
  refine lv_iload_n hx hb d_F_times16_17 rfl (lv_at hl 0 rfl) ?_
  refine lv_iconst (v := 5) hx hb d_F_times16_18 (by decide) ?_
  refine lv_iconst (v := 1) hx hb d_F_times16_19 (by decide) ?_
  refine lv_bipush (v := 6) hx hb d_F_times16_20 (by decide) ?_
  refine call_F_part S inC m_304 ⟨(Nat.le_of_ble_eq_true rfl), (Nat.le_of_ble_eq_true rfl)⟩ hl.1 (Nat.le_of_ble_eq_true rfl) d_F_times16_22 ⟨(Nat.le_of_ble_eq_true rfl), (Nat.le_of_ble_eq_true rfl)⟩ ?_
  refine lv_ior hx hb d_F_times16_25 ?_
  refine lv_iload_n hx hb d_F_times16_26 rfl (lv_at hl 0 rfl) ?_
  refine lv_iconst (v := 3) hx hb d_F_times16_27 (by decide) ?_
  refine lv_iconst (v := 2) hx hb d_F_times16_28 (by decide) ?_
  refine lv_bipush (v := 7) hx hb d_F_times16_29 (by decide) ?_
  refine call_F_part S inC m_304 ⟨(Nat.le_of_ble_eq_true rfl), (Nat.le_of_ble_eq_true rfl)⟩ hl.1 (Nat.le_of_ble_eq_true rfl) d_F_times16_31 ⟨(Nat.le_of_ble_eq_true rfl), (Nat.le_of_ble_eq_true rfl)⟩ ?_
  refine lv_ior hx hb d_F_times16_34 ?_
  refine lv_iload_n hx hb d_F_times16_35 rfl (lv_at hl 0 rfl) ?_
  refine lv_iconst (v := 2) hx hb d_F_times16_36 (by decide) ?_
  refine lv_iconst (v := 1) hx hb d_F_times16_37 (by decide) ?_
  refine lv_iconst (v := 5) hx hb d_F_times16_38 (by decide) ?_
  refine call_F_part S inC m_304 ⟨(Nat.le_of_ble_eq_true rfl), (Nat.le_of_ble_eq_true rfl)⟩ hl.1 (Nat.le_of_ble_eq_true rfl) d_F_times16_39 ⟨(Nat.le_of_ble_eq_true rfl), (Nat.le_of_ble_eq_true rfl)⟩ ?_
  refine lv_ior hx hb d_F_times16_42 ?_
  exact W.iret (v := ((((f_F_signed x0 12 9) ||| (f_F_part x0 6 1 4)) ||| (f_F_part x0 5 1 6)) ||| (f_F_part x0 3 2 7)) ||| (f_F_part x0 2 1 5)) hx hb hr (fun t ht hW => ⟨((((f_F_signed x0 12 9) ||| (f_F_part x0 6 1 4)) ||| (f_F_part x0 5 1 6)) ||| (f_F_part x0 3 2 7)) ||| (f_F_part x0 2 1 5), rfl, rfl, ht⟩) (fun _ h => by cases h) d_F_times16_43
theorem call_F_times16 {p : Program} {l : Launch} {e : Env} {R : Room} {s : State} {m : MethodId} {args : Array Value} {below : List Frame} {meth : Method} {c : Code} {H : Heap} {locs : List Loc} {cells slots : Nat} {Q : State → Prop} {cc : ByteArray} {pc nL idx : Nat} {ls : Array Slot} {rest : List Value} {Ts : List Cond} {own : String} {x0 : Int32} (S : CallFix p m c cc nL s args Ts own) (hTs : ∀ w ∈ WT, w ∈ Ts) (h1 : Cond.methodLink own idx y_F_times16 ∈ WT) (hR : 1 + 1 ≤ R.frames ∧ 8 + (1 + 11) + 23 ≤ R.locals) (hsz : ls.size = nL) (hrm : (rest.map fun v => v.category).sum ≤ 8) (hdg : decode cc pc = .ok (.invokestatic idx, 3)) (hc : cells ≤ R.cells ∧ slots ≤ R.slots) (kk : W p l e R s m args below meth c H locs cells slots Q (F0 m (pc + 3) ls (.int (f_F_times16 x0) :: rest))) : W p l e R s m args below meth c H locs cells slots Q (F0 m pc ls (.int x0 :: rest)) :=
  vp_callSi (va_Run.run (va_runS (As := [.int x0]) (rest := rest) S (c_F_times16 l x0) (va_cwS 1 S.2.2.2.2 (gS hTs h1 m_533 m_57 m_534) rfl rfl rfl (by decide +kernel) hR) ⟨fun a U g mk q => q, fun U hU hW => ⟨rfl, trivial⟩⟩ rfl rfl hsz rfl (lv_room hrm) hdg hc)) (fun r e => by subst e; exact kk)

def f_F_shortWord (x0 : Int32) : Int32 :=
  ((f_F_part x0 10 3 3) ||| (f_F_part x0 6 1 2)) ||| (f_F_part x0 5 1 6)
set_option maxRecDepth 100000 in
set_option maxHeartbeats 4000000 in
theorem c_F_shortWord (l : Launch) (x0 : Int32) : Met l y_F_shortWord (Cond.code y_F_shortWord b_F_shortWord 1 (some .int) :: WT) ({ frames := 1, cells := 0, slots := 0, locals := 23 }) (va_Pc [.int x0] (fun _ => True)) (vp_Si (fun r => r = f_F_shortWord x0)) 0 0 no := by
  refine va_MetF (cc := b_F_shortWord) (maxL := 1) (ret := (some .int)) (by decide +kernel) rfl ?_
  intro p e s m args below meth c s₁ B hml hv
  obtain ⟨rfl, -⟩ := hv
  have hx := B.exec
  have hb := B.bytes
  have hr := B.returns
  have hts := atoms_spec (ws := (Cond.code y_F_shortWord b_F_shortWord 1 (some .int) :: WT)) B.pre
  have hT : ∀ w ∈ WT, w.before _ s = true := fun w h => hts w (inC w h)
  have hown : s.vm.findClass R_F = some m.cls := findClass_of_methodNamed B.named
  have hlocks := B.notSynchronized
  have hS : va_S no s.heap s.heap [] := va_S.rf
  have S : CallFix p m c b_F_shortWord 1 s _ (Cond.code y_F_shortWord b_F_shortWord 1 (some .int) :: WT) R_F := ⟨hx, hb, hml, hown, hts⟩
  have hl := lv_entry ([.int x0]) (n := 1) (Nat.le_of_ble_eq_true rfl)
  rw [lg_entry_eq]
  generalize (lg_sl ([.int x0]) ++ List.replicate (1 - (lg_sl ([.int x0])).length) Slot.unset).toArray = ls at hl ⊢
  have hl : lv_has ls 1 [(0, .int x0)] := hl
  refine lv_iload_n hx hb d_F_shortWord_0 rfl (lv_at hl 0 rfl) ?_
  refine lv_bipush (v := 10) hx hb d_F_shortWord_1 (by decide) ?_
  refine lv_iconst (v := 3) hx hb d_F_shortWord_3 (by decide) ?_
  refine lv_iconst (v := 3) hx hb d_F_shortWord_4 (by decide) ?_
  refine call_F_part S inC m_304 ⟨(Nat.le_of_ble_eq_true rfl), (Nat.le_of_ble_eq_true rfl)⟩ hl.1 (Nat.le_of_ble_eq_true rfl) d_F_shortWord_5 ⟨(Nat.le_of_ble_eq_true rfl), (Nat.le_of_ble_eq_true rfl)⟩ ?_
  refine lv_iload_n hx hb d_F_shortWord_8 rfl (lv_at hl 0 rfl) ?_
  refine lv_bipush (v := 6) hx hb d_F_shortWord_9 (by decide) ?_
  refine lv_iconst (v := 1) hx hb d_F_shortWord_11 (by decide) ?_
  refine lv_iconst (v := 2) hx hb d_F_shortWord_12 (by decide) ?_
  refine call_F_part S inC m_304 ⟨(Nat.le_of_ble_eq_true rfl), (Nat.le_of_ble_eq_true rfl)⟩ hl.1 (Nat.le_of_ble_eq_true rfl) d_F_shortWord_13 ⟨(Nat.le_of_ble_eq_true rfl), (Nat.le_of_ble_eq_true rfl)⟩ ?_
  refine lv_ior hx hb d_F_shortWord_16 ?_
  refine lv_iload_n hx hb d_F_shortWord_17 rfl (lv_at hl 0 rfl) ?_
  refine lv_iconst (v := 5) hx hb d_F_shortWord_18 (by decide) ?_
  refine lv_iconst (v := 1) hx hb d_F_shortWord_19 (by decide) ?_
  refine lv_bipush (v := 6) hx hb d_F_shortWord_20 (by decide) ?_
  refine call_F_part S inC m_304 ⟨(Nat.le_of_ble_eq_true rfl), (Nat.le_of_ble_eq_true rfl)⟩ hl.1 (Nat.le_of_ble_eq_true rfl) d_F_shortWord_22 ⟨(Nat.le_of_ble_eq_true rfl), (Nat.le_of_ble_eq_true rfl)⟩ ?_
  refine lv_ior hx hb d_F_shortWord_25 ?_
  exact W.iret (v := ((f_F_part x0 10 3 3) ||| (f_F_part x0 6 1 2)) ||| (f_F_part x0 5 1 6)) hx hb hr (fun t ht hW => ⟨((f_F_part x0 10 3 3) ||| (f_F_part x0 6 1 2)) ||| (f_F_part x0 5 1 6), rfl, rfl, ht⟩) (fun _ h => by cases h) d_F_shortWord_26
theorem call_F_shortWord {p : Program} {l : Launch} {e : Env} {R : Room} {s : State} {m : MethodId} {args : Array Value} {below : List Frame} {meth : Method} {c : Code} {H : Heap} {locs : List Loc} {cells slots : Nat} {Q : State → Prop} {cc : ByteArray} {pc nL idx : Nat} {ls : Array Slot} {rest : List Value} {Ts : List Cond} {own : String} {x0 : Int32} (S : CallFix p m c cc nL s args Ts own) (hTs : ∀ w ∈ WT, w ∈ Ts) (h1 : Cond.methodLink own idx y_F_shortWord ∈ WT) (hR : 1 + 1 ≤ R.frames ∧ 8 + (1 + 11) + 23 ≤ R.locals) (hsz : ls.size = nL) (hrm : (rest.map fun v => v.category).sum ≤ 8) (hdg : decode cc pc = .ok (.invokestatic idx, 3)) (hc : cells ≤ R.cells ∧ slots ≤ R.slots) (kk : W p l e R s m args below meth c H locs cells slots Q (F0 m (pc + 3) ls (.int (f_F_shortWord x0) :: rest))) : W p l e R s m args below meth c H locs cells slots Q (F0 m pc ls (.int x0 :: rest)) :=
  vp_callSi (va_Run.run (va_runS (As := [.int x0]) (rest := rest) S (c_F_shortWord l x0) (va_cwS 1 S.2.2.2.2 (gS hTs h1 m_536 m_57 m_537) rfl rfl rfl (by decide +kernel) hR) ⟨fun a U g mk q => q, fun U hU hW => ⟨rfl, trivial⟩⟩ rfl rfl hsz rfl (lv_room hrm) hdg hc)) (fun r e => by subst e; exact kk)

def f_F_stackLoad (x0 : Int32) : Int32 :=
  ((f_F_part x0 12 1 5) ||| (f_F_part x0 4 3 2)) ||| (f_F_part x0 2 2 6)
set_option maxRecDepth 100000 in
set_option maxHeartbeats 4000000 in
theorem c_F_stackLoad (l : Launch) (x0 : Int32) : Met l y_F_stackLoad (Cond.code y_F_stackLoad b_F_stackLoad 1 (some .int) :: WT) ({ frames := 1, cells := 0, slots := 0, locals := 23 }) (va_Pc [.int x0] (fun _ => True)) (vp_Si (fun r => r = f_F_stackLoad x0)) 0 0 no := by
  refine va_MetF (cc := b_F_stackLoad) (maxL := 1) (ret := (some .int)) (by decide +kernel) rfl ?_
  intro p e s m args below meth c s₁ B hml hv
  obtain ⟨rfl, -⟩ := hv
  have hx := B.exec
  have hb := B.bytes
  have hr := B.returns
  have hts := atoms_spec (ws := (Cond.code y_F_stackLoad b_F_stackLoad 1 (some .int) :: WT)) B.pre
  have hT : ∀ w ∈ WT, w.before _ s = true := fun w h => hts w (inC w h)
  have hown : s.vm.findClass R_F = some m.cls := findClass_of_methodNamed B.named
  have hlocks := B.notSynchronized
  have hS : va_S no s.heap s.heap [] := va_S.rf
  have S : CallFix p m c b_F_stackLoad 1 s _ (Cond.code y_F_stackLoad b_F_stackLoad 1 (some .int) :: WT) R_F := ⟨hx, hb, hml, hown, hts⟩
  have hl := lv_entry ([.int x0]) (n := 1) (Nat.le_of_ble_eq_true rfl)
  rw [lg_entry_eq]
  generalize (lg_sl ([.int x0]) ++ List.replicate (1 - (lg_sl ([.int x0])).length) Slot.unset).toArray = ls at hl ⊢
  have hl : lv_has ls 1 [(0, .int x0)] := hl
  refine lv_iload_n hx hb d_F_stackLoad_0 rfl (lv_at hl 0 rfl) ?_
  refine lv_bipush (v := 12) hx hb d_F_stackLoad_1 (by decide) ?_
  refine lv_iconst (v := 1) hx hb d_F_stackLoad_3 (by decide) ?_
  refine lv_iconst (v := 5) hx hb d_F_stackLoad_4 (by decide) ?_
  refine call_F_part S inC m_304 ⟨(Nat.le_of_ble_eq_true rfl), (Nat.le_of_ble_eq_true rfl)⟩ hl.1 (Nat.le_of_ble_eq_true rfl) d_F_stackLoad_5 ⟨(Nat.le_of_ble_eq_true rfl), (Nat.le_of_ble_eq_true rfl)⟩ ?_
  refine lv_iload_n hx hb d_F_stackLoad_8 rfl (lv_at hl 0 rfl) ?_
  refine lv_iconst (v := 4) hx hb d_F_stackLoad_9 (by decide) ?_
  refine lv_iconst (v := 3) hx hb d_F_stackLoad_10 (by decide) ?_
  refine lv_iconst (v := 2) hx hb d_F_stackLoad_11 (by decide) ?_
  refine call_F_part S inC m_304 ⟨(Nat.le_of_ble_eq_true rfl), (Nat.le_of_ble_eq_true rfl)⟩ hl.1 (Nat.le_of_ble_eq_true rfl) d_F_stackLoad_12 ⟨(Nat.le_of_ble_eq_true rfl), (Nat.le_of_ble_eq_true rfl)⟩ ?_
  refine lv_ior hx hb d_F_stackLoad_15 ?_
  refine lv_iload_n hx hb d_F_stackLoad_16 rfl (lv_at hl 0 rfl) ?_
  refine lv_iconst (v := 2) hx hb d_F_stackLoad_17 (by decide) ?_
  refine lv_iconst (v := 2) hx hb d_F_stackLoad_18 (by decide) ?_
  refine lv_bipush (v := 6) hx hb d_F_stackLoad_19 (by decide) ?_
  refine call_F_part S inC m_304 ⟨(Nat.le_of_ble_eq_true rfl), (Nat.le_of_ble_eq_true rfl)⟩ hl.1 (Nat.le_of_ble_eq_true rfl) d_F_stackLoad_21 ⟨(Nat.le_of_ble_eq_true rfl), (Nat.le_of_ble_eq_true rfl)⟩ ?_
  refine lv_ior hx hb d_F_stackLoad_24 ?_
  exact W.iret (v := ((f_F_part x0 12 1 5) ||| (f_F_part x0 4 3 2)) ||| (f_F_part x0 2 2 6)) hx hb hr (fun t ht hW => ⟨((f_F_part x0 12 1 5) ||| (f_F_part x0 4 3 2)) ||| (f_F_part x0 2 2 6), rfl, rfl, ht⟩) (fun _ h => by cases h) d_F_stackLoad_25
theorem call_F_stackLoad {p : Program} {l : Launch} {e : Env} {R : Room} {s : State} {m : MethodId} {args : Array Value} {below : List Frame} {meth : Method} {c : Code} {H : Heap} {locs : List Loc} {cells slots : Nat} {Q : State → Prop} {cc : ByteArray} {pc nL idx : Nat} {ls : Array Slot} {rest : List Value} {Ts : List Cond} {own : String} {x0 : Int32} (S : CallFix p m c cc nL s args Ts own) (hTs : ∀ w ∈ WT, w ∈ Ts) (h1 : Cond.methodLink own idx y_F_stackLoad ∈ WT) (hR : 1 + 1 ≤ R.frames ∧ 8 + (1 + 11) + 23 ≤ R.locals) (hsz : ls.size = nL) (hrm : (rest.map fun v => v.category).sum ≤ 8) (hdg : decode cc pc = .ok (.invokestatic idx, 3)) (hc : cells ≤ R.cells ∧ slots ≤ R.slots) (kk : W p l e R s m args below meth c H locs cells slots Q (F0 m (pc + 3) ls (.int (f_F_stackLoad x0) :: rest))) : W p l e R s m args below meth c H locs cells slots Q (F0 m pc ls (.int x0 :: rest)) :=
  vp_callSi (va_Run.run (va_runS (As := [.int x0]) (rest := rest) S (c_F_stackLoad l x0) (va_cwS 1 S.2.2.2.2 (gS hTs h1 m_539 m_57 m_540) rfl rfl rfl (by decide +kernel) hR) ⟨fun a U g mk q => q, fun U hU hW => ⟨rfl, trivial⟩⟩ rfl rfl hsz rfl (lv_room hrm) hdg hc)) (fun r e => by subst e; exact kk)

def f_F_stackStore (x0 : Int32) : Int32 :=
  (f_F_part x0 9 4 2) ||| (f_F_part x0 7 2 6)
set_option maxRecDepth 100000 in
set_option maxHeartbeats 4000000 in
theorem c_F_stackStore (l : Launch) (x0 : Int32) : Met l y_F_stackStore (Cond.code y_F_stackStore b_F_stackStore 1 (some .int) :: WT) ({ frames := 1, cells := 0, slots := 0, locals := 23 }) (va_Pc [.int x0] (fun _ => True)) (vp_Si (fun r => r = f_F_stackStore x0)) 0 0 no := by
  refine va_MetF (cc := b_F_stackStore) (maxL := 1) (ret := (some .int)) (by decide +kernel) rfl ?_
  intro p e s m args below meth c s₁ B hml hv
  obtain ⟨rfl, -⟩ := hv
  have hx := B.exec
  have hb := B.bytes
  have hr := B.returns
  have hts := atoms_spec (ws := (Cond.code y_F_stackStore b_F_stackStore 1 (some .int) :: WT)) B.pre
  have hT : ∀ w ∈ WT, w.before _ s = true := fun w h => hts w (inC w h)
  have hown : s.vm.findClass R_F = some m.cls := findClass_of_methodNamed B.named
  have hlocks := B.notSynchronized
  have hS : va_S no s.heap s.heap [] := va_S.rf
  have S : CallFix p m c b_F_stackStore 1 s _ (Cond.code y_F_stackStore b_F_stackStore 1 (some .int) :: WT) R_F := ⟨hx, hb, hml, hown, hts⟩
  have hl := lv_entry ([.int x0]) (n := 1) (Nat.le_of_ble_eq_true rfl)
  rw [lg_entry_eq]
  generalize (lg_sl ([.int x0]) ++ List.replicate (1 - (lg_sl ([.int x0])).length) Slot.unset).toArray = ls at hl ⊢
  have hl : lv_has ls 1 [(0, .int x0)] := hl
  refine lv_iload_n hx hb d_F_stackStore_0 rfl (lv_at hl 0 rfl) ?_
  refine lv_bipush (v := 9) hx hb d_F_stackStore_1 (by decide) ?_
  refine lv_iconst (v := 4) hx hb d_F_stackStore_3 (by decide) ?_
  refine lv_iconst (v := 2) hx hb d_F_stackStore_4 (by decide) ?_
  refine call_F_part S inC m_304 ⟨(Nat.le_of_ble_eq_true rfl), (Nat.le_of_ble_eq_true rfl)⟩ hl.1 (Nat.le_of_ble_eq_true rfl) d_F_stackStore_5 ⟨(Nat.le_of_ble_eq_true rfl), (Nat.le_of_ble_eq_true rfl)⟩ ?_
  refine lv_iload_n hx hb d_F_stackStore_8 rfl (lv_at hl 0 rfl) ?_
  refine lv_bipush (v := 7) hx hb d_F_stackStore_9 (by decide) ?_
  refine lv_iconst (v := 2) hx hb d_F_stackStore_11 (by decide) ?_
  refine lv_bipush (v := 6) hx hb d_F_stackStore_12 (by decide) ?_
  refine call_F_part S inC m_304 ⟨(Nat.le_of_ble_eq_true rfl), (Nat.le_of_ble_eq_true rfl)⟩ hl.1 (Nat.le_of_ble_eq_true rfl) d_F_stackStore_14 ⟨(Nat.le_of_ble_eq_true rfl), (Nat.le_of_ble_eq_true rfl)⟩ ?_
  refine lv_ior hx hb d_F_stackStore_17 ?_
  exact W.iret (v := (f_F_part x0 9 4 2) ||| (f_F_part x0 7 2 6)) hx hb hr (fun t ht hW => ⟨(f_F_part x0 9 4 2) ||| (f_F_part x0 7 2 6), rfl, rfl, ht⟩) (fun _ h => by cases h) d_F_stackStore_18
theorem call_F_stackStore {p : Program} {l : Launch} {e : Env} {R : Room} {s : State} {m : MethodId} {args : Array Value} {below : List Frame} {meth : Method} {c : Code} {H : Heap} {locs : List Loc} {cells slots : Nat} {Q : State → Prop} {cc : ByteArray} {pc nL idx : Nat} {ls : Array Slot} {rest : List Value} {Ts : List Cond} {own : String} {x0 : Int32} (S : CallFix p m c cc nL s args Ts own) (hTs : ∀ w ∈ WT, w ∈ Ts) (h1 : Cond.methodLink own idx y_F_stackStore ∈ WT) (hR : 1 + 1 ≤ R.frames ∧ 8 + (1 + 11) + 23 ≤ R.locals) (hsz : ls.size = nL) (hrm : (rest.map fun v => v.category).sum ≤ 8) (hdg : decode cc pc = .ok (.invokestatic idx, 3)) (hc : cells ≤ R.cells ∧ slots ≤ R.slots) (kk : W p l e R s m args below meth c H locs cells slots Q (F0 m (pc + 3) ls (.int (f_F_stackStore x0) :: rest))) : W p l e R s m args below meth c H locs cells slots Q (F0 m pc ls (.int x0 :: rest)) :=
  vp_callSi (va_Run.run (va_runS (As := [.int x0]) (rest := rest) S (c_F_stackStore l x0) (va_cwS 1 S.2.2.2.2 (gS hTs h1 m_542 m_57 m_543) rfl rfl rfl (by decide +kernel) hR) ⟨fun a U g mk q => q, fun U hU hW => ⟨rfl, trivial⟩⟩ rfl rfl hsz rfl (lv_room hrm) hdg hc)) (fun r e => by subst e; exact kk)

def f_F_shortJump (x0 : Int32) : Int32 :=
  (((((((f_F_signed x0 12 11) ||| (f_F_part x0 11 1 4)) ||| (f_F_part x0 9 2 8)) ||| (f_F_part x0 8 1 10)) ||| (f_F_part x0 7 1 6)) ||| (f_F_part x0 6 1 7)) ||| (f_F_part x0 3 3 1)) ||| (f_F_part x0 2 1 5)
set_option maxRecDepth 100000 in
set_option maxHeartbeats 4000000 in
theorem c_F_shortJump (l : Launch) (x0 : Int32) : Met l y_F_shortJump (Cond.code y_F_shortJump b_F_shortJump 1 (some .int) :: WT) ({ frames := 1, cells := 0, slots := 0, locals := 23 }) (va_Pc [.int x0] (fun _ => True)) (vp_Si (fun r => r = f_F_shortJump x0)) 0 0 no := by
  refine va_MetF (cc := b_F_shortJump) (maxL := 1) (ret := (some .int)) (by decide +kernel) rfl ?_
  intro p e s m args below meth c s₁ B hml hv
  obtain ⟨rfl, -⟩ := hv
  have hx := B.exec
  have hb := B.bytes
  have hr := B.returns
  have hts := atoms_spec (ws := (Cond.code y_F_shortJump b_F_shortJump 1 (some .int) :: WT)) B.pre
  have hT : ∀ w ∈ WT, w.before _ s = true := fun w h => hts w (inC w h)
  have hown : s.vm.findClass R_F = some m.cls := findClass_of_methodNamed B.named
  have hlocks := B.notSynchronized
  have hS : va_S no s.heap s.heap [] := va_S.rf
  have S : CallFix p m c b_F_shortJump 1 s _ (Cond.code y_F_shortJump b_F_shortJump 1 (some .int) :: WT) R_F := ⟨hx, hb, hml, hown, hts⟩
  have hl := lv_entry ([.int x0]) (n := 1) (Nat.le_of_ble_eq_true rfl)
  rw [lg_entry_eq]
  generalize (lg_sl ([.int x0]) ++ List.replicate (1 - (lg_sl ([.int x0])).length) Slot.unset).toArray = ls at hl ⊢
  have hl : lv_has ls 1 [(0, .int x0)] := hl
  refine lv_iload_n hx hb d_F_shortJump_0 rfl (lv_at hl 0 rfl) ?_
  refine lv_bipush (v := 12) hx hb d_F_shortJump_1 (by decide) ?_
  refine lv_bipush (v := 11) hx hb d_F_shortJump_3 (by decide) ?_
  refine call_F_signed S inC m_332 ⟨(Nat.le_of_ble_eq_true rfl), (Nat.le_of_ble_eq_true rfl)⟩ hl.1 (Nat.le_of_ble_eq_true rfl) d_F_shortJump_5 ⟨(Nat.le_of_ble_eq_true rfl), (Nat.le_of_ble_eq_true rfl)⟩ ?_
  refine lv_iload_n hx hb d_F_shortJump_8 rfl (lv_at hl 0 rfl) ?_
  refine lv_bipush (v := 11) hx hb d_F_shortJump_9 (by decide) ?_
  refine lv_iconst (v := 1) hx hb d_F_shortJump_11 (by decide) ?_
  refine lv_iconst (v := 4) hx hb d_F_shortJump_12 (by decide) ?_
  refine call_F_part S inC m_304 ⟨(Nat.le_of_ble_eq_true rfl), (Nat.le_of_ble_eq_true rfl)⟩ hl.1 (Nat.le_of_ble_eq_true rfl) d_F_shortJump_13 ⟨(Nat.le_of_ble_eq_true rfl), (Nat.le_of_ble_eq_true rfl)⟩ ?_
  refine lv_ior hx hb d_F_shortJump_16 ?_
  refine lv_iload_n hx hb d_F_shortJump_17 rfl (lv_at hl 0 rfl) ?_
  refine lv_bipush (v := 9) hx hb d_F_shortJump_18 (by decide) ?_
  refine lv_iconst (v := 2) hx hb d_F_shortJump_20 (by decide) ?_
  refine lv_bipush (v := 8) hx hb d_F_shortJump_21 (by decide) ?_
  refine call_F_part S inC m_304 ⟨(Nat.le_of_ble_eq_true rfl), (Nat.le_of_ble_eq_true rfl)⟩ hl.1 (Nat.le_of_ble_eq_true rfl) d_F_shortJump_23 ⟨(Nat.le_of_ble_eq_true rfl), (Nat.le_of_ble_eq_true rfl)⟩ ?_
  refine lv_ior hx hb d_F_shortJump_26 ?_
  refine lv_iload_n hx hb d_F_shortJump_27 rfl (lv_at hl 0 rfl) ?_
  refine lv_bipush (v := 8) hx hb d_F_shortJump_28 (by decide) ?_
  refine lv_iconst (v := 1) hx hb d_F_shortJump_30 (by decide) ?_
  refine lv_bipush (v := 10) hx hb d_F_shortJump_31 (by decide) ?_
  refine call_F_part S inC m_304 ⟨(Nat.le_of_ble_eq_true rfl), (Nat.le_of_ble_eq_true rfl)⟩ hl.1 (Nat.le_of_ble_eq_true rfl) d_F_shortJump_33 ⟨(Nat.le_of_ble_eq_true rfl), (Nat.le_of_ble_eq_true rfl)⟩ ?_
  refine lv_ior hx hb d_F_shortJump_36 ?_
  refine lv_iload_n hx hb d_F_shortJump_37 rfl (lv_at hl 0 rfl) ?_
  refine lv_bipush (v := 7) hx hb d_F_shortJump_38 (by decide) ?_
  refine lv_iconst (v := 1) hx hb d_F_shortJump_40 (by decide) ?_
  refine lv_bipush (v := 6) hx hb d_F_shortJump_41 (by decide) ?_
  refine call_F_part S inC m_304 ⟨(Nat.le_of_ble_eq_true rfl), (Nat.le_of_ble_eq_true rfl)⟩ hl.1 (Nat.le_of_ble_eq_true rfl) d_F_shortJump_43 ⟨(Nat.le_of_ble_eq_true rfl), (Nat.le_of_ble_eq_true rfl)⟩ ?_
  refine lv_ior hx hb d_F_shortJump_46 ?_
  refine lv_iload_n hx hb d_F_shortJump_47 rfl (lv_at hl 0 rfl) ?_
  refine lv_bipush (v := 6) hx hb d_F_shortJump_48 (by decide) ?_
  refine lv_iconst (v := 1) hx hb d_F_shortJump_50 (by decide) ?_
  refine lv_bipush (v := 7) hx hb d_F_shortJump_51 (by decide) ?_
  refine call_F_part S inC m_304 ⟨(Nat.le_of_ble_eq_true rfl), (Nat.le_of_ble_eq_true rfl)⟩ hl.1 (Nat.le_of_ble_eq_true rfl) d_F_shortJump_53 ⟨(Nat.le_of_ble_eq_true rfl), (Nat.le_of_ble_eq_true rfl)⟩ ?_
  refine lv_ior hx hb d_F_shortJump_56 ?_
  refine lv_iload_n hx hb d_F_shortJump_57 rfl (lv_at hl 0 rfl) ?_
  refine lv_iconst (v := 3) hx hb d_F_shortJump_58 (by decide) ?_
  refine lv_iconst (v := 3) hx hb d_F_shortJump_59 (by decide) ?_
  refine lv_iconst (v := 1) hx hb d_F_shortJump_60 (by decide) ?_
  refine call_F_part S inC m_304 ⟨(Nat.le_of_ble_eq_true rfl), (Nat.le_of_ble_eq_true rfl)⟩ hl.1 (Nat.le_of_ble_eq_true rfl) d_F_shortJump_61 ⟨(Nat.le_of_ble_eq_true rfl), (Nat.le_of_ble_eq_true rfl)⟩ ?_
  refine lv_ior hx hb d_F_shortJump_64 ?_
  refine lv_iload_n hx hb d_F_shortJump_65 rfl (lv_at hl 0 rfl) ?_
  refine lv_iconst (v := 2) hx hb d_F_shortJump_66 (by decide) ?_
  refine lv_iconst (v := 1) hx hb d_F_shortJump_67 (by decide) ?_
  refine lv_iconst (v := 5) hx hb d_F_shortJump_68 (by decide) ?_
  refine call_F_part S inC m_304 ⟨(Nat.le_of_ble_eq_true rfl), (Nat.le_of_ble_eq_true rfl)⟩ hl.1 (Nat.le_of_ble_eq_true rfl) d_F_shortJump_69 ⟨(Nat.le_of_ble_eq_true rfl), (Nat.le_of_ble_eq_true rfl)⟩ ?_
  refine lv_ior hx hb d_F_shortJump_72 ?_
  exact W.iret (v := (((((((f_F_signed x0 12 11) ||| (f_F_part x0 11 1 4)) ||| (f_F_part x0 9 2 8)) ||| (f_F_part x0 8 1 10)) ||| (f_F_part x0 7 1 6)) ||| (f_F_part x0 6 1 7)) ||| (f_F_part x0 3 3 1)) ||| (f_F_part x0 2 1 5)) hx hb hr (fun t ht hW => ⟨(((((((f_F_signed x0 12 11) ||| (f_F_part x0 11 1 4)) ||| (f_F_part x0 9 2 8)) ||| (f_F_part x0 8 1 10)) ||| (f_F_part x0 7 1 6)) ||| (f_F_part x0 6 1 7)) ||| (f_F_part x0 3 3 1)) ||| (f_F_part x0 2 1 5), rfl, rfl, ht⟩) (fun _ h => by cases h) d_F_shortJump_73
theorem call_F_shortJump {p : Program} {l : Launch} {e : Env} {R : Room} {s : State} {m : MethodId} {args : Array Value} {below : List Frame} {meth : Method} {c : Code} {H : Heap} {locs : List Loc} {cells slots : Nat} {Q : State → Prop} {cc : ByteArray} {pc nL idx : Nat} {ls : Array Slot} {rest : List Value} {Ts : List Cond} {own : String} {x0 : Int32} (S : CallFix p m c cc nL s args Ts own) (hTs : ∀ w ∈ WT, w ∈ Ts) (h1 : Cond.methodLink own idx y_F_shortJump ∈ WT) (hR : 1 + 1 ≤ R.frames ∧ 8 + (1 + 11) + 23 ≤ R.locals) (hsz : ls.size = nL) (hrm : (rest.map fun v => v.category).sum ≤ 8) (hdg : decode cc pc = .ok (.invokestatic idx, 3)) (hc : cells ≤ R.cells ∧ slots ≤ R.slots) (kk : W p l e R s m args below meth c H locs cells slots Q (F0 m (pc + 3) ls (.int (f_F_shortJump x0) :: rest))) : W p l e R s m args below meth c H locs cells slots Q (F0 m pc ls (.int x0 :: rest)) :=
  vp_callSi (va_Run.run (va_runS (As := [.int x0]) (rest := rest) S (c_F_shortJump l x0) (va_cwS 1 S.2.2.2.2 (gS hTs h1 m_555 m_57 m_556) rfl rfl rfl (by decide +kernel) hR) ⟨fun a U g mk q => q, fun U hU hW => ⟨rfl, trivial⟩⟩ rfl rfl hsz rfl (lv_room hrm) hdg hc)) (fun r e => by subst e; exact kk)

def f_F_shortBranch (x0 : Int32) : Int32 :=
  ((((f_F_signed x0 12 8) ||| (f_F_part x0 10 2 3)) ||| (f_F_part x0 5 2 6)) ||| (f_F_part x0 3 2 1)) ||| (f_F_part x0 2 1 5)
set_option maxRecDepth 100000 in
set_option maxHeartbeats 4000000 in
theorem c_F_shortBranch (l : Launch) (x0 : Int32) : Met l y_F_shortBranch (Cond.code y_F_shortBranch b_F_shortBranch 1 (some .int) :: WT) ({ frames := 1, cells := 0, slots := 0, locals := 23 }) (va_Pc [.int x0] (fun _ => True)) (vp_Si (fun r => r = f_F_shortBranch x0)) 0 0 no := by
  refine va_MetF (cc := b_F_shortBranch) (maxL := 1) (ret := (some .int)) (by decide +kernel) rfl ?_
  intro p e s m args below meth c s₁ B hml hv
  obtain ⟨rfl, -⟩ := hv
  have hx := B.exec
  have hb := B.bytes
  have hr := B.returns
  have hts := atoms_spec (ws := (Cond.code y_F_shortBranch b_F_shortBranch 1 (some .int) :: WT)) B.pre
  have hT : ∀ w ∈ WT, w.before _ s = true := fun w h => hts w (inC w h)
  have hown : s.vm.findClass R_F = some m.cls := findClass_of_methodNamed B.named
  have hlocks := B.notSynchronized
  have hS : va_S no s.heap s.heap [] := va_S.rf
  have S : CallFix p m c b_F_shortBranch 1 s _ (Cond.code y_F_shortBranch b_F_shortBranch 1 (some .int) :: WT) R_F := ⟨hx, hb, hml, hown, hts⟩
  have hl := lv_entry ([.int x0]) (n := 1) (Nat.le_of_ble_eq_true rfl)
  rw [lg_entry_eq]
  generalize (lg_sl ([.int x0]) ++ List.replicate (1 - (lg_sl ([.int x0])).length) Slot.unset).toArray = ls at hl ⊢
  have hl : lv_has ls 1 [(0, .int x0)] := hl
  refine lv_iload_n hx hb d_F_shortBranch_0 rfl (lv_at hl 0 rfl) ?_
  refine lv_bipush (v := 12) hx hb d_F_shortBranch_1 (by decide) ?_
  refine lv_bipush (v := 8) hx hb d_F_shortBranch_3 (by decide) ?_
  refine call_F_signed S inC m_332 ⟨(Nat.le_of_ble_eq_true rfl), (Nat.le_of_ble_eq_true rfl)⟩ hl.1 (Nat.le_of_ble_eq_true rfl) d_F_shortBranch_5 ⟨(Nat.le_of_ble_eq_true rfl), (Nat.le_of_ble_eq_true rfl)⟩ ?_
  refine lv_iload_n hx hb d_F_shortBranch_8 rfl (lv_at hl 0 rfl) ?_
  refine lv_bipush (v := 10) hx hb d_F_shortBranch_9 (by decide) ?_
  refine lv_iconst (v := 2) hx hb d_F_shortBranch_11 (by decide) ?_
  refine lv_iconst (v := 3) hx hb d_F_shortBranch_12 (by decide) ?_
  refine call_F_part S inC m_304 ⟨(Nat.le_of_ble_eq_true rfl), (Nat.le_of_ble_eq_true rfl)⟩ hl.1 (Nat.le_of_ble_eq_true rfl) d_F_shortBranch_13 ⟨(Nat.le_of_ble_eq_true rfl), (Nat.le_of_ble_eq_true rfl)⟩ ?_
  refine lv_ior hx hb d_F_shortBranch_16 ?_
  refine lv_iload_n hx hb d_F_shortBranch_17 rfl (lv_at hl 0 rfl) ?_
  refine lv_iconst (v := 5) hx hb d_F_shortBranch_18 (by decide) ?_
  refine lv_iconst (v := 2) hx hb d_F_shortBranch_19 (by decide) ?_
  refine lv_bipush (v := 6) hx hb d_F_shortBranch_20 (by decide) ?_
  refine call_F_part S inC m_304 ⟨(Nat.le_of_ble_eq_true rfl), (Nat.le_of_ble_eq_true rfl)⟩ hl.1 (Nat.le_of_ble_eq_true rfl) d_F_shortBranch_22 ⟨(Nat.le_of_ble_eq_true rfl), (Nat.le_of_ble_eq_true rfl)⟩ ?_
  refine lv_ior hx hb d_F_shortBranch_25 ?_
  refine lv_iload_n hx hb d_F_shortBranch_26 rfl (lv_at hl 0 rfl) ?_
  refine lv_iconst (v := 3) hx hb d_F_shortBranch_27 (by decide) ?_
  refine lv_iconst (v := 2) hx hb d_F_shortBranch_28 (by decide) ?_
  refine lv_iconst (v := 1) hx hb d_F_shortBranch_29 (by decide) ?_
  refine call_F_part S inC m_304 ⟨(Nat.le_of_ble_eq_true rfl), (Nat.le_of_ble_eq_true rfl)⟩ hl.1 (Nat.le_of_ble_eq_true rfl) d_F_shortBranch_30 ⟨(Nat.le_of_ble_eq_true rfl), (Nat.le_of_ble_eq_true rfl)⟩ ?_
  refine lv_ior hx hb d_F_shortBranch_33 ?_
  refine lv_iload_n hx hb d_F_shortBranch_34 rfl (lv_at hl 0 rfl) ?_
  refine lv_iconst (v := 2) hx hb d_F_shortBranch_35 (by decide) ?_
  refine lv_iconst (v := 1) hx hb d_F_shortBranch_36 (by decide) ?_
  refine lv_iconst (v := 5) hx hb d_F_shortBranch_37 (by decide) ?_
  refine call_F_part S inC m_304 ⟨(Nat.le_of_ble_eq_true rfl), (Nat.le_of_ble_eq_true rfl)⟩ hl.1 (Nat.le_of_ble_eq_true rfl) d_F_shortBranch_38 ⟨(Nat.le_of_ble_eq_true rfl), (Nat.le_of_ble_eq_true rfl)⟩ ?_
  refine lv_ior hx hb d_F_shortBranch_41 ?_
  exact W.iret (v := ((((f_F_signed x0 12 8) ||| (f_F_part x0 10 2 3)) ||| (f_F_part x0 5 2 6)) ||| (f_F_part x0 3 2 1)) ||| (f_F_part x0 2 1 5)) hx hb hr (fun t ht hW => ⟨((((f_F_signed x0 12 8) ||| (f_F_part x0 10 2 3)) ||| (f_F_part x0 5 2 6)) ||| (f_F_part x0 3 2 1)) ||| (f_F_part x0 2 1 5), rfl, rfl, ht⟩) (fun _ h => by cases h) d_F_shortBranch_42
theorem call_F_shortBranch {p : Program} {l : Launch} {e : Env} {R : Room} {s : State} {m : MethodId} {args : Array Value} {below : List Frame} {meth : Method} {c : Code} {H : Heap} {locs : List Loc} {cells slots : Nat} {Q : State → Prop} {cc : ByteArray} {pc nL idx : Nat} {ls : Array Slot} {rest : List Value} {Ts : List Cond} {own : String} {x0 : Int32} (S : CallFix p m c cc nL s args Ts own) (hTs : ∀ w ∈ WT, w ∈ Ts) (h1 : Cond.methodLink own idx y_F_shortBranch ∈ WT) (hR : 1 + 1 ≤ R.frames ∧ 8 + (1 + 11) + 23 ≤ R.locals) (hsz : ls.size = nL) (hrm : (rest.map fun v => v.category).sum ≤ 8) (hdg : decode cc pc = .ok (.invokestatic idx, 3)) (hc : cells ≤ R.cells ∧ slots ≤ R.slots) (kk : W p l e R s m args below meth c H locs cells slots Q (F0 m (pc + 3) ls (.int (f_F_shortBranch x0) :: rest))) : W p l e R s m args below meth c H locs cells slots Q (F0 m pc ls (.int x0 :: rest)) :=
  vp_callSi (va_Run.run (va_runS (As := [.int x0]) (rest := rest) S (c_F_shortBranch l x0) (va_cwS 1 S.2.2.2.2 (gS hTs h1 m_558 m_57 m_559) rfl rfl rfl (by decide +kernel) hR) ⟨fun a U g mk q => q, fun U hU hW => ⟨rfl, trivial⟩⟩ rfl rfl hsz rfl (lv_room hrm) hdg hc)) (fun r e => by subst e; exact kk)

def f_R_isLong (x0 : Int32) : Int32 :=
  if (x0 &&& 3) = 3 then
    1
  else
    0
set_option maxRecDepth 100000 in
set_option maxHeartbeats 4000000 in
theorem c_R_isLong (l : Launch) (x0 : Int32) : Met l y_R_isLong (Cond.code y_R_isLong b_R_isLong 1 (some .boolean) :: WT) ({ frames := 0, cells := 0, slots := 0, locals := 0 }) (va_Pc [.int x0] (fun _ => True)) (vp_Si (fun r => r = f_R_isLong x0)) 0 0 no := by
  refine va_MetF (cc := b_R_isLong) (maxL := 1) (ret := (some .boolean)) (by decide +kernel) rfl ?_
  intro p e s m args below meth c s₁ B hml hv
  obtain ⟨rfl, -⟩ := hv
  have hx := B.exec
  have hb := B.bytes
  have hr := B.returns
  have hts := atoms_spec (ws := (Cond.code y_R_isLong b_R_isLong 1 (some .boolean) :: WT)) B.pre
  have hT : ∀ w ∈ WT, w.before _ s = true := fun w h => hts w (inC w h)
  have hown : s.vm.findClass R_R = some m.cls := findClass_of_methodNamed B.named
  have hlocks := B.notSynchronized
  have hS : va_S no s.heap s.heap [] := va_S.rf
  have S : CallFix p m c b_R_isLong 1 s _ (Cond.code y_R_isLong b_R_isLong 1 (some .boolean) :: WT) R_R := ⟨hx, hb, hml, hown, hts⟩
  have hl := lv_entry ([.int x0]) (n := 1) (Nat.le_of_ble_eq_true rfl)
  rw [lg_entry_eq]
  generalize (lg_sl ([.int x0]) ++ List.replicate (1 - (lg_sl ([.int x0])).length) Slot.unset).toArray = ls at hl ⊢
  have hl : lv_has ls 1 [(0, .int x0)] := hl
  refine lv_iload_n hx hb d_R_isLong_0 rfl (lv_at hl 0 rfl) ?_
  refine lv_iconst (v := 3) hx hb d_R_isLong_1 (by decide) ?_
  refine lv_iand hx hb d_R_isLong_2 ?_
  refine lv_iconst (v := 3) hx hb d_R_isLong_3 (by decide) ?_
  refine lv_icmp_ne (tgt := 11) hx hb d_R_isLong_4 (by decide) (fun c_1 => ?_) (fun c_1 => ?_)
  · refine lv_iconst (v := 0) hx hb d_R_isLong_11 (by decide) ?_
    exact W.zret (v := 0) hx hb hr rfl (fun t ht hW => ⟨0, rfl, by rw [f_R_isLong, if_neg c_1], ht⟩) (fun _ h => by cases h) d_R_isLong_12
  · refine lv_iconst (v := 1) hx hb d_R_isLong_7 (by decide) ?_
    refine lv_goto (tgt := 12) hx hb d_R_isLong_8 (by decide) ?_
    exact W.zret (v := 1) hx hb hr rfl (fun t ht hW => ⟨1, rfl, by rw [f_R_isLong, if_pos c_1], ht⟩) (fun _ h => by cases h) d_R_isLong_12
theorem call_R_isLong {p : Program} {l : Launch} {e : Env} {R : Room} {s : State} {m : MethodId} {args : Array Value} {below : List Frame} {meth : Method} {c : Code} {H : Heap} {locs : List Loc} {cells slots : Nat} {Q : State → Prop} {cc : ByteArray} {pc nL idx : Nat} {ls : Array Slot} {rest : List Value} {Ts : List Cond} {own : String} {x0 : Int32} (S : CallFix p m c cc nL s args Ts own) (hTs : ∀ w ∈ WT, w ∈ Ts) (h1 : Cond.methodLink own idx y_R_isLong ∈ WT) (hR : 0 + 1 ≤ R.frames ∧ 8 + (1 + 11) + 0 ≤ R.locals) (hsz : ls.size = nL) (hrm : (rest.map fun v => v.category).sum ≤ 8) (hdg : decode cc pc = .ok (.invokestatic idx, 3)) (hc : cells ≤ R.cells ∧ slots ≤ R.slots) (kk : W p l e R s m args below meth c H locs cells slots Q (F0 m (pc + 3) ls (.int (f_R_isLong x0) :: rest))) : W p l e R s m args below meth c H locs cells slots Q (F0 m pc ls (.int x0 :: rest)) :=
  vp_callSi (va_Run.run (va_runS (As := [.int x0]) (rest := rest) S (c_R_isLong l x0) (va_cwS 1 S.2.2.2.2 (gS hTs h1 m_112 m_50 m_113) rfl rfl rfl (by decide +kernel) hR) ⟨fun a U g mk q => q, fun U hU hW => ⟨rfl, trivial⟩⟩ rfl rfl hsz rfl (lv_room hrm) hdg hc)) (fun r e => by subst e; exact kk)

def f_R_isAddress (x0 : Int32) : Int32 :=
  if x0 < 0 then
    0
  else
    if 256 ≤ x0 then
      0
    else
      1
set_option maxRecDepth 100000 in
set_option maxHeartbeats 4000000 in
theorem c_R_isAddress (l : Launch) (x0 : Int32) : Met l y_R_isAddress (Cond.code y_R_isAddress b_R_isAddress 1 (some .boolean) :: WT) ({ frames := 0, cells := 0, slots := 0, locals := 0 }) (va_Pc [.int x0] (fun _ => True)) (vp_Si (fun r => r = f_R_isAddress x0)) 0 0 no := by
  refine va_MetF (cc := b_R_isAddress) (maxL := 1) (ret := (some .boolean)) (by decide +kernel) rfl ?_
  intro p e s m args below meth c s₁ B hml hv
  obtain ⟨rfl, -⟩ := hv
  have hx := B.exec
  have hb := B.bytes
  have hr := B.returns
  have hts := atoms_spec (ws := (Cond.code y_R_isAddress b_R_isAddress 1 (some .boolean) :: WT)) B.pre
  have hT : ∀ w ∈ WT, w.before _ s = true := fun w h => hts w (inC w h)
  have hown : s.vm.findClass R_R = some m.cls := findClass_of_methodNamed B.named
  have hlocks := B.notSynchronized
  have hS : va_S no s.heap s.heap [] := va_S.rf
  have S : CallFix p m c b_R_isAddress 1 s _ (Cond.code y_R_isAddress b_R_isAddress 1 (some .boolean) :: WT) R_R := ⟨hx, hb, hml, hown, hts⟩
  have hl := lv_entry ([.int x0]) (n := 1) (Nat.le_of_ble_eq_true rfl)
  rw [lg_entry_eq]
  generalize (lg_sl ([.int x0]) ++ List.replicate (1 - (lg_sl ([.int x0])).length) Slot.unset).toArray = ls at hl ⊢
  have hl : lv_has ls 1 [(0, .int x0)] := hl
  refine lv_iload_n hx hb d_R_isAddress_0 rfl (lv_at hl 0 rfl) ?_
  refine lv_if_lt (tgt := 15) hx hb d_R_isAddress_1 (by decide) (fun c_1 => ?_) (fun c_1 => ?_)
  · refine lv_iconst (v := 0) hx hb d_R_isAddress_15 (by decide) ?_
    exact W.zret (v := 0) hx hb hr rfl (fun t ht hW => ⟨0, rfl, by rw [f_R_isAddress, if_pos c_1], ht⟩) (fun _ h => by cases h) d_R_isAddress_16
  · refine lv_iload_n hx hb d_R_isAddress_4 rfl (lv_at hl 0 rfl) ?_
    refine lv_sipush (v := 256) hx hb d_R_isAddress_5 (by decide) ?_
    refine lv_icmp_ge (tgt := 15) hx hb d_R_isAddress_8 (by decide) (fun c_2 => ?_) (fun c_2 => ?_)
    · refine lv_iconst (v := 0) hx hb d_R_isAddress_15 (by decide) ?_
      exact W.zret (v := 0) hx hb hr rfl (fun t ht hW => ⟨0, rfl, by rw [f_R_isAddress, if_neg c_1, if_pos c_2], ht⟩) (fun _ h => by cases h) d_R_isAddress_16
    · refine lv_iconst (v := 1) hx hb d_R_isAddress_11 (by decide) ?_
      refine lv_goto (tgt := 16) hx hb d_R_isAddress_12 (by decide) ?_
      exact W.zret (v := 1) hx hb hr rfl (fun t ht hW => ⟨1, rfl, by rw [f_R_isAddress, if_neg c_1, if_neg c_2], ht⟩) (fun _ h => by cases h) d_R_isAddress_16
theorem call_R_isAddress {p : Program} {l : Launch} {e : Env} {R : Room} {s : State} {m : MethodId} {args : Array Value} {below : List Frame} {meth : Method} {c : Code} {H : Heap} {locs : List Loc} {cells slots : Nat} {Q : State → Prop} {cc : ByteArray} {pc nL idx : Nat} {ls : Array Slot} {rest : List Value} {Ts : List Cond} {own : String} {x0 : Int32} (S : CallFix p m c cc nL s args Ts own) (hTs : ∀ w ∈ WT, w ∈ Ts) (h1 : Cond.methodLink own idx y_R_isAddress ∈ WT) (hR : 0 + 1 ≤ R.frames ∧ 8 + (1 + 11) + 0 ≤ R.locals) (hsz : ls.size = nL) (hrm : (rest.map fun v => v.category).sum ≤ 8) (hdg : decode cc pc = .ok (.invokestatic idx, 3)) (hc : cells ≤ R.cells ∧ slots ≤ R.slots) (kk : W p l e R s m args below meth c H locs cells slots Q (F0 m (pc + 3) ls (.int (f_R_isAddress x0) :: rest))) : W p l e R s m args below meth c H locs cells slots Q (F0 m pc ls (.int x0 :: rest)) :=
  vp_callSi (va_Run.run (va_runS (As := [.int x0]) (rest := rest) S (c_R_isAddress l x0) (va_cwS 1 S.2.2.2.2 (gS hTs h1 m_672 m_50 m_673) rfl rfl rfl (by decide +kernel) hR) ⟨fun a U g mk q => q, fun U hU hW => ⟨rfl, trivial⟩⟩ rfl rfl hsz rfl (lv_room hrm) hdg hc)) (fun r e => by subst e; exact kk)

def f_S_firstRegister (x0 : Int32) : Int32 :=
  (x0 >>> ((7 : Int32) &&& 31)) &&& 31
set_option maxRecDepth 100000 in
set_option maxHeartbeats 4000000 in
theorem c_S_firstRegister (l : Launch) (x0 : Int32) : Met l y_S_firstRegister (Cond.code y_S_firstRegister b_S_firstRegister 1 (some .int) :: WT) ({ frames := 0, cells := 0, slots := 0, locals := 0 }) (va_Pc [.int x0] (fun _ => True)) (vp_Si (fun r => r = f_S_firstRegister x0)) 0 0 no := by
  refine va_MetF (cc := b_S_firstRegister) (maxL := 1) (ret := (some .int)) (by decide +kernel) rfl ?_
  intro p e s m args below meth c s₁ B hml hv
  obtain ⟨rfl, -⟩ := hv
  have hx := B.exec
  have hb := B.bytes
  have hr := B.returns
  have hts := atoms_spec (ws := (Cond.code y_S_firstRegister b_S_firstRegister 1 (some .int) :: WT)) B.pre
  have hT : ∀ w ∈ WT, w.before _ s = true := fun w h => hts w (inC w h)
  have hown : s.vm.findClass R_S = some m.cls := findClass_of_methodNamed B.named
  have hlocks := B.notSynchronized
  have hS : va_S no s.heap s.heap [] := va_S.rf
  have S : CallFix p m c b_S_firstRegister 1 s _ (Cond.code y_S_firstRegister b_S_firstRegister 1 (some .int) :: WT) R_S := ⟨hx, hb, hml, hown, hts⟩
  have hl := lv_entry ([.int x0]) (n := 1) (Nat.le_of_ble_eq_true rfl)
  rw [lg_entry_eq]
  generalize (lg_sl ([.int x0]) ++ List.replicate (1 - (lg_sl ([.int x0])).length) Slot.unset).toArray = ls at hl ⊢
  have hl : lv_has ls 1 [(0, .int x0)] := hl
  refine lv_iload_n hx hb d_S_firstRegister_0 rfl (lv_at hl 0 rfl) ?_
  refine lv_bipush (v := 7) hx hb d_S_firstRegister_1 (by decide) ?_
  refine lv_ishr hx hb d_S_firstRegister_3 ?_
  refine lv_bipush (v := 31) hx hb d_S_firstRegister_4 (by decide) ?_
  refine lv_iand hx hb d_S_firstRegister_6 ?_
  exact W.iret (v := (x0 >>> ((7 : Int32) &&& 31)) &&& 31) hx hb hr (fun t ht hW => ⟨(x0 >>> ((7 : Int32) &&& 31)) &&& 31, rfl, rfl, ht⟩) (fun _ h => by cases h) d_S_firstRegister_7
theorem call_S_firstRegister {p : Program} {l : Launch} {e : Env} {R : Room} {s : State} {m : MethodId} {args : Array Value} {below : List Frame} {meth : Method} {c : Code} {H : Heap} {locs : List Loc} {cells slots : Nat} {Q : State → Prop} {cc : ByteArray} {pc nL idx : Nat} {ls : Array Slot} {rest : List Value} {Ts : List Cond} {own : String} {x0 : Int32} (S : CallFix p m c cc nL s args Ts own) (hTs : ∀ w ∈ WT, w ∈ Ts) (h1 : Cond.methodLink own idx y_S_firstRegister ∈ WT) (hR : 0 + 1 ≤ R.frames ∧ 8 + (1 + 11) + 0 ≤ R.locals) (hsz : ls.size = nL) (hrm : (rest.map fun v => v.category).sum ≤ 8) (hdg : decode cc pc = .ok (.invokestatic idx, 3)) (hc : cells ≤ R.cells ∧ slots ≤ R.slots) (kk : W p l e R s m args below meth c H locs cells slots Q (F0 m (pc + 3) ls (.int (f_S_firstRegister x0) :: rest))) : W p l e R s m args below meth c H locs cells slots Q (F0 m pc ls (.int x0 :: rest)) :=
  vp_callSi (va_Run.run (va_runS (As := [.int x0]) (rest := rest) S (c_S_firstRegister l x0) (va_cwS 1 S.2.2.2.2 (gS hTs h1 m_336 m_56 m_337) rfl rfl rfl (by decide +kernel) hR) ⟨fun a U g mk q => q, fun U hU hW => ⟨rfl, trivial⟩⟩ rfl rfl hsz rfl (lv_room hrm) hdg hc)) (fun r e => by subst e; exact kk)

def f_S_secondRegister (x0 : Int32) : Int32 :=
  (x0 >>> ((2 : Int32) &&& 31)) &&& 31
set_option maxRecDepth 100000 in
set_option maxHeartbeats 4000000 in
theorem c_S_secondRegister (l : Launch) (x0 : Int32) : Met l y_S_secondRegister (Cond.code y_S_secondRegister b_S_secondRegister 1 (some .int) :: WT) ({ frames := 0, cells := 0, slots := 0, locals := 0 }) (va_Pc [.int x0] (fun _ => True)) (vp_Si (fun r => r = f_S_secondRegister x0)) 0 0 no := by
  refine va_MetF (cc := b_S_secondRegister) (maxL := 1) (ret := (some .int)) (by decide +kernel) rfl ?_
  intro p e s m args below meth c s₁ B hml hv
  obtain ⟨rfl, -⟩ := hv
  have hx := B.exec
  have hb := B.bytes
  have hr := B.returns
  have hts := atoms_spec (ws := (Cond.code y_S_secondRegister b_S_secondRegister 1 (some .int) :: WT)) B.pre
  have hT : ∀ w ∈ WT, w.before _ s = true := fun w h => hts w (inC w h)
  have hown : s.vm.findClass R_S = some m.cls := findClass_of_methodNamed B.named
  have hlocks := B.notSynchronized
  have hS : va_S no s.heap s.heap [] := va_S.rf
  have S : CallFix p m c b_S_secondRegister 1 s _ (Cond.code y_S_secondRegister b_S_secondRegister 1 (some .int) :: WT) R_S := ⟨hx, hb, hml, hown, hts⟩
  have hl := lv_entry ([.int x0]) (n := 1) (Nat.le_of_ble_eq_true rfl)
  rw [lg_entry_eq]
  generalize (lg_sl ([.int x0]) ++ List.replicate (1 - (lg_sl ([.int x0])).length) Slot.unset).toArray = ls at hl ⊢
  have hl : lv_has ls 1 [(0, .int x0)] := hl
  refine lv_iload_n hx hb d_S_secondRegister_0 rfl (lv_at hl 0 rfl) ?_
  refine lv_iconst (v := 2) hx hb d_S_secondRegister_1 (by decide) ?_
  refine lv_ishr hx hb d_S_secondRegister_2 ?_
  refine lv_bipush (v := 31) hx hb d_S_secondRegister_3 (by decide) ?_
  refine lv_iand hx hb d_S_secondRegister_5 ?_
  exact W.iret (v := (x0 >>> ((2 : Int32) &&& 31)) &&& 31) hx hb hr (fun t ht hW => ⟨(x0 >>> ((2 : Int32) &&& 31)) &&& 31, rfl, rfl, ht⟩) (fun _ h => by cases h) d_S_secondRegister_6
theorem call_S_secondRegister {p : Program} {l : Launch} {e : Env} {R : Room} {s : State} {m : MethodId} {args : Array Value} {below : List Frame} {meth : Method} {c : Code} {H : Heap} {locs : List Loc} {cells slots : Nat} {Q : State → Prop} {cc : ByteArray} {pc nL idx : Nat} {ls : Array Slot} {rest : List Value} {Ts : List Cond} {own : String} {x0 : Int32} (S : CallFix p m c cc nL s args Ts own) (hTs : ∀ w ∈ WT, w ∈ Ts) (h1 : Cond.methodLink own idx y_S_secondRegister ∈ WT) (hR : 0 + 1 ≤ R.frames ∧ 8 + (1 + 11) + 0 ≤ R.locals) (hsz : ls.size = nL) (hrm : (rest.map fun v => v.category).sum ≤ 8) (hdg : decode cc pc = .ok (.invokestatic idx, 3)) (hc : cells ≤ R.cells ∧ slots ≤ R.slots) (kk : W p l e R s m args below meth c H locs cells slots Q (F0 m (pc + 3) ls (.int (f_S_secondRegister x0) :: rest))) : W p l e R s m args below meth c H locs cells slots Q (F0 m pc ls (.int x0 :: rest)) :=
  vp_callSi (va_Run.run (va_runS (As := [.int x0]) (rest := rest) S (c_S_secondRegister l x0) (va_cwS 1 S.2.2.2.2 (gS hTs h1 m_382 m_56 m_383) rfl rfl rfl (by decide +kernel) hR) ⟨fun a U g mk q => q, fun U hU hW => ⟨rfl, trivial⟩⟩ rfl rfl hsz rfl (lv_room hrm) hdg hc)) (fun r e => by subst e; exact kk)

def f_S_hasBit12 (x0 : Int32) : Int32 :=
  if ((x0 >>> ((12 : Int32) &&& 31)) &&& 1) = 1 then
    1
  else
    0
set_option maxRecDepth 100000 in
set_option maxHeartbeats 4000000 in
theorem c_S_hasBit12 (l : Launch) (x0 : Int32) : Met l y_S_hasBit12 (Cond.code y_S_hasBit12 b_S_hasBit12 1 (some .boolean) :: WT) ({ frames := 0, cells := 0, slots := 0, locals := 0 }) (va_Pc [.int x0] (fun _ => True)) (vp_Si (fun r => r = f_S_hasBit12 x0)) 0 0 no := by
  refine va_MetF (cc := b_S_hasBit12) (maxL := 1) (ret := (some .boolean)) (by decide +kernel) rfl ?_
  intro p e s m args below meth c s₁ B hml hv
  obtain ⟨rfl, -⟩ := hv
  have hx := B.exec
  have hb := B.bytes
  have hr := B.returns
  have hts := atoms_spec (ws := (Cond.code y_S_hasBit12 b_S_hasBit12 1 (some .boolean) :: WT)) B.pre
  have hT : ∀ w ∈ WT, w.before _ s = true := fun w h => hts w (inC w h)
  have hown : s.vm.findClass R_S = some m.cls := findClass_of_methodNamed B.named
  have hlocks := B.notSynchronized
  have hS : va_S no s.heap s.heap [] := va_S.rf
  have S : CallFix p m c b_S_hasBit12 1 s _ (Cond.code y_S_hasBit12 b_S_hasBit12 1 (some .boolean) :: WT) R_S := ⟨hx, hb, hml, hown, hts⟩
  have hl := lv_entry ([.int x0]) (n := 1) (Nat.le_of_ble_eq_true rfl)
  rw [lg_entry_eq]
  generalize (lg_sl ([.int x0]) ++ List.replicate (1 - (lg_sl ([.int x0])).length) Slot.unset).toArray = ls at hl ⊢
  have hl : lv_has ls 1 [(0, .int x0)] := hl
  refine lv_iload_n hx hb d_S_hasBit12_0 rfl (lv_at hl 0 rfl) ?_
  refine lv_bipush (v := 12) hx hb d_S_hasBit12_1 (by decide) ?_
  refine lv_ishr hx hb d_S_hasBit12_3 ?_
  refine lv_iconst (v := 1) hx hb d_S_hasBit12_4 (by decide) ?_
  refine lv_iand hx hb d_S_hasBit12_5 ?_
  refine lv_iconst (v := 1) hx hb d_S_hasBit12_6 (by decide) ?_
  refine lv_icmp_ne (tgt := 14) hx hb d_S_hasBit12_7 (by decide) (fun c_1 => ?_) (fun c_1 => ?_)
  · refine lv_iconst (v := 0) hx hb d_S_hasBit12_14 (by decide) ?_
    exact W.zret (v := 0) hx hb hr rfl (fun t ht hW => ⟨0, rfl, by rw [f_S_hasBit12, if_neg c_1], ht⟩) (fun _ h => by cases h) d_S_hasBit12_15
  · refine lv_iconst (v := 1) hx hb d_S_hasBit12_10 (by decide) ?_
    refine lv_goto (tgt := 15) hx hb d_S_hasBit12_11 (by decide) ?_
    exact W.zret (v := 1) hx hb hr rfl (fun t ht hW => ⟨1, rfl, by rw [f_S_hasBit12, if_pos c_1], ht⟩) (fun _ h => by cases h) d_S_hasBit12_15
theorem call_S_hasBit12 {p : Program} {l : Launch} {e : Env} {R : Room} {s : State} {m : MethodId} {args : Array Value} {below : List Frame} {meth : Method} {c : Code} {H : Heap} {locs : List Loc} {cells slots : Nat} {Q : State → Prop} {cc : ByteArray} {pc nL idx : Nat} {ls : Array Slot} {rest : List Value} {Ts : List Cond} {own : String} {x0 : Int32} (S : CallFix p m c cc nL s args Ts own) (hTs : ∀ w ∈ WT, w ∈ Ts) (h1 : Cond.methodLink own idx y_S_hasBit12 ∈ WT) (hR : 0 + 1 ≤ R.frames ∧ 8 + (1 + 11) + 0 ≤ R.locals) (hsz : ls.size = nL) (hrm : (rest.map fun v => v.category).sum ≤ 8) (hdg : decode cc pc = .ok (.invokestatic idx, 3)) (hc : cells ≤ R.cells ∧ slots ≤ R.slots) (kk : W p l e R s m args below meth c H locs cells slots Q (F0 m (pc + 3) ls (.int (f_S_hasBit12 x0) :: rest))) : W p l e R s m args below meth c H locs cells slots Q (F0 m pc ls (.int x0 :: rest)) :=
  vp_callSi (va_Run.run (va_runS (As := [.int x0]) (rest := rest) S (c_S_hasBit12 l x0) (va_cwS 1 S.2.2.2.2 (gS hTs h1 m_348 m_56 m_349) rfl rfl rfl (by decide +kernel) hR) ⟨fun a U g mk q => q, fun U hU hW => ⟨rfl, trivial⟩⟩ rfl rfl hsz rfl (lv_room hrm) hdg hc)) (fun r e => by subst e; exact kk)
