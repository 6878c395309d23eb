def f_S_ofQ0 (x0 x1 : Int32) : Nat :=
  if x0 = 0 then
    if (f_F_times4 x1) = 0 then
      1
    else
      68
  else
    if x0 = 2 then
      69
    else
      if x0 = 6 then
        70
      else
        1
set_option maxRecDepth 100000 in
set_option maxHeartbeats 4000000 in
theorem c_S_ofQ0 (l : Launch) (adE adK adV : Nat → Nat) (x0 x1 : Int32) : Met l y_S_ofQ0 (Cond.code y_S_ofQ0 b_S_ofQ0 2 (some (.object "InstructionReader$Kind")) :: WT) ({ frames := 2, cells := 0, slots := 0, locals := 43 }) (va_Pc [.int x0, .int x1] (fun U => cx adE adK adV no U U.heap)) (va_Se adE (fun r => r = some (f_S_ofQ0 x0 x1))) 0 0 no := by
  refine va_MetF (cc := b_S_ofQ0) (maxL := 2) (ret := (some (.object "InstructionReader$Kind"))) (by decide +kernel) rfl ?_
  intro p e s m args below meth c s₁ B hml hv
  obtain ⟨rfl, hC⟩ := hv
  have hx := B.exec
  have hb := B.bytes
  have hr := B.returns
  have hts := atoms_spec (ws := (Cond.code y_S_ofQ0 b_S_ofQ0 2 (some (.object "InstructionReader$Kind")) :: WT)) B.pre
  have hT : ∀ w ∈ WT, w.before _ s = true := fun w h => hts w (inC w h)
  have hown : s.vm.findClass R_S = some m.cls := findClass_of_methodNamed B.named
  have hlocks := B.notSynchronized
  have hS : va_S no s.heap s.heap [] := va_S.rf
  have S : CallFix p m c b_S_ofQ0 2 s _ (Cond.code y_S_ofQ0 b_S_ofQ0 2 (some (.object "InstructionReader$Kind")) :: WT) R_S := ⟨hx, hb, hml, hown, hts⟩
  have hl := lv_entry ([.int x0, .int x1]) (n := 2) (Nat.le_of_ble_eq_true rfl)
  rw [lg_entry_eq]
  generalize (lg_sl ([.int x0, .int x1]) ++ List.replicate (2 - (lg_sl ([.int x0, .int x1])).length) Slot.unset).toArray = ls at hl ⊢
  have hl : lv_has ls 2 [(0, .int x0), (1, .int x1)] := hl
  refine lv_iload_n hx hb d_S_ofQ0_0 rfl (lv_at hl 0 rfl) ?_
  by_cases c_1 : x0 = 0
  · refine lv_lookup (off := 35) (tgt := 36) hx hb d_S_ofQ0_1 (by decide) (by rw [c_1]; decide) (by decide) ?_
    refine lv_iload_n hx hb d_S_ofQ0_36 rfl (lv_at hl 1 rfl) ?_
    refine call_F_times4 S inC m_301 ⟨(Nat.le_of_ble_eq_true rfl), (Nat.le_of_ble_eq_true rfl)⟩ hl.1 (Nat.le_of_ble_eq_true rfl) d_S_ofQ0_37 ⟨(Nat.le_of_ble_eq_true rfl), (Nat.le_of_ble_eq_true rfl)⟩ ?_
    refine lv_if_eq (tgt := 49) hx hb d_S_ofQ0_40 (by decide) (fun c_2 => ?_) (fun c_2 => ?_)
    · refine va_gets (v := .ref (adE 1)) hx hb (z_HALF hC) hS hown (hT _ m_309) (fun _ h => h) d_S_ofQ0_49 ?_
      exact W.aret (v := .ref (adE 1)) hx hb hr (Or.inl ⟨_, rfl⟩) (Or.inr ⟨_, rfl⟩) (fun t ht hW => ⟨some 1, rfl, congrArg some (by rw [f_S_ofQ0, if_pos c_1, if_pos c_2]), ht⟩) (fun _ h => by cases h) d_S_ofQ0_52
    · refine va_gets (v := .ref (adE 68)) hx hb (z_C_ADDI4SPN hC) hS hown (hT _ m_307) (fun _ h => h) d_S_ofQ0_43 ?_
      refine lv_goto (tgt := 52) hx hb d_S_ofQ0_46 (by decide) ?_
      exact W.aret (v := .ref (adE 68)) hx hb hr (Or.inl ⟨_, rfl⟩) (Or.inr ⟨_, rfl⟩) (fun t ht hW => ⟨some 68, rfl, congrArg some (by rw [f_S_ofQ0, if_pos c_1, if_neg c_2]), ht⟩) (fun _ h => by cases h) d_S_ofQ0_52
  · by_cases c_3 : x0 = 2
    · refine lv_lookup (off := 52) (tgt := 53) hx hb d_S_ofQ0_1 (by decide) (by rw [c_3]; decide) (by decide) ?_
      refine va_gets (v := .ref (adE 69)) hx hb (z_C_LW hC) hS hown (hT _ m_311) (fun _ h => h) d_S_ofQ0_53 ?_
      exact W.aret (v := .ref (adE 69)) hx hb hr (Or.inl ⟨_, rfl⟩) (Or.inr ⟨_, rfl⟩) (fun t ht hW => ⟨some 69, rfl, congrArg some (by rw [f_S_ofQ0, if_neg c_1, if_pos c_3]), ht⟩) (fun _ h => by cases h) d_S_ofQ0_56
    · by_cases c_4 : x0 = 6
      · refine lv_lookup (off := 56) (tgt := 57) hx hb d_S_ofQ0_1 (by decide) (by rw [c_4]; decide) (by decide) ?_
        refine va_gets (v := .ref (adE 70)) hx hb (z_C_SW hC) hS hown (hT _ m_313) (fun _ h => h) d_S_ofQ0_57 ?_
        exact W.aret (v := .ref (adE 70)) hx hb hr (Or.inl ⟨_, rfl⟩) (Or.inr ⟨_, rfl⟩) (fun t ht hW => ⟨some 70, rfl, congrArg some (by rw [f_S_ofQ0, if_neg c_1, if_neg c_3, if_pos c_4]), ht⟩) (fun _ h => by cases h) d_S_ofQ0_60
      · refine lv_lookup (off := 60) (tgt := 61) hx hb d_S_ofQ0_1 (by decide) (by show Op.lookupswitch.offset [(0, 35), (2, 52), (6, 56)] 60 _ = 60; rw [lv_osw c_1 (by decide), lv_osw c_3 (by decide), lv_osw c_4 (by decide)]; rfl) (by decide) ?_
        refine va_gets (v := .ref (adE 1)) hx hb (z_HALF hC) hS hown (hT _ m_309) (fun _ h => h) d_S_ofQ0_61 ?_
        exact W.aret (v := .ref (adE 1)) hx hb hr (Or.inl ⟨_, rfl⟩) (Or.inr ⟨_, rfl⟩) (fun t ht hW => ⟨some 1, rfl, congrArg some (by rw [f_S_ofQ0, if_neg c_1, if_neg c_3, if_neg c_4]), ht⟩) (fun _ h => by cases h) d_S_ofQ0_64
theorem call_S_ofQ0 {p : Program} {l : Launch} {e : Env} {R : Room} {s : State} {m : MethodId} {args : Array Value} {below : List Frame} {meth : Method} {c : Code} {H : Heap} {locs : List Loc} {cells slots : Nat} {Q : State → Prop} {cc : ByteArray} {pc nL idx : Nat} {ls : Array Slot} {rest : List Value} {Ts : List Cond} {own : String} {adE adK adV : Nat → Nat} {A0 : Nat → Prop} {x0 x1 : Int32} (S : CallFix p m c cc nL s args Ts own) (hTs : ∀ w ∈ WT, w ∈ Ts) (h1 : Cond.methodLink own idx y_S_ofQ0 ∈ WT) (hR : 2 + 1 ≤ R.frames ∧ 8 + (2 + 11) + 43 ≤ R.locals) (hsz : ls.size = nL) (hrm : (rest.map fun v => v.category).sum ≤ 8) (hdg : decode cc pc = .ok (.invokestatic idx, 3)) (hc : cells ≤ R.cells ∧ slots ≤ R.slots) (hC : cx adE adK adV A0 s s.heap) (hS : va_S A0 s.heap H locs) (kk : W p l e R s m args below meth c H locs cells slots Q (F0 m (pc + 3) ls (.ref (adE (f_S_ofQ0 x0 x1)) :: rest))) : W p l e R s m args below meth c H locs cells slots Q (F0 m pc ls (.int x1 :: .int x0 :: rest)) :=
  va_cse (va_Run.run (va_runS (As := [.int x0, .int x1]) (rest := rest) S (c_S_ofQ0 l adE adK adV x0 x1) (va_cwS 2 S.2.2.2.2 (gS hTs h1 m_299 m_56 m_300) rfl rfl rfl (by decide +kernel) hR) ⟨fun a U g mk q => ⟨q.1, q.2.blind⟩, fun U hU hW => ⟨rfl, hC.at hS no_in hU hW⟩⟩ rfl rfl hsz rfl (lv_room hrm) hdg hc)) (fun r e => by subst e; exact kk)

def f_S_upperOrStack (x0 : Int32) : Nat :=
  if (f_F_six x0) = 0 then
    1
  else
    if (f_S_firstRegister x0) = 2 then
      76
    else
      77
set_option maxRecDepth 100000 in
set_option maxHeartbeats 4000000 in
theorem c_S_upperOrStack (l : Launch) (adE adK adV : Nat → Nat) (x0 : Int32) : Met l y_S_upperOrStack (Cond.code y_S_upperOrStack b_S_upperOrStack 1 (some (.object "InstructionReader$Kind")) :: WT) ({ frames := 2, cells := 0, slots := 0, locals := 43 }) (va_Pc [.int x0] (fun U => cx adE adK adV no U U.heap)) (va_Se adE (fun r => r = some (f_S_upperOrStack x0))) 0 0 no := by
  refine va_MetF (cc := b_S_upperOrStack) (maxL := 1) (ret := (some (.object "InstructionReader$Kind"))) (by decide +kernel) rfl ?_
  intro p e s m args below meth c s₁ B hml hv
  obtain ⟨rfl, hC⟩ := hv
  have hx := B.exec
  have hb := B.bytes
  have hr := B.returns
  have hts := atoms_spec (ws := (Cond.code y_S_upperOrStack b_S_upperOrStack 1 (some (.object "InstructionReader$Kind")) :: WT)) B.pre
  have hT : ∀ w ∈ WT, w.before _ s = true := fun w h => hts w (inC w h)
  have hown : s.vm.findClass R_S = some m.cls := findClass_of_methodNamed B.named
  have hlocks := B.notSynchronized
  have hS : va_S no s.heap s.heap [] := va_S.rf
  have S : CallFix p m c b_S_upperOrStack 1 s _ (Cond.code y_S_upperOrStack b_S_upperOrStack 1 (some (.object "InstructionReader$Kind")) :: WT) R_S := ⟨hx, hb, hml, hown, hts⟩
  have hl := lv_entry ([.int x0]) (n := 1) (Nat.le_of_ble_eq_true rfl)
  rw [lg_entry_eq]
  generalize (lg_sl ([.int x0]) ++ List.replicate (1 - (lg_sl ([.int x0])).length) Slot.unset).toArray = ls at hl ⊢
  have hl : lv_has ls 1 [(0, .int x0)] := hl
  refine lv_iload_n hx hb d_S_upperOrStack_0 rfl (lv_at hl 0 rfl) ?_
  refine call_F_six S inC m_329 ⟨(Nat.le_of_ble_eq_true rfl), (Nat.le_of_ble_eq_true rfl)⟩ hl.1 (Nat.le_of_ble_eq_true rfl) d_S_upperOrStack_1 ⟨(Nat.le_of_ble_eq_true rfl), (Nat.le_of_ble_eq_true rfl)⟩ ?_
  refine lv_if_ne (tgt := 11) hx hb d_S_upperOrStack_4 (by decide) (fun c_1 => ?_) (fun c_1 => ?_)
  · refine lv_iload_n hx hb d_S_upperOrStack_11 rfl (lv_at hl 0 rfl) ?_
    refine call_S_firstRegister S inC m_335 ⟨(Nat.le_of_ble_eq_true rfl), (Nat.le_of_ble_eq_true rfl)⟩ hl.1 (Nat.le_of_ble_eq_true rfl) d_S_upperOrStack_12 ⟨(Nat.le_of_ble_eq_true rfl), (Nat.le_of_ble_eq_true rfl)⟩ ?_
    refine lv_iconst (v := 2) hx hb d_S_upperOrStack_15 (by decide) ?_
    refine lv_icmp_ne (tgt := 25) hx hb d_S_upperOrStack_16 (by decide) (fun c_2 => ?_) (fun c_2 => ?_)
    · refine va_gets (v := .ref (adE 77)) hx hb (z_C_LUI hC) hS hown (hT _ m_340) (fun _ h => h) d_S_upperOrStack_25 ?_
      exact W.aret (v := .ref (adE 77)) hx hb hr (Or.inl ⟨_, rfl⟩) (Or.inr ⟨_, rfl⟩) (fun t ht hW => ⟨some 77, rfl, congrArg some (by rw [f_S_upperOrStack, if_neg c_1, if_neg c_2]), ht⟩) (fun _ h => by cases h) d_S_upperOrStack_28
    · refine va_gets (v := .ref (adE 76)) hx hb (z_C_ADDI16SP hC) hS hown (hT _ m_338) (fun _ h => h) d_S_upperOrStack_19 ?_
      refine lv_goto (tgt := 28) hx hb d_S_upperOrStack_22 (by decide) ?_
      exact W.aret (v := .ref (adE 76)) hx hb hr (Or.inl ⟨_, rfl⟩) (Or.inr ⟨_, rfl⟩) (fun t ht hW => ⟨some 76, rfl, congrArg some (by rw [f_S_upperOrStack, if_neg c_1, if_pos c_2]), ht⟩) (fun _ h => by cases h) d_S_upperOrStack_28
  · refine va_gets (v := .ref (adE 1)) hx hb (z_HALF hC) hS hown (hT _ m_309) (fun _ h => h) d_S_upperOrStack_7 ?_
    exact W.aret (v := .ref (adE 1)) hx hb hr (Or.inl ⟨_, rfl⟩) (Or.inr ⟨_, rfl⟩) (fun t ht hW => ⟨some 1, rfl, congrArg some (by rw [f_S_upperOrStack, if_pos c_1]), ht⟩) (fun _ h => by cases h) d_S_upperOrStack_10
theorem call_S_upperOrStack {p : Program} {l : Launch} {e : Env} {R : Room} {s : State} {m : MethodId} {args : Array Value} {below : List Frame} {meth : Method} {c : Code} {H : Heap} {locs : List Loc} {cells slots : Nat} {Q : State → Prop} {cc : ByteArray} {pc nL idx : Nat} {ls : Array Slot} {rest : List Value} {Ts : List Cond} {own : String} {adE adK adV : Nat → Nat} {A0 : Nat → Prop} {x0 : Int32} (S : CallFix p m c cc nL s args Ts own) (hTs : ∀ w ∈ WT, w ∈ Ts) (h1 : Cond.methodLink own idx y_S_upperOrStack ∈ WT) (hR : 2 + 1 ≤ R.frames ∧ 8 + (1 + 11) + 43 ≤ R.locals) (hsz : ls.size = nL) (hrm : (rest.map fun v => v.category).sum ≤ 8) (hdg : decode cc pc = .ok (.invokestatic idx, 3)) (hc : cells ≤ R.cells ∧ slots ≤ R.slots) (hC : cx adE adK adV A0 s s.heap) (hS : va_S A0 s.heap H locs) (kk : W p l e R s m args below meth c H locs cells slots Q (F0 m (pc + 3) ls (.ref (adE (f_S_upperOrStack x0)) :: rest))) : W p l e R s m args below meth c H locs cells slots Q (F0 m pc ls (.int x0 :: rest)) :=
  va_cse (va_Run.run (va_runS (As := [.int x0]) (rest := rest) S (c_S_upperOrStack l adE adK adV x0) (va_cwS 1 S.2.2.2.2 (gS hTs h1 m_327 m_56 m_328) rfl rfl rfl (by decide +kernel) hR) ⟨fun a U g mk q => ⟨q.1, q.2.blind⟩, fun U hU hW => ⟨rfl, hC.at hS no_in hU hW⟩⟩ rfl rfl hsz rfl (lv_room hrm) hdg hc)) (fun r e => by subst e; exact kk)

def f_S_ofLesserRegisters (x0 : Int32) : Nat :=
  if x0 = 0 then
    81
  else
    if x0 = 1 then
      82
    else
      if x0 = 2 then
        83
      else
        84
set_option maxRecDepth 100000 in
set_option maxHeartbeats 4000000 in
theorem c_S_ofLesserRegisters (l : Launch) (adE adK adV : Nat → Nat) (x0 : Int32) : Met l y_S_ofLesserRegisters (Cond.code y_S_ofLesserRegisters b_S_ofLesserRegisters 1 (some (.object "InstructionReader$Kind")) :: WT) ({ frames := 0, cells := 0, slots := 0, locals := 0 }) (va_Pc [.int x0] (fun U => cx adE adK adV no U U.heap)) (va_Se adE (fun r => r = some (f_S_ofLesserRegisters x0))) 0 0 no := by
  refine va_MetF (cc := b_S_ofLesserRegisters) (maxL := 1) (ret := (some (.object "InstructionReader$Kind"))) (by decide +kernel) rfl ?_
  intro p e s m args below meth c s₁ B hml hv
  obtain ⟨rfl, hC⟩ := hv
  have hx := B.exec
  have hb := B.bytes
  have hr := B.returns
  have hts := atoms_spec (ws := (Cond.code y_S_ofLesserRegisters b_S_ofLesserRegisters 1 (some (.object "InstructionReader$Kind")) :: WT)) B.pre
  have hT : ∀ w ∈ WT, w.before _ s = true := fun w h => hts w (inC w h)
  have hown : s.vm.findClass R_S = some m.cls := findClass_of_methodNamed B.named
  have hlocks := B.notSynchronized
  have hS : va_S no s.heap s.heap [] := va_S.rf
  have S : CallFix p m c b_S_ofLesserRegisters 1 s _ (Cond.code y_S_ofLesserRegisters b_S_ofLesserRegisters 1 (some (.object "InstructionReader$Kind")) :: WT) R_S := ⟨hx, hb, hml, hown, hts⟩
  have hl := lv_entry ([.int x0]) (n := 1) (Nat.le_of_ble_eq_true rfl)
  rw [lg_entry_eq]
  generalize (lg_sl ([.int x0]) ++ List.replicate (1 - (lg_sl ([.int x0])).length) Slot.unset).toArray = ls at hl ⊢
  have hl : lv_has ls 1 [(0, .int x0)] := hl
  refine lv_iload_n hx hb d_S_ofLesserRegisters_0 rfl (lv_at hl 0 rfl) ?_
  by_cases c_1 : x0 = 0
  · refine lv_tableIn (off := 27) (tgt := 28) hx hb d_S_ofLesserRegisters_1 (by rw [c_1]; decide) (by rw [c_1]; decide) (by rw [c_1]; decide) (by decide) ?_
    refine va_gets (v := .ref (adE 81)) hx hb (z_C_SUB hC) hS hown (hT _ m_357) (fun _ h => h) d_S_ofLesserRegisters_28 ?_
    exact W.aret (v := .ref (adE 81)) hx hb hr (Or.inl ⟨_, rfl⟩) (Or.inr ⟨_, rfl⟩) (fun t ht hW => ⟨some 81, rfl, congrArg some (by rw [f_S_ofLesserRegisters, if_pos c_1]), ht⟩) (fun _ h => by cases h) d_S_ofLesserRegisters_31
  · by_cases c_2 : x0 = 1
    · refine lv_tableIn (off := 31) (tgt := 32) hx hb d_S_ofLesserRegisters_1 (by rw [c_2]; decide) (by rw [c_2]; decide) (by rw [c_2]; decide) (by decide) ?_
      refine va_gets (v := .ref (adE 82)) hx hb (z_C_XOR hC) hS hown (hT _ m_359) (fun _ h => h) d_S_ofLesserRegisters_32 ?_
      exact W.aret (v := .ref (adE 82)) hx hb hr (Or.inl ⟨_, rfl⟩) (Or.inr ⟨_, rfl⟩) (fun t ht hW => ⟨some 82, rfl, congrArg some (by rw [f_S_ofLesserRegisters, if_neg c_1, if_pos c_2]), ht⟩) (fun _ h => by cases h) d_S_ofLesserRegisters_35
    · by_cases c_3 : x0 = 2
      · refine lv_tableIn (off := 35) (tgt := 36) hx hb d_S_ofLesserRegisters_1 (by rw [c_3]; decide) (by rw [c_3]; decide) (by rw [c_3]; decide) (by decide) ?_
        refine va_gets (v := .ref (adE 83)) hx hb (z_C_OR hC) hS hown (hT _ m_361) (fun _ h => h) d_S_ofLesserRegisters_36 ?_
        exact W.aret (v := .ref (adE 83)) hx hb hr (Or.inl ⟨_, rfl⟩) (Or.inr ⟨_, rfl⟩) (fun t ht hW => ⟨some 83, rfl, congrArg some (by rw [f_S_ofLesserRegisters, if_neg c_1, if_neg c_2, if_pos c_3]), ht⟩) (fun _ h => by cases h) d_S_ofLesserRegisters_39
      · refine lv_tableOut (tgt := 40) hx hb d_S_ofLesserRegisters_1 (by have n0 := lv_neT c_1 (show (0 : Int32).toInt = 0 by decide); have n1 := lv_neT c_2 (show (1 : Int32).toInt = 1 by decide); have n2 := lv_neT c_3 (show (2 : Int32).toInt = 2 by decide); omega) (by decide) ?_
        refine va_gets (v := .ref (adE 84)) hx hb (z_C_AND hC) hS hown (hT _ m_363) (fun _ h => h) d_S_ofLesserRegisters_40 ?_
        exact W.aret (v := .ref (adE 84)) hx hb hr (Or.inl ⟨_, rfl⟩) (Or.inr ⟨_, rfl⟩) (fun t ht hW => ⟨some 84, rfl, congrArg some (by rw [f_S_ofLesserRegisters, if_neg c_1, if_neg c_2, if_neg c_3]), ht⟩) (fun _ h => by cases h) d_S_ofLesserRegisters_43
theorem call_S_ofLesserRegisters {p : Program} {l : Launch} {e : Env} {R : Room} {s : State} {m : MethodId} {args : Array Value} {below : List Frame} {meth : Method} {c : Code} {H : Heap} {locs : List Loc} {cells slots : Nat} {Q : State → Prop} {cc : ByteArray} {pc nL idx : Nat} {ls : Array Slot} {rest : List Value} {Ts : List Cond} {own : String} {adE adK adV : Nat → Nat} {A0 : Nat → Prop} {x0 : Int32} (S : CallFix p m c cc nL s args Ts own) (hTs : ∀ w ∈ WT, w ∈ Ts) (h1 : Cond.methodLink own idx y_S_ofLesserRegisters ∈ WT) (hR : 0 + 1 ≤ R.frames ∧ 8 + (1 + 11) + 0 ≤ R.locals) (hsz : ls.size = nL) (hrm : (rest.map fun v => v.category).sum ≤ 8) (hdg : decode cc pc = .ok (.invokestatic idx, 3)) (hc : cells ≤ R.cells ∧ slots ≤ R.slots) (hC : cx adE adK adV A0 s s.heap) (hS : va_S A0 s.heap H locs) (kk : W p l e R s m args below meth c H locs cells slots Q (F0 m (pc + 3) ls (.ref (adE (f_S_ofLesserRegisters x0)) :: rest))) : W p l e R s m args below meth c H locs cells slots Q (F0 m pc ls (.int x0 :: rest)) :=
  va_cse (va_Run.run (va_runS (As := [.int x0]) (rest := rest) S (c_S_ofLesserRegisters l adE adK adV x0) (va_cwS 1 S.2.2.2.2 (gS hTs h1 m_355 m_56 m_356) rfl rfl rfl (by decide +kernel) hR) ⟨fun a U g mk q => ⟨q.1, q.2.blind⟩, fun U hU hW => ⟨rfl, hC.at hS no_in hU hW⟩⟩ rfl rfl hsz rfl (lv_room hrm) hdg hc)) (fun r e => by subst e; exact kk)

def f_S_onLesserRegister (x0 : Int32) : Nat :=
  if ((x0 >>> ((10 : Int32) &&& 31)) &&& 3) = 2 then
    80
  else
    if (f_S_hasBit12 x0) = 0 then
      if ((x0 >>> ((10 : Int32) &&& 31)) &&& 3) = 0 then
        78
      else
        if ((x0 >>> ((10 : Int32) &&& 31)) &&& 3) = 1 then
          79
        else
          f_S_ofLesserRegisters ((x0 >>> ((5 : Int32) &&& 31)) &&& 3)
    else
      1
set_option maxRecDepth 100000 in
set_option maxHeartbeats 4000000 in
theorem c_S_onLesserRegister (l : Launch) (adE adK adV : Nat → Nat) (x0 : Int32) : Met l y_S_onLesserRegister (Cond.code y_S_onLesserRegister b_S_onLesserRegister 2 (some (.object "InstructionReader$Kind")) :: WT) ({ frames := 1, cells := 0, slots := 0, locals := 20 }) (va_Pc [.int x0] (fun U => cx adE adK adV no U U.heap)) (va_Se adE (fun r => r = some (f_S_onLesserRegister x0))) 0 0 no := by
  refine va_MetF (cc := b_S_onLesserRegister) (maxL := 2) (ret := (some (.object "InstructionReader$Kind"))) (by decide +kernel) rfl ?_
  intro p e s m args below meth c s₁ B hml hv
  obtain ⟨rfl, hC⟩ := hv
  have hx := B.exec
  have hb := B.bytes
  have hr := B.returns
  have hts := atoms_spec (ws := (Cond.code y_S_onLesserRegister b_S_onLesserRegister 2 (some (.object "InstructionReader$Kind")) :: WT)) B.pre
  have hT : ∀ w ∈ WT, w.before _ s = true := fun w h => hts w (inC w h)
  have hown : s.vm.findClass R_S = some m.cls := findClass_of_methodNamed B.named
  have hlocks := B.notSynchronized
  have hS : va_S no s.heap s.heap [] := va_S.rf
  have S : CallFix p m c b_S_onLesserRegister 2 s _ (Cond.code y_S_onLesserRegister b_S_onLesserRegister 2 (some (.object "InstructionReader$Kind")) :: WT) R_S := ⟨hx, hb, hml, hown, hts⟩
  have hl := lv_entry ([.int x0]) (n := 2) (Nat.le_of_ble_eq_true rfl)
  rw [lg_entry_eq]
  generalize (lg_sl ([.int x0]) ++ List.replicate (2 - (lg_sl ([.int x0])).length) Slot.unset).toArray = ls at hl ⊢
  have hl : lv_has ls 2 [(0, .int x0)] := hl
  refine lv_iload_n hx hb d_S_onLesserRegister_0 rfl (lv_at hl 0 rfl) ?_
  refine lv_bipush (v := 10) hx hb d_S_onLesserRegister_1 (by decide) ?_
  refine lv_ishr hx hb d_S_onLesserRegister_3 ?_
  refine lv_iconst (v := 3) hx hb d_S_onLesserRegister_4 (by decide) ?_
  refine lv_iand hx hb d_S_onLesserRegister_5 ?_
  refine lv_istore_n (lv' := [(1, .int ((x0 >>> ((10 : Int32) &&& 31)) &&& 3)), (0, .int x0)]) hx hb d_S_onLesserRegister_6 rfl hl (by decide) rfl (fun ls hl => ?_)
  refine lv_iload_n hx hb d_S_onLesserRegister_7 rfl (lv_at hl 0 rfl) ?_
  refine lv_iconst (v := 2) hx hb d_S_onLesserRegister_8 (by decide) ?_
  refine lv_icmp_ne (tgt := 16) hx hb d_S_onLesserRegister_9 (by decide) (fun c_1 => ?_) (fun c_1 => ?_)
  · refine lv_iload_n hx hb d_S_onLesserRegister_16 rfl (lv_at hl 1 rfl) ?_
    refine call_S_hasBit12 S inC m_347 ⟨(Nat.le_of_ble_eq_true rfl), (Nat.le_of_ble_eq_true rfl)⟩ hl.1 (Nat.le_of_ble_eq_true rfl) d_S_onLesserRegister_17 ⟨(Nat.le_of_ble_eq_true rfl), (Nat.le_of_ble_eq_true rfl)⟩ ?_
    refine lv_if_eq (tgt := 27) hx hb d_S_onLesserRegister_20 (by decide) (fun c_2 => ?_) (fun c_2 => ?_)
    · refine lv_iload_n hx hb d_S_onLesserRegister_27 rfl (lv_at hl 0 rfl) ?_
      by_cases c_3 : ((x0 >>> ((10 : Int32) &&& 31)) &&& 3) = 0
      · refine lv_lookup (off := 28) (tgt := 56) hx hb d_S_onLesserRegister_28 (by decide) (by rw [c_3]; decide) (by decide) ?_
        refine va_gets (v := .ref (adE 78)) hx hb (z_C_SRLI hC) hS hown (hT _ m_350) (fun _ h => h) d_S_onLesserRegister_56 ?_
        exact W.aret (v := .ref (adE 78)) hx hb hr (Or.inl ⟨_, rfl⟩) (Or.inr ⟨_, rfl⟩) (fun t ht hW => ⟨some 78, rfl, congrArg some (by rw [f_S_onLesserRegister, if_neg c_1, if_pos c_2, if_pos c_3]), ht⟩) (fun _ h => by cases h) d_S_onLesserRegister_59
      · by_cases c_4 : ((x0 >>> ((10 : Int32) &&& 31)) &&& 3) = 1
        · refine lv_lookup (off := 32) (tgt := 60) hx hb d_S_onLesserRegister_28 (by decide) (by rw [c_4]; decide) (by decide) ?_
          refine va_gets (v := .ref (adE 79)) hx hb (z_C_SRAI hC) hS hown (hT _ m_352) (fun _ h => h) d_S_onLesserRegister_60 ?_
          exact W.aret (v := .ref (adE 79)) hx hb hr (Or.inl ⟨_, rfl⟩) (Or.inr ⟨_, rfl⟩) (fun t ht hW => ⟨some 79, rfl, congrArg some (by rw [f_S_onLesserRegister, if_neg c_1, if_pos c_2, if_neg c_3, if_pos c_4]), ht⟩) (fun _ h => by cases h) d_S_onLesserRegister_63
        · refine lv_lookup (off := 36) (tgt := 64) hx hb d_S_onLesserRegister_28 (by decide) (by show Op.lookupswitch.offset [(0, 28), (1, 32)] 36 _ = 36; rw [lv_osw c_3 (by decide), lv_osw c_4 (by decide)]; rfl) (by decide) ?_
          refine lv_iload_n hx hb d_S_onLesserRegister_64 rfl (lv_at hl 1 rfl) ?_
          refine lv_iconst (v := 5) hx hb d_S_onLesserRegister_65 (by decide) ?_
          refine lv_ishr hx hb d_S_onLesserRegister_66 ?_
          refine lv_iconst (v := 3) hx hb d_S_onLesserRegister_67 (by decide) ?_
          refine lv_iand hx hb d_S_onLesserRegister_68 ?_
          refine call_S_ofLesserRegisters S inC m_354 ⟨(Nat.le_of_ble_eq_true rfl), (Nat.le_of_ble_eq_true rfl)⟩ hl.1 (Nat.le_of_ble_eq_true rfl) d_S_onLesserRegister_69 ⟨(Nat.le_of_ble_eq_true rfl), (Nat.le_of_ble_eq_true rfl)⟩ hC hS ?_
          exact W.aret (v := .ref (adE (f_S_ofLesserRegisters ((x0 >>> ((5 : Int32) &&& 31)) &&& 3)))) hx hb hr (Or.inl ⟨_, rfl⟩) (Or.inr ⟨_, rfl⟩) (fun t ht hW => ⟨some (f_S_ofLesserRegisters ((x0 >>> ((5 : Int32) &&& 31)) &&& 3)), rfl, congrArg some (by rw [f_S_onLesserRegister, if_neg c_1, if_pos c_2, if_neg c_3, if_neg c_4]), ht⟩) (fun _ h => by cases h) d_S_onLesserRegister_72
    · refine va_gets (v := .ref (adE 1)) hx hb (z_HALF hC) hS hown (hT _ m_309) (fun _ h => h) d_S_onLesserRegister_23 ?_
      exact W.aret (v := .ref (adE 1)) hx hb hr (Or.inl ⟨_, rfl⟩) (Or.inr ⟨_, rfl⟩) (fun t ht hW => ⟨some 1, rfl, congrArg some (by rw [f_S_onLesserRegister, if_neg c_1, if_neg c_2]), ht⟩) (fun _ h => by cases h) d_S_onLesserRegister_26
  · refine va_gets (v := .ref (adE 80)) hx hb (z_C_ANDI hC) hS hown (hT _ m_345) (fun _ h => h) d_S_onLesserRegister_12 ?_
    exact W.aret (v := .ref (adE 80)) hx hb hr (Or.inl ⟨_, rfl⟩) (Or.inr ⟨_, rfl⟩) (fun t ht hW => ⟨some 80, rfl, congrArg some (by rw [f_S_onLesserRegister, if_pos c_1]), ht⟩) (fun _ h => by cases h) d_S_onLesserRegister_15
theorem call_S_onLesserRegister {p : Program} {l : Launch} {e : Env} {R : Room} {s : State} {m : MethodId} {args : Array Value} {below : List Frame} {meth : Method} {c : Code} {H : Heap} {locs : List Loc} {cells slots : Nat} {Q : State → Prop} {cc : ByteArray} {pc nL idx : Nat} {ls : Array Slot} {rest : List Value} {Ts : List Cond} {own : String} {adE adK adV : Nat → Nat} {A0 : Nat → Prop} {x0 : Int32} (S : CallFix p m c cc nL s args Ts own) (hTs : ∀ w ∈ WT, w ∈ Ts) (h1 : Cond.methodLink own idx y_S_onLesserRegister ∈ WT) (hR : 1 + 1 ≤ R.frames ∧ 8 + (2 + 11) + 20 ≤ R.locals) (hsz : ls.size = nL) (hrm : (rest.map fun v => v.category).sum ≤ 8) (hdg : decode cc pc = .ok (.invokestatic idx, 3)) (hc : cells ≤ R.cells ∧ slots ≤ R.slots) (hC : cx adE adK adV A0 s s.heap) (hS : va_S A0 s.heap H locs) (kk : W p l e R s m args below meth c H locs cells slots Q (F0 m (pc + 3) ls (.ref (adE (f_S_onLesserRegister x0)) :: rest))) : W p l e R s m args below meth c H locs cells slots Q (F0 m pc ls (.int x0 :: rest)) :=
  va_cse (va_Run.run (va_runS (As := [.int x0]) (rest := rest) S (c_S_onLesserRegister l adE adK adV x0) (va_cwS 1 S.2.2.2.2 (gS hTs h1 m_343 m_56 m_344) rfl rfl rfl (by decide +kernel) hR) ⟨fun a U g mk q => ⟨q.1, q.2.blind⟩, fun U hU hW => ⟨rfl, hC.at hS no_in hU hW⟩⟩ rfl rfl hsz rfl (lv_room hrm) hdg hc)) (fun r e => by subst e; exact kk)

def f_S_ofQ1 (x0 x1 : Int32) : Nat :=
  if x0 = 0 then
    if x1 = 1 then
      71
    else
      72
  else
    if x0 = 1 then
      73
    else
      if x0 = 2 then
        75
      else
        if x0 = 3 then
          f_S_upperOrStack x1
        else
          if x0 = 4 then
            f_S_onLesserRegister x1
          else
            if x0 = 5 then
              74
            else
              if x0 = 6 then
                85
              else
                86
set_option maxRecDepth 100000 in
set_option maxHeartbeats 4000000 in
theorem c_S_ofQ1 (l : Launch) (adE adK adV : Nat → Nat) (x0 x1 : Int32) : Met l y_S_ofQ1 (Cond.code y_S_ofQ1 b_S_ofQ1 2 (some (.object "InstructionReader$Kind")) :: WT) ({ frames := 3, cells := 0, slots := 0, locals := 63 }) (va_Pc [.int x0, .int x1] (fun U => cx adE adK adV no U U.heap)) (va_Se adE (fun r => r = some (f_S_ofQ1 x0 x1))) 0 0 no := by
  refine va_MetF (cc := b_S_ofQ1) (maxL := 2) (ret := (some (.object "InstructionReader$Kind"))) (by decide +kernel) rfl ?_
  intro p e s m args below meth c s₁ B hml hv
  obtain ⟨rfl, hC⟩ := hv
  have hx := B.exec
  have hb := B.bytes
  have hr := B.returns
  have hts := atoms_spec (ws := (Cond.code y_S_ofQ1 b_S_ofQ1 2 (some (.object "InstructionReader$Kind")) :: WT)) B.pre
  have hT : ∀ w ∈ WT, w.before _ s = true := fun w h => hts w (inC w h)
  have hown : s.vm.findClass R_S = some m.cls := findClass_of_methodNamed B.named
  have hlocks := B.notSynchronized
  have hS : va_S no s.heap s.heap [] := va_S.rf
  have S : CallFix p m c b_S_ofQ1 2 s _ (Cond.code y_S_ofQ1 b_S_ofQ1 2 (some (.object "InstructionReader$Kind")) :: WT) R_S := ⟨hx, hb, hml, hown, hts⟩
  have hl := lv_entry ([.int x0, .int x1]) (n := 2) (Nat.le_of_ble_eq_true rfl)
  rw [lg_entry_eq]
  generalize (lg_sl ([.int x0, .int x1]) ++ List.replicate (2 - (lg_sl ([.int x0, .int x1])).length) Slot.unset).toArray = ls at hl ⊢
  have hl : lv_has ls 2 [(0, .int x0), (1, .int x1)] := hl
  refine lv_iload_n hx hb d_S_ofQ1_0 rfl (lv_at hl 0 rfl) ?_
  by_cases c_1 : x0 = 0
  · refine lv_tableIn (off := 43) (tgt := 44) hx hb d_S_ofQ1_1 (by rw [c_1]; decide) (by rw [c_1]; decide) (by rw [c_1]; decide) (by decide) ?_
    refine lv_iload_n hx hb d_S_ofQ1_44 rfl (lv_at hl 1 rfl) ?_
    refine lv_iconst (v := 1) hx hb d_S_ofQ1_45 (by decide) ?_
    refine lv_icmp_ne (tgt := 55) hx hb d_S_ofQ1_46 (by decide) (fun c_2 => ?_) (fun c_2 => ?_)
    · refine va_gets (v := .ref (adE 72)) hx hb (z_C_ADDI hC) hS hown (hT _ m_320) (fun _ h => h) d_S_ofQ1_55 ?_
      exact W.aret (v := .ref (adE 72)) hx hb hr (Or.inl ⟨_, rfl⟩) (Or.inr ⟨_, rfl⟩) (fun t ht hW => ⟨some 72, rfl, congrArg some (by rw [f_S_ofQ1, if_pos c_1, if_neg c_2]), ht⟩) (fun _ h => by cases h) d_S_ofQ1_58
    · refine va_gets (v := .ref (adE 71)) hx hb (z_C_NOP hC) hS hown (hT _ m_318) (fun _ h => h) d_S_ofQ1_49 ?_
      refine lv_goto (tgt := 58) hx hb d_S_ofQ1_52 (by decide) ?_
      exact W.aret (v := .ref (adE 71)) hx hb hr (Or.inl ⟨_, rfl⟩) (Or.inr ⟨_, rfl⟩) (fun t ht hW => ⟨some 71, rfl, congrArg some (by rw [f_S_ofQ1, if_pos c_1, if_pos c_2]), ht⟩) (fun _ h => by cases h) d_S_ofQ1_58
  · by_cases c_3 : x0 = 1
    · refine lv_tableIn (off := 58) (tgt := 59) hx hb d_S_ofQ1_1 (by rw [c_3]; decide) (by rw [c_3]; decide) (by rw [c_3]; decide) (by decide) ?_
      refine va_gets (v := .ref (adE 73)) hx hb (z_C_JAL hC) hS hown (hT _ m_322) (fun _ h => h) d_S_ofQ1_59 ?_
      exact W.aret (v := .ref (adE 73)) hx hb hr (Or.inl ⟨_, rfl⟩) (Or.inr ⟨_, rfl⟩) (fun t ht hW => ⟨some 73, rfl, congrArg some (by rw [f_S_ofQ1, if_neg c_1, if_pos c_3]), ht⟩) (fun _ h => by cases h) d_S_ofQ1_62
    · by_cases c_4 : x0 = 2
      · refine lv_tableIn (off := 62) (tgt := 63) hx hb d_S_ofQ1_1 (by rw [c_4]; decide) (by rw [c_4]; decide) (by rw [c_4]; decide) (by decide) ?_
        refine va_gets (v := .ref (adE 75)) hx hb (z_C_LI hC) hS hown (hT _ m_324) (fun _ h => h) d_S_ofQ1_63 ?_
        exact W.aret (v := .ref (adE 75)) hx hb hr (Or.inl ⟨_, rfl⟩) (Or.inr ⟨_, rfl⟩) (fun t ht hW => ⟨some 75, rfl, congrArg some (by rw [f_S_ofQ1, if_neg c_1, if_neg c_3, if_pos c_4]), ht⟩) (fun _ h => by cases h) d_S_ofQ1_66
      · by_cases c_5 : x0 = 3
        · refine lv_tableIn (off := 66) (tgt := 67) hx hb d_S_ofQ1_1 (by rw [c_5]; decide) (by rw [c_5]; decide) (by rw [c_5]; decide) (by decide) ?_
          refine lv_iload_n hx hb d_S_ofQ1_67 rfl (lv_at hl 1 rfl) ?_
          refine call_S_upperOrStack S inC m_326 ⟨(Nat.le_of_ble_eq_true rfl), (Nat.le_of_ble_eq_true rfl)⟩ hl.1 (Nat.le_of_ble_eq_true rfl) d_S_ofQ1_68 ⟨(Nat.le_of_ble_eq_true rfl), (Nat.le_of_ble_eq_true rfl)⟩ hC hS ?_
          exact W.aret (v := .ref (adE (f_S_upperOrStack x1))) hx hb hr (Or.inl ⟨_, rfl⟩) (Or.inr ⟨_, rfl⟩) (fun t ht hW => ⟨some (f_S_upperOrStack x1), rfl, congrArg some (by rw [f_S_ofQ1, if_neg c_1, if_neg c_3, if_neg c_4, if_pos c_5]), ht⟩) (fun _ h => by cases h) d_S_ofQ1_71
        · by_cases c_6 : x0 = 4
          · refine lv_tableIn (off := 71) (tgt := 72) hx hb d_S_ofQ1_1 (by rw [c_6]; decide) (by rw [c_6]; decide) (by rw [c_6]; decide) (by decide) ?_
            refine lv_iload_n hx hb d_S_ofQ1_72 rfl (lv_at hl 1 rfl) ?_
            refine call_S_onLesserRegister S inC m_342 ⟨(Nat.le_of_ble_eq_true rfl), (Nat.le_of_ble_eq_true rfl)⟩ hl.1 (Nat.le_of_ble_eq_true rfl) d_S_ofQ1_73 ⟨(Nat.le_of_ble_eq_true rfl), (Nat.le_of_ble_eq_true rfl)⟩ hC hS ?_
            exact W.aret (v := .ref (adE (f_S_onLesserRegister x1))) hx hb hr (Or.inl ⟨_, rfl⟩) (Or.inr ⟨_, rfl⟩) (fun t ht hW => ⟨some (f_S_onLesserRegister x1), rfl, congrArg some (by rw [f_S_ofQ1, if_neg c_1, if_neg c_3, if_neg c_4, if_neg c_5, if_pos c_6]), ht⟩) (fun _ h => by cases h) d_S_ofQ1_76
          · by_cases c_7 : x0 = 5
            · refine lv_tableIn (off := 76) (tgt := 77) hx hb d_S_ofQ1_1 (by rw [c_7]; decide) (by rw [c_7]; decide) (by rw [c_7]; decide) (by decide) ?_
              refine va_gets (v := .ref (adE 74)) hx hb (z_C_J hC) hS hown (hT _ m_365) (fun _ h => h) d_S_ofQ1_77 ?_
              exact W.aret (v := .ref (adE 74)) hx hb hr (Or.inl ⟨_, rfl⟩) (Or.inr ⟨_, rfl⟩) (fun t ht hW => ⟨some 74, rfl, congrArg some (by rw [f_S_ofQ1, if_neg c_1, if_neg c_3, if_neg c_4, if_neg c_5, if_neg c_6, if_pos c_7]), ht⟩) (fun _ h => by cases h) d_S_ofQ1_80
            · by_cases c_8 : x0 = 6
              · refine lv_tableIn (off := 80) (tgt := 81) hx hb d_S_ofQ1_1 (by rw [c_8]; decide) (by rw [c_8]; decide) (by rw [c_8]; decide) (by decide) ?_
                refine va_gets (v := .ref (adE 85)) hx hb (z_C_BEQZ hC) hS hown (hT _ m_367) (fun _ h => h) d_S_ofQ1_81 ?_
                exact W.aret (v := .ref (adE 85)) hx hb hr (Or.inl ⟨_, rfl⟩) (Or.inr ⟨_, rfl⟩) (fun t ht hW => ⟨some 85, rfl, congrArg some (by rw [f_S_ofQ1, if_neg c_1, if_neg c_3, if_neg c_4, if_neg c_5, if_neg c_6, if_neg c_7, if_pos c_8]), ht⟩) (fun _ h => by cases h) d_S_ofQ1_84
              · refine lv_tableOut (tgt := 85) hx hb d_S_ofQ1_1 (by have n0 := lv_neT c_1 (show (0 : Int32).toInt = 0 by decide); have n1 := lv_neT c_3 (show (1 : Int32).toInt = 1 by decide); have n2 := lv_neT c_4 (show (2 : Int32).toInt = 2 by decide); have n3 := lv_neT c_5 (show (3 : Int32).toInt = 3 by decide); have n4 := lv_neT c_6 (show (4 : Int32).toInt = 4 by decide); have n5 := lv_neT c_7 (show (5 : Int32).toInt = 5 by decide); have n6 := lv_neT c_8 (show (6 : Int32).toInt = 6 by decide); omega) (by decide) ?_
                refine va_gets (v := .ref (adE 86)) hx hb (z_C_BNEZ hC) hS hown (hT _ m_369) (fun _ h => h) d_S_ofQ1_85 ?_
                exact W.aret (v := .ref (adE 86)) hx hb hr (Or.inl ⟨_, rfl⟩) (Or.inr ⟨_, rfl⟩) (fun t ht hW => ⟨some 86, rfl, congrArg some (by rw [f_S_ofQ1, if_neg c_1, if_neg c_3, if_neg c_4, if_neg c_5, if_neg c_6, if_neg c_7, if_neg c_8]), ht⟩) (fun _ h => by cases h) d_S_ofQ1_88
theorem call_S_ofQ1 {p : Program} {l : Launch} {e : Env} {R : Room} {s : State} {m : MethodId} {args : Array Value} {below : List Frame} {meth : Method} {c : Code} {H : Heap} {locs : List Loc} {cells slots : Nat} {Q : State → Prop} {cc : ByteArray} {pc nL idx : Nat} {ls : Array Slot} {rest : List Value} {Ts : List Cond} {own : String} {adE adK adV : Nat → Nat} {A0 : Nat → Prop} {x0 x1 : Int32} (S : CallFix p m c cc nL s args Ts own) (hTs : ∀ w ∈ WT, w ∈ Ts) (h1 : Cond.methodLink own idx y_S_ofQ1 ∈ WT) (hR : 3 + 1 ≤ R.frames ∧ 8 + (2 + 11) + 63 ≤ R.locals) (hsz : ls.size = nL) (hrm : (rest.map fun v => v.category).sum ≤ 8) (hdg : decode cc pc = .ok (.invokestatic idx, 3)) (hc : cells ≤ R.cells ∧ slots ≤ R.slots) (hC : cx adE adK adV A0 s s.heap) (hS : va_S A0 s.heap H locs) (kk : W p l e R s m args below meth c H locs cells slots Q (F0 m (pc + 3) ls (.ref (adE (f_S_ofQ1 x0 x1)) :: rest))) : W p l e R s m args below meth c H locs cells slots Q (F0 m pc ls (.int x1 :: .int x0 :: rest)) :=
  va_cse (va_Run.run (va_runS (As := [.int x0, .int x1]) (rest := rest) S (c_S_ofQ1 l adE adK adV x0 x1) (va_cwS 2 S.2.2.2.2 (gS hTs h1 m_316 m_56 m_317) rfl rfl rfl (by decide +kernel) hR) ⟨fun a U g mk q => ⟨q.1, q.2.blind⟩, fun U hU hW => ⟨rfl, hC.at hS no_in hU hW⟩⟩ rfl rfl hsz rfl (lv_room hrm) hdg hc)) (fun r e => by subst e; exact kk)

def f_S_moveOrJump (x0 : Int32) : Nat :=
  if (f_S_secondRegister x0) = 0 then
    if (f_S_firstRegister x0) = 0 then
      1
    else
      89
  else
    90
set_option maxRecDepth 100000 in
set_option maxHeartbeats 4000000 in
theorem c_S_moveOrJump (l : Launch) (adE adK adV : Nat → Nat) (x0 : Int32) : Met l y_S_moveOrJump (Cond.code y_S_moveOrJump b_S_moveOrJump 1 (some (.object "InstructionReader$Kind")) :: WT) ({ frames := 1, cells := 0, slots := 0, locals := 20 }) (va_Pc [.int x0] (fun U => cx adE adK adV no U U.heap)) (va_Se adE (fun r => r = some (f_S_moveOrJump x0))) 0 0 no := by
  refine va_MetF (cc := b_S_moveOrJump) (maxL := 1) (ret := (some (.object "InstructionReader$Kind"))) (by decide +kernel) rfl ?_
  intro p e s m args below meth c s₁ B hml hv
  obtain ⟨rfl, hC⟩ := hv
  have hx := B.exec
  have hb := B.bytes
  have hr := B.returns
  have hts := atoms_spec (ws := (Cond.code y_S_moveOrJump b_S_moveOrJump 1 (some (.object "InstructionReader$Kind")) :: WT)) B.pre
  have hT : ∀ w ∈ WT, w.before _ s = true := fun w h => hts w (inC w h)
  have hown : s.vm.findClass R_S = some m.cls := findClass_of_methodNamed B.named
  have hlocks := B.notSynchronized
  have hS : va_S no s.heap s.heap [] := va_S.rf
  have S : CallFix p m c b_S_moveOrJump 1 s _ (Cond.code y_S_moveOrJump b_S_moveOrJump 1 (some (.object "InstructionReader$Kind")) :: WT) R_S := ⟨hx, hb, hml, hown, hts⟩
  have hl := lv_entry ([.int x0]) (n := 1) (Nat.le_of_ble_eq_true rfl)
  rw [lg_entry_eq]
  generalize (lg_sl ([.int x0]) ++ List.replicate (1 - (lg_sl ([.int x0])).length) Slot.unset).toArray = ls at hl ⊢
  have hl : lv_has ls 1 [(0, .int x0)] := hl
  refine lv_iload_n hx hb d_S_moveOrJump_0 rfl (lv_at hl 0 rfl) ?_
  refine call_S_secondRegister S inC m_381 ⟨(Nat.le_of_ble_eq_true rfl), (Nat.le_of_ble_eq_true rfl)⟩ hl.1 (Nat.le_of_ble_eq_true rfl) d_S_moveOrJump_1 ⟨(Nat.le_of_ble_eq_true rfl), (Nat.le_of_ble_eq_true rfl)⟩ ?_
  refine lv_if_eq (tgt := 11) hx hb d_S_moveOrJump_4 (by decide) (fun c_1 => ?_) (fun c_1 => ?_)
  · refine lv_iload_n hx hb d_S_moveOrJump_11 rfl (lv_at hl 0 rfl) ?_
    refine call_S_firstRegister S inC m_335 ⟨(Nat.le_of_ble_eq_true rfl), (Nat.le_of_ble_eq_true rfl)⟩ hl.1 (Nat.le_of_ble_eq_true rfl) d_S_moveOrJump_12 ⟨(Nat.le_of_ble_eq_true rfl), (Nat.le_of_ble_eq_true rfl)⟩ ?_
    refine lv_if_eq (tgt := 24) hx hb d_S_moveOrJump_15 (by decide) (fun c_2 => ?_) (fun c_2 => ?_)
    · refine va_gets (v := .ref (adE 1)) hx hb (z_HALF hC) hS hown (hT _ m_309) (fun _ h => h) d_S_moveOrJump_24 ?_
      exact W.aret (v := .ref (adE 1)) hx hb hr (Or.inl ⟨_, rfl⟩) (Or.inr ⟨_, rfl⟩) (fun t ht hW => ⟨some 1, rfl, congrArg some (by rw [f_S_moveOrJump, if_pos c_1, if_pos c_2]), ht⟩) (fun _ h => by cases h) d_S_moveOrJump_27
    · refine va_gets (v := .ref (adE 89)) hx hb (z_C_JR hC) hS hown (hT _ m_395) (fun _ h => h) d_S_moveOrJump_18 ?_
      refine lv_goto (tgt := 27) hx hb d_S_moveOrJump_21 (by decide) ?_
      exact W.aret (v := .ref (adE 89)) hx hb hr (Or.inl ⟨_, rfl⟩) (Or.inr ⟨_, rfl⟩) (fun t ht hW => ⟨some 89, rfl, congrArg some (by rw [f_S_moveOrJump, if_pos c_1, if_neg c_2]), ht⟩) (fun _ h => by cases h) d_S_moveOrJump_27
  · refine va_gets (v := .ref (adE 90)) hx hb (z_C_MV hC) hS hown (hT _ m_393) (fun _ h => h) d_S_moveOrJump_7 ?_
    exact W.aret (v := .ref (adE 90)) hx hb hr (Or.inl ⟨_, rfl⟩) (Or.inr ⟨_, rfl⟩) (fun t ht hW => ⟨some 90, rfl, congrArg some (by rw [f_S_moveOrJump, if_neg c_1]), ht⟩) (fun _ h => by cases h) d_S_moveOrJump_10
theorem call_S_moveOrJump {p : Program} {l : Launch} {e : Env} {R : Room} {s : State} {m : MethodId} {args : Array Value} {below : List Frame} {meth : Method} {c : Code} {H : Heap} {locs : List Loc} {cells slots : Nat} {Q : State → Prop} {cc : ByteArray} {pc nL idx : Nat} {ls : Array Slot} {rest : List Value} {Ts : List Cond} {own : String} {adE adK adV : Nat → Nat} {A0 : Nat → Prop} {x0 : Int32} (S : CallFix p m c cc nL s args Ts own) (hTs : ∀ w ∈ WT, w ∈ Ts) (h1 : Cond.methodLink own idx y_S_moveOrJump ∈ WT) (hR : 1 + 1 ≤ R.frames ∧ 8 + (1 + 11) + 20 ≤ R.locals) (hsz : ls.size = nL) (hrm : (rest.map fun v => v.category).sum ≤ 8) (hdg : decode cc pc = .ok (.invokestatic idx, 3)) (hc : cells ≤ R.cells ∧ slots ≤ R.slots) (hC : cx adE adK adV A0 s s.heap) (hS : va_S A0 s.heap H locs) (kk : W p l e R s m args below meth c H locs cells slots Q (F0 m (pc + 3) ls (.ref (adE (f_S_moveOrJump x0)) :: rest))) : W p l e R s m args below meth c H locs cells slots Q (F0 m pc ls (.int x0 :: rest)) :=
  va_cse (va_Run.run (va_runS (As := [.int x0]) (rest := rest) S (c_S_moveOrJump l adE adK adV x0) (va_cwS 1 S.2.2.2.2 (gS hTs h1 m_391 m_56 m_392) rfl rfl rfl (by decide +kernel) hR) ⟨fun a U g mk q => ⟨q.1, q.2.blind⟩, fun U hU hW => ⟨rfl, hC.at hS no_in hU hW⟩⟩ rfl rfl hsz rfl (lv_room hrm) hdg hc)) (fun r e => by subst e; exact kk)

def f_S_addOrJump (x0 : Int32) : Nat :=
  if (f_S_secondRegister x0) = 0 then
    if (f_S_firstRegister x0) = 0 then
      91
    else
      92
  else
    93
set_option maxRecDepth 100000 in
set_option maxHeartbeats 4000000 in
theorem c_S_addOrJump (l : Launch) (adE adK adV : Nat → Nat) (x0 : Int32) : Met l y_S_addOrJump (Cond.code y_S_addOrJump b_S_addOrJump 1 (some (.object "InstructionReader$Kind")) :: WT) ({ frames := 1, cells := 0, slots := 0, locals := 20 }) (va_Pc [.int x0] (fun U => cx adE adK adV no U U.heap)) (va_Se adE (fun r => r = some (f_S_addOrJump x0))) 0 0 no := by
  refine va_MetF (cc := b_S_addOrJump) (maxL := 1) (ret := (some (.object "InstructionReader$Kind"))) (by decide +kernel) rfl ?_
  intro p e s m args below meth c s₁ B hml hv
  obtain ⟨rfl, hC⟩ := hv
  have hx := B.exec
  have hb := B.bytes
  have hr := B.returns
  have hts := atoms_spec (ws := (Cond.code y_S_addOrJump b_S_addOrJump 1 (some (.object "InstructionReader$Kind")) :: WT)) B.pre
  have hT : ∀ w ∈ WT, w.before _ s = true := fun w h => hts w (inC w h)
  have hown : s.vm.findClass R_S = some m.cls := findClass_of_methodNamed B.named
  have hlocks := B.notSynchronized
  have hS : va_S no s.heap s.heap [] := va_S.rf
  have S : CallFix p m c b_S_addOrJump 1 s _ (Cond.code y_S_addOrJump b_S_addOrJump 1 (some (.object "InstructionReader$Kind")) :: WT) R_S := ⟨hx, hb, hml, hown, hts⟩
  have hl := lv_entry ([.int x0]) (n := 1) (Nat.le_of_ble_eq_true rfl)
  rw [lg_entry_eq]
  generalize (lg_sl ([.int x0]) ++ List.replicate (1 - (lg_sl ([.int x0])).length) Slot.unset).toArray = ls at hl ⊢
  have hl : lv_has ls 1 [(0, .int x0)] := hl
  refine lv_iload_n hx hb d_S_addOrJump_0 rfl (lv_at hl 0 rfl) ?_
  refine call_S_secondRegister S inC m_381 ⟨(Nat.le_of_ble_eq_true rfl), (Nat.le_of_ble_eq_true rfl)⟩ hl.1 (Nat.le_of_ble_eq_true rfl) d_S_addOrJump_1 ⟨(Nat.le_of_ble_eq_true rfl), (Nat.le_of_ble_eq_true rfl)⟩ ?_
  refine lv_if_eq (tgt := 11) hx hb d_S_addOrJump_4 (by decide) (fun c_1 => ?_) (fun c_1 => ?_)
  · refine lv_iload_n hx hb d_S_addOrJump_11 rfl (lv_at hl 0 rfl) ?_
    refine call_S_firstRegister S inC m_335 ⟨(Nat.le_of_ble_eq_true rfl), (Nat.le_of_ble_eq_true rfl)⟩ hl.1 (Nat.le_of_ble_eq_true rfl) d_S_addOrJump_12 ⟨(Nat.le_of_ble_eq_true rfl), (Nat.le_of_ble_eq_true rfl)⟩ ?_
    refine lv_if_eq (tgt := 24) hx hb d_S_addOrJump_15 (by decide) (fun c_2 => ?_) (fun c_2 => ?_)
    · refine va_gets (v := .ref (adE 91)) hx hb (z_C_EBREAK hC) hS hown (hT _ m_388) (fun _ h => h) d_S_addOrJump_24 ?_
      exact W.aret (v := .ref (adE 91)) hx hb hr (Or.inl ⟨_, rfl⟩) (Or.inr ⟨_, rfl⟩) (fun t ht hW => ⟨some 91, rfl, congrArg some (by rw [f_S_addOrJump, if_pos c_1, if_pos c_2]), ht⟩) (fun _ h => by cases h) d_S_addOrJump_27
    · refine va_gets (v := .ref (adE 92)) hx hb (z_C_JALR hC) hS hown (hT _ m_386) (fun _ h => h) d_S_addOrJump_18 ?_
      refine lv_goto (tgt := 27) hx hb d_S_addOrJump_21 (by decide) ?_
      exact W.aret (v := .ref (adE 92)) hx hb hr (Or.inl ⟨_, rfl⟩) (Or.inr ⟨_, rfl⟩) (fun t ht hW => ⟨some 92, rfl, congrArg some (by rw [f_S_addOrJump, if_pos c_1, if_neg c_2]), ht⟩) (fun _ h => by cases h) d_S_addOrJump_27
  · refine va_gets (v := .ref (adE 93)) hx hb (z_C_ADD hC) hS hown (hT _ m_384) (fun _ h => h) d_S_addOrJump_7 ?_
    exact W.aret (v := .ref (adE 93)) hx hb hr (Or.inl ⟨_, rfl⟩) (Or.inr ⟨_, rfl⟩) (fun t ht hW => ⟨some 93, rfl, congrArg some (by rw [f_S_addOrJump, if_neg c_1]), ht⟩) (fun _ h => by cases h) d_S_addOrJump_10
theorem call_S_addOrJump {p : Program} {l : Launch} {e : Env} {R : Room} {s : State} {m : MethodId} {args : Array Value} {below : List Frame} {meth : Method} {c : Code} {H : Heap} {locs : List Loc} {cells slots : Nat} {Q : State → Prop} {cc : ByteArray} {pc nL idx : Nat} {ls : Array Slot} {rest : List Value} {Ts : List Cond} {own : String} {adE adK adV : Nat → Nat} {A0 : Nat → Prop} {x0 : Int32} (S : CallFix p m c cc nL s args Ts own) (hTs : ∀ w ∈ WT, w ∈ Ts) (h1 : Cond.methodLink own idx y_S_addOrJump ∈ WT) (hR : 1 + 1 ≤ R.frames ∧ 8 + (1 + 11) + 20 ≤ R.locals) (hsz : ls.size = nL) (hrm : (rest.map fun v => v.category).sum ≤ 8) (hdg : decode cc pc = .ok (.invokestatic idx, 3)) (hc : cells ≤ R.cells ∧ slots ≤ R.slots) (hC : cx adE adK adV A0 s s.heap) (hS : va_S A0 s.heap H locs) (kk : W p l e R s m args below meth c H locs cells slots Q (F0 m (pc + 3) ls (.ref (adE (f_S_addOrJump x0)) :: rest))) : W p l e R s m args below meth c H locs cells slots Q (F0 m pc ls (.int x0 :: rest)) :=
  va_cse (va_Run.run (va_runS (As := [.int x0]) (rest := rest) S (c_S_addOrJump l adE adK adV x0) (va_cwS 1 S.2.2.2.2 (gS hTs h1 m_379 m_56 m_380) rfl rfl rfl (by decide +kernel) hR) ⟨fun a U g mk q => ⟨q.1, q.2.blind⟩, fun U hU hW => ⟨rfl, hC.at hS no_in hU hW⟩⟩ rfl rfl hsz rfl (lv_room hrm) hdg hc)) (fun r e => by subst e; exact kk)

def f_S_ofQ2 (x0 x1 : Int32) : Nat :=
  if x0 = 0 then
    if (f_S_hasBit12 x1) = 0 then
      87
    else
      1
  else
    if x0 = 2 then
      if (f_S_firstRegister x1) = 0 then
        1
      else
        88
    else
      if x0 = 4 then
        if (f_S_hasBit12 x1) = 0 then
          f_S_moveOrJump x1
        else
          f_S_addOrJump x1
      else
        if x0 = 6 then
          94
        else
          1
set_option maxRecDepth 100000 in
set_option maxHeartbeats 4000000 in
theorem c_S_ofQ2 (l : Launch) (adE adK adV : Nat → Nat) (x0 x1 : Int32) : Met l y_S_ofQ2 (Cond.code y_S_ofQ2 b_S_ofQ2 2 (some (.object "InstructionReader$Kind")) :: WT) ({ frames := 2, cells := 0, slots := 0, locals := 40 }) (va_Pc [.int x0, .int x1] (fun U => cx adE adK adV no U U.heap)) (va_Se adE (fun r => r = some (f_S_ofQ2 x0 x1))) 0 0 no := by
  refine va_MetF (cc := b_S_ofQ2) (maxL := 2) (ret := (some (.object "InstructionReader$Kind"))) (by decide +kernel) rfl ?_
  intro p e s m args below meth c s₁ B hml hv
  obtain ⟨rfl, hC⟩ := hv
  have hx := B.exec
  have hb := B.bytes
  have hr := B.returns
  have hts := atoms_spec (ws := (Cond.code y_S_ofQ2 b_S_ofQ2 2 (some (.object "InstructionReader$Kind")) :: WT)) B.pre
  have hT : ∀ w ∈ WT, w.before _ s = true := fun w h => hts w (inC w h)
  have hown : s.vm.findClass R_S = some m.cls := findClass_of_methodNamed B.named
  have hlocks := B.notSynchronized
  have hS : va_S no s.heap s.heap [] := va_S.rf
  have S : CallFix p m c b_S_ofQ2 2 s _ (Cond.code y_S_ofQ2 b_S_ofQ2 2 (some (.object "InstructionReader$Kind")) :: WT) R_S := ⟨hx, hb, hml, hown, hts⟩
  have hl := lv_entry ([.int x0, .int x1]) (n := 2) (Nat.le_of_ble_eq_true rfl)
  rw [lg_entry_eq]
  generalize (lg_sl ([.int x0, .int x1]) ++ List.replicate (2 - (lg_sl ([.int x0, .int x1])).length) Slot.unset).toArray = ls at hl ⊢
  have hl : lv_has ls 2 [(0, .int x0), (1, .int x1)] := hl
  refine lv_iload_n hx hb d_S_ofQ2_0 rfl (lv_at hl 0 rfl) ?_
  by_cases c_1 : x0 = 0
  · refine lv_tableIn (off := 43) (tgt := 44) hx hb d_S_ofQ2_1 (by rw [c_1]; decide) (by rw [c_1]; decide) (by rw [c_1]; decide) (by decide) ?_
    refine lv_iload_n hx hb d_S_ofQ2_44 rfl (lv_at hl 1 rfl) ?_
    refine call_S_hasBit12 S inC m_347 ⟨(Nat.le_of_ble_eq_true rfl), (Nat.le_of_ble_eq_true rfl)⟩ hl.1 (Nat.le_of_ble_eq_true rfl) d_S_ofQ2_45 ⟨(Nat.le_of_ble_eq_true rfl), (Nat.le_of_ble_eq_true rfl)⟩ ?_
    refine lv_if_eq (tgt := 57) hx hb d_S_ofQ2_48 (by decide) (fun c_2 => ?_) (fun c_2 => ?_)
    · refine va_gets (v := .ref (adE 87)) hx hb (z_C_SLLI hC) hS hown (hT _ m_374) (fun _ h => h) d_S_ofQ2_57 ?_
      exact W.aret (v := .ref (adE 87)) hx hb hr (Or.inl ⟨_, rfl⟩) (Or.inr ⟨_, rfl⟩) (fun t ht hW => ⟨some 87, rfl, congrArg some (by rw [f_S_ofQ2, if_pos c_1, if_pos c_2]), ht⟩) (fun _ h => by cases h) d_S_ofQ2_60
    · refine va_gets (v := .ref (adE 1)) hx hb (z_HALF hC) hS hown (hT _ m_309) (fun _ h => h) d_S_ofQ2_51 ?_
      refine lv_goto (tgt := 60) hx hb d_S_ofQ2_54 (by decide) ?_
      exact W.aret (v := .ref (adE 1)) hx hb hr (Or.inl ⟨_, rfl⟩) (Or.inr ⟨_, rfl⟩) (fun t ht hW => ⟨some 1, rfl, congrArg some (by rw [f_S_ofQ2, if_pos c_1, if_neg c_2]), ht⟩) (fun _ h => by cases h) d_S_ofQ2_60
  · by_cases c_3 : x0 = 2
    · refine lv_tableIn (off := 60) (tgt := 61) hx hb d_S_ofQ2_1 (by rw [c_3]; decide) (by rw [c_3]; decide) (by rw [c_3]; decide) (by decide) ?_
      refine lv_iload_n hx hb d_S_ofQ2_61 rfl (lv_at hl 1 rfl) ?_
      refine call_S_firstRegister S inC m_335 ⟨(Nat.le_of_ble_eq_true rfl), (Nat.le_of_ble_eq_true rfl)⟩ hl.1 (Nat.le_of_ble_eq_true rfl) d_S_ofQ2_62 ⟨(Nat.le_of_ble_eq_true rfl), (Nat.le_of_ble_eq_true rfl)⟩ ?_
      refine lv_if_eq (tgt := 74) hx hb d_S_ofQ2_65 (by decide) (fun c_4 => ?_) (fun c_4 => ?_)
      · refine va_gets (v := .ref (adE 1)) hx hb (z_HALF hC) hS hown (hT _ m_309) (fun _ h => h) d_S_ofQ2_74 ?_
        exact W.aret (v := .ref (adE 1)) hx hb hr (Or.inl ⟨_, rfl⟩) (Or.inr ⟨_, rfl⟩) (fun t ht hW => ⟨some 1, rfl, congrArg some (by rw [f_S_ofQ2, if_neg c_1, if_pos c_3, if_pos c_4]), ht⟩) (fun _ h => by cases h) d_S_ofQ2_77
      · refine va_gets (v := .ref (adE 88)) hx hb (z_C_LWSP hC) hS hown (hT _ m_376) (fun _ h => h) d_S_ofQ2_68 ?_
        refine lv_goto (tgt := 77) hx hb d_S_ofQ2_71 (by decide) ?_
        exact W.aret (v := .ref (adE 88)) hx hb hr (Or.inl ⟨_, rfl⟩) (Or.inr ⟨_, rfl⟩) (fun t ht hW => ⟨some 88, rfl, congrArg some (by rw [f_S_ofQ2, if_neg c_1, if_pos c_3, if_neg c_4]), ht⟩) (fun _ h => by cases h) d_S_ofQ2_77
    · by_cases c_5 : x0 = 4
      · refine lv_tableIn (off := 77) (tgt := 78) hx hb d_S_ofQ2_1 (by rw [c_5]; decide) (by rw [c_5]; decide) (by rw [c_5]; decide) (by decide) ?_
        refine lv_iload_n hx hb d_S_ofQ2_78 rfl (lv_at hl 1 rfl) ?_
        refine call_S_hasBit12 S inC m_347 ⟨(Nat.le_of_ble_eq_true rfl), (Nat.le_of_ble_eq_true rfl)⟩ hl.1 (Nat.le_of_ble_eq_true rfl) d_S_ofQ2_79 ⟨(Nat.le_of_ble_eq_true rfl), (Nat.le_of_ble_eq_true rfl)⟩ ?_
        refine lv_if_eq (tgt := 92) hx hb d_S_ofQ2_82 (by decide) (fun c_6 => ?_) (fun c_6 => ?_)
        · refine lv_iload_n hx hb d_S_ofQ2_92 rfl (lv_at hl 1 rfl) ?_
          refine call_S_moveOrJump S inC m_390 ⟨(Nat.le_of_ble_eq_true rfl), (Nat.le_of_ble_eq_true rfl)⟩ hl.1 (Nat.le_of_ble_eq_true rfl) d_S_ofQ2_93 ⟨(Nat.le_of_ble_eq_true rfl), (Nat.le_of_ble_eq_true rfl)⟩ hC hS ?_
          exact W.aret (v := .ref (adE (f_S_moveOrJump x1))) hx hb hr (Or.inl ⟨_, rfl⟩) (Or.inr ⟨_, rfl⟩) (fun t ht hW => ⟨some (f_S_moveOrJump x1), rfl, congrArg some (by rw [f_S_ofQ2, if_neg c_1, if_neg c_3, if_pos c_5, if_pos c_6]), ht⟩) (fun _ h => by cases h) d_S_ofQ2_96
        · refine lv_iload_n hx hb d_S_ofQ2_85 rfl (lv_at hl 1 rfl) ?_
          refine call_S_addOrJump S inC m_378 ⟨(Nat.le_of_ble_eq_true rfl), (Nat.le_of_ble_eq_true rfl)⟩ hl.1 (Nat.le_of_ble_eq_true rfl) d_S_ofQ2_86 ⟨(Nat.le_of_ble_eq_true rfl), (Nat.le_of_ble_eq_true rfl)⟩ hC hS ?_
          refine lv_goto (tgt := 96) hx hb d_S_ofQ2_89 (by decide) ?_
          exact W.aret (v := .ref (adE (f_S_addOrJump x1))) hx hb hr (Or.inl ⟨_, rfl⟩) (Or.inr ⟨_, rfl⟩) (fun t ht hW => ⟨some (f_S_addOrJump x1), rfl, congrArg some (by rw [f_S_ofQ2, if_neg c_1, if_neg c_3, if_pos c_5, if_neg c_6]), ht⟩) (fun _ h => by cases h) d_S_ofQ2_96
      · by_cases c_7 : x0 = 6
        · refine lv_tableIn (off := 96) (tgt := 97) hx hb d_S_ofQ2_1 (by rw [c_7]; decide) (by rw [c_7]; decide) (by rw [c_7]; decide) (by decide) ?_
          refine va_gets (v := .ref (adE 94)) hx hb (z_C_SWSP hC) hS hown (hT _ m_397) (fun _ h => h) d_S_ofQ2_97 ?_
          exact W.aret (v := .ref (adE 94)) hx hb hr (Or.inl ⟨_, rfl⟩) (Or.inr ⟨_, rfl⟩) (fun t ht hW => ⟨some 94, rfl, congrArg some (by rw [f_S_ofQ2, if_neg c_1, if_neg c_3, if_neg c_5, if_pos c_7]), ht⟩) (fun _ h => by cases h) d_S_ofQ2_100
        · refine tb_out (tgt := 101) hx hb d_S_ofQ2_1 (by have n0 := lv_neT c_1 (show (0 : Int32).toInt = 0 from (by decide)); have n1 := lv_neT c_3 (show (2 : Int32).toInt = 2 from (by decide)); have n2 := lv_neT c_5 (show (4 : Int32).toInt = 4 from (by decide)); have n3 := lv_neT c_7 (show (6 : Int32).toInt = 6 from (by decide)); intro j hj hi; have key : ∀ j : Nat, j < 7 → j ∈ ([0, 2, 4, 6] : List Nat) ∨ (#[43, 100, 60, 100, 77, 100, 96] : Array Int)[j]? = some 100 := (by decide); exact (key j (by omega)).elim (fun h => absurd h (by simp only [List.mem_cons, List.not_mem_nil, or_false]; omega)) id) (by decide) ?_
          refine va_gets (v := .ref (adE 1)) hx hb (z_HALF hC) hS hown (hT _ m_309) (fun _ h => h) d_S_ofQ2_101 ?_
          exact W.aret (v := .ref (adE 1)) hx hb hr (Or.inl ⟨_, rfl⟩) (Or.inr ⟨_, rfl⟩) (fun t ht hW => ⟨some 1, rfl, congrArg some (by rw [f_S_ofQ2, if_neg c_1, if_neg c_3, if_neg c_5, if_neg c_7]), ht⟩) (fun _ h => by cases h) d_S_ofQ2_104
theorem call_S_ofQ2 {p : Program} {l : Launch} {e : Env} {R : Room} {s : State} {m : MethodId} {args : Array Value} {below : List Frame} {meth : Method} {c : Code} {H : Heap} {locs : List Loc} {cells slots : Nat} {Q : State → Prop} {cc : ByteArray} {pc nL idx : Nat} {ls : Array Slot} {rest : List Value} {Ts : List Cond} {own : String} {adE adK adV : Nat → Nat} {A0 : Nat → Prop} {x0 x1 : Int32} (S : CallFix p m c cc nL s args Ts own) (hTs : ∀ w ∈ WT, w ∈ Ts) (h1 : Cond.methodLink own idx y_S_ofQ2 ∈ WT) (hR : 2 + 1 ≤ R.frames ∧ 8 + (2 + 11) + 40 ≤ R.locals) (hsz : ls.size = nL) (hrm : (rest.map fun v => v.category).sum ≤ 8) (hdg : decode cc pc = .ok (.invokestatic idx, 3)) (hc : cells ≤ R.cells ∧ slots ≤ R.slots) (hC : cx adE adK adV A0 s s.heap) (hS : va_S A0 s.heap H locs) (kk : W p l e R s m args below meth c H locs cells slots Q (F0 m (pc + 3) ls (.ref (adE (f_S_ofQ2 x0 x1)) :: rest))) : W p l e R s m args below meth c H locs cells slots Q (F0 m pc ls (.int x1 :: .int x0 :: rest)) :=
  va_cse (va_Run.run (va_runS (As := [.int x0, .int x1]) (rest := rest) S (c_S_ofQ2 l adE adK adV x0 x1) (va_cwS 2 S.2.2.2.2 (gS hTs h1 m_372 m_56 m_373) rfl rfl rfl (by decide +kernel) hR) ⟨fun a U g mk q => ⟨q.1, q.2.blind⟩, fun U hU hW => ⟨rfl, hC.at hS no_in hU hW⟩⟩ rfl rfl hsz rfl (lv_room hrm) hdg hc)) (fun r e => by subst e; exact kk)

def f_S_ofHalf (x0 : Int32) : Nat :=
  if (x0 &&& 3) = 0 then
    f_S_ofQ0 ((x0 >>> ((13 : Int32) &&& 31)) &&& 7) x0
  else
    if (x0 &&& 3) = 1 then
      f_S_ofQ1 ((x0 >>> ((13 : Int32) &&& 31)) &&& 7) x0
    else
      if (x0 &&& 3) = 2 then
        f_S_ofQ2 ((x0 >>> ((13 : Int32) &&& 31)) &&& 7) x0
      else
        1
set_option maxRecDepth 100000 in
set_option maxHeartbeats 4000000 in
theorem c_S_ofHalf (l : Launch) (adE adK adV : Nat → Nat) (x0 : Int32) : Met l y_S_ofHalf (Cond.code y_S_ofHalf b_S_ofHalf 2 (some (.object "InstructionReader$Kind")) :: WT) ({ frames := 4, cells := 0, slots := 0, locals := 84 }) (va_Pc [.int x0] (fun U => cx adE adK adV no U U.heap)) (va_Se adE (fun r => r = some (f_S_ofHalf x0))) 0 0 no := by
  refine va_MetF (cc := b_S_ofHalf) (maxL := 2) (ret := (some (.object "InstructionReader$Kind"))) (by decide +kernel) rfl ?_
  intro p e s m args below meth c s₁ B hml hv
  obtain ⟨rfl, hC⟩ := hv
  have hx := B.exec
  have hb := B.bytes
  have hr := B.returns
  have hts := atoms_spec (ws := (Cond.code y_S_ofHalf b_S_ofHalf 2 (some (.object "InstructionReader$Kind")) :: WT)) B.pre
  have hT : ∀ w ∈ WT, w.before _ s = true := fun w h => hts w (inC w h)
  have hown : s.vm.findClass R_S = some m.cls := findClass_of_methodNamed B.named
  have hlocks := B.notSynchronized
  have hS : va_S no s.heap s.heap [] := va_S.rf
  have S : CallFix p m c b_S_ofHalf 2 s _ (Cond.code y_S_ofHalf b_S_ofHalf 2 (some (.object "InstructionReader$Kind")) :: WT) R_S := ⟨hx, hb, hml, hown, hts⟩
  have hl := lv_entry ([.int x0]) (n := 2) (Nat.le_of_ble_eq_true rfl)
  rw [lg_entry_eq]
  generalize (lg_sl ([.int x0]) ++ List.replicate (2 - (lg_sl ([.int x0])).length) Slot.unset).toArray = ls at hl ⊢
  have hl : lv_has ls 2 [(0, .int x0)] := hl
  refine lv_iload_n hx hb d_S_ofHalf_0 rfl (lv_at hl 0 rfl) ?_
  refine lv_bipush (v := 13) hx hb d_S_ofHalf_1 (by decide) ?_
  refine lv_ishr hx hb d_S_ofHalf_3 ?_
  refine lv_bipush (v := 7) hx hb d_S_ofHalf_4 (by decide) ?_
  refine lv_iand hx hb d_S_ofHalf_6 ?_
  refine lv_istore_n (lv' := [(1, .int ((x0 >>> ((13 : Int32) &&& 31)) &&& 7)), (0, .int x0)]) hx hb d_S_ofHalf_7 rfl hl (by decide) rfl (fun ls hl => ?_)
  refine lv_iload_n hx hb d_S_ofHalf_8 rfl (lv_at hl 1 rfl) ?_
  refine lv_iconst (v := 3) hx hb d_S_ofHalf_9 (by decide) ?_
  refine lv_iand hx hb d_S_ofHalf_10 ?_
  by_cases c_1 : (x0 &&& 3) = 0
  · refine lv_tableIn (off := 25) (tgt := 36) hx hb d_S_ofHalf_11 (by rw [c_1]; decide) (by rw [c_1]; decide) (by rw [c_1]; decide) (by decide) ?_
    refine lv_iload_n hx hb d_S_ofHalf_36 rfl (lv_at hl 0 rfl) ?_
    refine lv_iload_n hx hb d_S_ofHalf_37 rfl (lv_at hl 1 rfl) ?_
    refine call_S_ofQ0 S inC m_298 ⟨(Nat.le_of_ble_eq_true rfl), (Nat.le_of_ble_eq_true rfl)⟩ hl.1 (Nat.le_of_ble_eq_true rfl) d_S_ofHalf_38 ⟨(Nat.le_of_ble_eq_true rfl), (Nat.le_of_ble_eq_true rfl)⟩ hC hS ?_
    exact W.aret (v := .ref (adE (f_S_ofQ0 ((x0 >>> ((13 : Int32) &&& 31)) &&& 7) x0))) hx hb hr (Or.inl ⟨_, rfl⟩) (Or.inr ⟨_, rfl⟩) (fun t ht hW => ⟨some (f_S_ofQ0 ((x0 >>> ((13 : Int32) &&& 31)) &&& 7) x0), rfl, congrArg some (by rw [f_S_ofHalf, if_pos c_1]), ht⟩) (fun _ h => by cases h) d_S_ofHalf_41
  · by_cases c_2 : (x0 &&& 3) = 1
    · refine lv_tableIn (off := 31) (tgt := 42) hx hb d_S_ofHalf_11 (by rw [c_2]; decide) (by rw [c_2]; decide) (by rw [c_2]; decide) (by decide) ?_
      refine lv_iload_n hx hb d_S_ofHalf_42 rfl (lv_at hl 0 rfl) ?_
      refine lv_iload_n hx hb d_S_ofHalf_43 rfl (lv_at hl 1 rfl) ?_
      refine call_S_ofQ1 S inC m_315 ⟨(Nat.le_of_ble_eq_true rfl), (Nat.le_of_ble_eq_true rfl)⟩ hl.1 (Nat.le_of_ble_eq_true rfl) d_S_ofHalf_44 ⟨(Nat.le_of_ble_eq_true rfl), (Nat.le_of_ble_eq_true rfl)⟩ hC hS ?_
      exact W.aret (v := .ref (adE (f_S_ofQ1 ((x0 >>> ((13 : Int32) &&& 31)) &&& 7) x0))) hx hb hr (Or.inl ⟨_, rfl⟩) (Or.inr ⟨_, rfl⟩) (fun t ht hW => ⟨some (f_S_ofQ1 ((x0 >>> ((13 : Int32) &&& 31)) &&& 7) x0), rfl, congrArg some (by rw [f_S_ofHalf, if_neg c_1, if_pos c_2]), ht⟩) (fun _ h => by cases h) d_S_ofHalf_47
    · by_cases c_3 : (x0 &&& 3) = 2
      · refine lv_tableIn (off := 37) (tgt := 48) hx hb d_S_ofHalf_11 (by rw [c_3]; decide) (by rw [c_3]; decide) (by rw [c_3]; decide) (by decide) ?_
        refine lv_iload_n hx hb d_S_ofHalf_48 rfl (lv_at hl 0 rfl) ?_
        refine lv_iload_n hx hb d_S_ofHalf_49 rfl (lv_at hl 1 rfl) ?_
        refine call_S_ofQ2 S inC m_371 ⟨(Nat.le_of_ble_eq_true rfl), (Nat.le_of_ble_eq_true rfl)⟩ hl.1 (Nat.le_of_ble_eq_true rfl) d_S_ofHalf_50 ⟨(Nat.le_of_ble_eq_true rfl), (Nat.le_of_ble_eq_true rfl)⟩ hC hS ?_
        exact W.aret (v := .ref (adE (f_S_ofQ2 ((x0 >>> ((13 : Int32) &&& 31)) &&& 7) x0))) hx hb hr (Or.inl ⟨_, rfl⟩) (Or.inr ⟨_, rfl⟩) (fun t ht hW => ⟨some (f_S_ofQ2 ((x0 >>> ((13 : Int32) &&& 31)) &&& 7) x0), rfl, congrArg some (by rw [f_S_ofHalf, if_neg c_1, if_neg c_2, if_pos c_3]), ht⟩) (fun _ h => by cases h) d_S_ofHalf_53
      · refine lv_tableOut (tgt := 54) hx hb d_S_ofHalf_11 (by have n0 := lv_neT c_1 (show (0 : Int32).toInt = 0 by decide); have n1 := lv_neT c_2 (show (1 : Int32).toInt = 1 by decide); have n2 := lv_neT c_3 (show (2 : Int32).toInt = 2 by decide); omega) (by decide) ?_
        refine va_gets (v := .ref (adE 1)) hx hb (z_HALF hC) hS hown (hT _ m_309) (fun _ h => h) d_S_ofHalf_54 ?_
        exact W.aret (v := .ref (adE 1)) hx hb hr (Or.inl ⟨_, rfl⟩) (Or.inr ⟨_, rfl⟩) (fun t ht hW => ⟨some 1, rfl, congrArg some (by rw [f_S_ofHalf, if_neg c_1, if_neg c_2, if_neg c_3]), ht⟩) (fun _ h => by cases h) d_S_ofHalf_57
theorem call_S_ofHalf {p : Program} {l : Launch} {e : Env} {R : Room} {s : State} {m : MethodId} {args : Array Value} {below : List Frame} {meth : Method} {c : Code} {H : Heap} {locs : List Loc} {cells slots : Nat} {Q : State → Prop} {cc : ByteArray} {pc nL idx : Nat} {ls : Array Slot} {rest : List Value} {Ts : List Cond} {own : String} {adE adK adV : Nat → Nat} {A0 : Nat → Prop} {x0 : Int32} (S : CallFix p m c cc nL s args Ts own) (hTs : ∀ w ∈ WT, w ∈ Ts) (h1 : Cond.methodLink own idx y_S_ofHalf ∈ WT) (hR : 4 + 1 ≤ R.frames ∧ 8 + (2 + 11) + 84 ≤ R.locals) (hsz : ls.size = nL) (hrm : (rest.map fun v => v.category).sum ≤ 8) (hdg : decode cc pc = .ok (.invokestatic idx, 3)) (hc : cells ≤ R.cells ∧ slots ≤ R.slots) (hC : cx adE adK adV A0 s s.heap) (hS : va_S A0 s.heap H locs) (kk : W p l e R s m args below meth c H locs cells slots Q (F0 m (pc + 3) ls (.ref (adE (f_S_ofHalf x0)) :: rest))) : W p l e R s m args below meth c H locs cells slots Q (F0 m pc ls (.int x0 :: rest)) :=
  va_cse (va_Run.run (va_runS (As := [.int x0]) (rest := rest) S (c_S_ofHalf l adE adK adV x0) (va_cwS 1 S.2.2.2.2 (gS hTs h1 m_296 m_56 m_297) rfl rfl rfl (by decide +kernel) hR) ⟨fun a U g mk q => ⟨q.1, q.2.blind⟩, fun U hU hW => ⟨rfl, hC.at hS no_in hU hW⟩⟩ rfl rfl hsz rfl (lv_room hrm) hdg hc)) (fun r e => by subst e; exact kk)

def f_R_kindOf (x0 : Int32) : Nat :=
  if (f_R_isLong x0) = 0 then
    f_S_ofHalf x0
  else
    f_L_ofWord x0
set_option maxRecDepth 100000 in
set_option maxHeartbeats 4000000 in
theorem c_R_kindOf (l : Launch) (adE adK adV : Nat → Nat) (x0 : Int32) : Met l y_R_kindOf (Cond.code y_R_kindOf b_R_kindOf 1 (some (.object "InstructionReader$Kind")) :: WT) ({ frames := 5, cells := 0, slots := 0, locals := 105 }) (va_Pc [.int x0] (fun U => cx adE adK adV no U U.heap)) (va_Se adE (fun r => r = some (f_R_kindOf x0))) 0 0 no := by
  refine va_MetF (cc := b_R_kindOf) (maxL := 1) (ret := (some (.object "InstructionReader$Kind"))) (by decide +kernel) rfl ?_
  intro p e s m args below meth c s₁ B hml hv
  obtain ⟨rfl, hC⟩ := hv
  have hx := B.exec
  have hb := B.bytes
  have hr := B.returns
  have hts := atoms_spec (ws := (Cond.code y_R_kindOf b_R_kindOf 1 (some (.object "InstructionReader$Kind")) :: WT)) B.pre
  have hT : ∀ w ∈ WT, w.before _ s = true := fun w h => hts w (inC w h)
  have hown : s.vm.findClass R_R = some m.cls := findClass_of_methodNamed B.named
  have hlocks := B.notSynchronized
  have hS : va_S no s.heap s.heap [] := va_S.rf
  have S : CallFix p m c b_R_kindOf 1 s _ (Cond.code y_R_kindOf b_R_kindOf 1 (some (.object "InstructionReader$Kind")) :: WT) R_R := ⟨hx, hb, hml, hown, hts⟩
  have hl := lv_entry ([.int x0]) (n := 1) (Nat.le_of_ble_eq_true rfl)
  rw [lg_entry_eq]
  generalize (lg_sl ([.int x0]) ++ List.replicate (1 - (lg_sl ([.int x0])).length) Slot.unset).toArray = ls at hl ⊢
  have hl : lv_has ls 1 [(0, .int x0)] := hl
  refine lv_iload_n hx hb d_R_kindOf_0 rfl (lv_at hl 0 rfl) ?_
  refine call_R_isLong S inC m_111 ⟨(Nat.le_of_ble_eq_true rfl), (Nat.le_of_ble_eq_true rfl)⟩ hl.1 (Nat.le_of_ble_eq_true rfl) d_R_kindOf_1 ⟨(Nat.le_of_ble_eq_true rfl), (Nat.le_of_ble_eq_true rfl)⟩ ?_
  refine lv_if_eq (tgt := 14) hx hb d_R_kindOf_4 (by decide) (fun c_1 => ?_) (fun c_1 => ?_)
  · refine lv_iload_n hx hb d_R_kindOf_14 rfl (lv_at hl 0 rfl) ?_
    refine call_S_ofHalf S inC m_295 ⟨(Nat.le_of_ble_eq_true rfl), (Nat.le_of_ble_eq_true rfl)⟩ hl.1 (Nat.le_of_ble_eq_true rfl) d_R_kindOf_15 ⟨(Nat.le_of_ble_eq_true rfl), (Nat.le_of_ble_eq_true rfl)⟩ hC hS ?_
    exact W.aret (v := .ref (adE (f_S_ofHalf x0))) hx hb hr (Or.inl ⟨_, rfl⟩) (Or.inr ⟨_, rfl⟩) (fun t ht hW => ⟨some (f_S_ofHalf x0), rfl, congrArg some (by rw [f_R_kindOf, if_pos c_1]), ht⟩) (fun _ h => by cases h) d_R_kindOf_18
  · refine lv_iload_n hx hb d_R_kindOf_7 rfl (lv_at hl 0 rfl) ?_
    refine call_L_ofWord S inC m_122 ⟨(Nat.le_of_ble_eq_true rfl), (Nat.le_of_ble_eq_true rfl)⟩ hl.1 (Nat.le_of_ble_eq_true rfl) d_R_kindOf_8 ⟨(Nat.le_of_ble_eq_true rfl), (Nat.le_of_ble_eq_true rfl)⟩ hC hS ?_
    refine lv_goto (tgt := 18) hx hb d_R_kindOf_11 (by decide) ?_
    exact W.aret (v := .ref (adE (f_L_ofWord x0))) hx hb hr (Or.inl ⟨_, rfl⟩) (Or.inr ⟨_, rfl⟩) (fun t ht hW => ⟨some (f_L_ofWord x0), rfl, congrArg some (by rw [f_R_kindOf, if_neg c_1]), ht⟩) (fun _ h => by cases h) d_R_kindOf_18
theorem call_R_kindOf {p : Program} {l : Launch} {e : Env} {R : Room} {s : State} {m : MethodId} {args : Array Value} {below : List Frame} {meth : Method} {c : Code} {H : Heap} {locs : List Loc} {cells slots : Nat} {Q : State → Prop} {cc : ByteArray} {pc nL idx : Nat} {ls : Array Slot} {rest : List Value} {Ts : List Cond} {own : String} {adE adK adV : Nat → Nat} {A0 : Nat → Prop} {x0 : Int32} (S : CallFix p m c cc nL s args Ts own) (hTs : ∀ w ∈ WT, w ∈ Ts) (h1 : Cond.methodLink own idx y_R_kindOf ∈ WT) (hR : 5 + 1 ≤ R.frames ∧ 8 + (1 + 11) + 105 ≤ R.locals) (hsz : ls.size = nL) (hrm : (rest.map fun v => v.category).sum ≤ 8) (hdg : decode cc pc = .ok (.invokestatic idx, 3)) (hc : cells ≤ R.cells ∧ slots ≤ R.slots) (hC : cx adE adK adV A0 s s.heap) (hS : va_S A0 s.heap H locs) (kk : W p l e R s m args below meth c H locs cells slots Q (F0 m (pc + 3) ls (.ref (adE (f_R_kindOf x0)) :: rest))) : W p l e R s m args below meth c H locs cells slots Q (F0 m pc ls (.int x0 :: rest)) :=
  va_cse (va_Run.run (va_runS (As := [.int x0]) (rest := rest) S (c_R_kindOf l adE adK adV x0) (va_cwS 1 S.2.2.2.2 (gS hTs h1 m_120 m_50 m_121) rfl rfl rfl (by decide +kernel) hR) ⟨fun a U g mk q => ⟨q.1, q.2.blind⟩, fun U hU hW => ⟨rfl, hC.at hS no_in hU hW⟩⟩ rfl rfl hsz rfl (lv_room hrm) hdg hc)) (fun r e => by subst e; exact kk)

def f_T_registerName (x0 : Int32) : Nat :=
  if x0 = 0 then
    3
  else
    if x0 = 1 then
      4
    else
      if x0 = 2 then
        5
      else
        if x0 = 3 then
          6
        else
          if x0 = 4 then
            7
          else
            if x0 = 5 then
              8
            else
              if x0 = 6 then
                9
              else
                if x0 = 7 then
                  10
                else
                  if x0 = 8 then
                    11
                  else
                    if x0 = 9 then
                      12
                    else
                      if x0 = 10 then
                        13
                      else
                        if x0 = 11 then
                          14
                        else
                          if x0 = 12 then
                            15
                          else
                            if x0 = 13 then
                              16
                            else
                              if x0 = 14 then
                                17
                              else
                                if x0 = 15 then
                                  18
                                else
                                  if x0 = 16 then
                                    19
                                  else
                                    if x0 = 17 then
                                      20
                                    else
                                      if x0 = 18 then
                                        21
                                      else
                                        if x0 = 19 then
                                          22
                                        else
                                          if x0 = 20 then
                                            23
                                          else
                                            if x0 = 21 then
                                              24
                                            else
                                              if x0 = 22 then
                                                25
                                              else
                                                if x0 = 23 then
                                                  26
                                                else
                                                  if x0 = 24 then
                                                    27
                                                  else
                                                    if x0 = 25 then
                                                      28
                                                    else
                                                      if x0 = 26 then
                                                        29
                                                      else
                                                        if x0 = 27 then
                                                          30
                                                        else
                                                          if x0 = 28 then
                                                            31
                                                          else
                                                            if x0 = 29 then
                                                              32
                                                            else
                                                              if x0 = 30 then
                                                                33
                                                              else
                                                                34
set_option maxRecDepth 100000 in
set_option maxHeartbeats 4000000 in
theorem c_T_registerName (l : Launch) (adE adK adV : Nat → Nat) (x0 : Int32) : Met l y_T_registerName (Cond.code y_T_registerName b_T_registerName 1 (some (.object "java/lang/String")) :: WT) ({ frames := 0, cells := 0, slots := 0, locals := 0 }) (va_Pc [.int x0] (fun U => cx adE adK adV no U U.heap)) (va_Sr (fun r => r = f_T_registerName x0) (fun k => .ref (adK k))) 0 0 no := by
  refine va_MetF (cc := b_T_registerName) (maxL := 1) (ret := (some (.object "java/lang/String"))) (by decide +kernel) rfl ?_
  intro p e s m args below meth c s₁ B hml hv
  obtain ⟨rfl, hC⟩ := hv
  have hx := B.exec
  have hb := B.bytes
  have hr := B.returns
  have hts := atoms_spec (ws := (Cond.code y_T_registerName b_T_registerName 1 (some (.object "java/lang/String")) :: WT)) B.pre
  have hT : ∀ w ∈ WT, w.before _ s = true := fun w h => hts w (inC w h)
  have hown : s.vm.findClass R_T = some m.cls := findClass_of_methodNamed B.named
  have hlocks := B.notSynchronized
  have hS : va_S no s.heap s.heap [] := va_S.rf
  have S : CallFix p m c b_T_registerName 1 s _ (Cond.code y_T_registerName b_T_registerName 1 (some (.object "java/lang/String")) :: WT) R_T := ⟨hx, hb, hml, hown, hts⟩
  have hl := lv_entry ([.int x0]) (n := 1) (Nat.le_of_ble_eq_true rfl)
  rw [lg_entry_eq]
  generalize (lg_sl ([.int x0]) ++ List.replicate (1 - (lg_sl ([.int x0])).length) Slot.unset).toArray = ls at hl ⊢
  have hl : lv_has ls 1 [(0, .int x0)] := hl
  refine lv_iload_n hx hb d_T_registerName_0 rfl (lv_at hl 0 rfl) ?_
  by_cases c_1 : x0 = 0
  · refine lv_tableIn (off := 139) (tgt := 140) hx hb d_T_registerName_1 (by rw [c_1]; decide) (by rw [c_1]; decide) (by rw [c_1]; decide) (by decide) ?_
    refine va_ldcS hx hb hown (hC.2.2.1 3 (by decide)) d_T_registerName_140 ?_
    exact W.aret (v := .ref (adK 3)) hx hb hr (Or.inl ⟨_, rfl⟩) (Or.inr ⟨_, rfl⟩) (fun t ht hW => ⟨3, rfl, by rw [f_T_registerName, if_pos c_1], ht⟩) (fun _ h => by cases h) d_T_registerName_142
  · by_cases c_2 : x0 = 1
    · refine lv_tableIn (off := 142) (tgt := 143) hx hb d_T_registerName_1 (by rw [c_2]; decide) (by rw [c_2]; decide) (by rw [c_2]; decide) (by decide) ?_
      refine va_ldcS hx hb hown (hC.2.2.1 4 (by decide)) d_T_registerName_143 ?_
      exact W.aret (v := .ref (adK 4)) hx hb hr (Or.inl ⟨_, rfl⟩) (Or.inr ⟨_, rfl⟩) (fun t ht hW => ⟨4, rfl, by rw [f_T_registerName, if_neg c_1, if_pos c_2], ht⟩) (fun _ h => by cases h) d_T_registerName_145
    · by_cases c_3 : x0 = 2
      · refine lv_tableIn (off := 145) (tgt := 146) hx hb d_T_registerName_1 (by rw [c_3]; decide) (by rw [c_3]; decide) (by rw [c_3]; decide) (by decide) ?_
        refine va_ldcS hx hb hown (hC.2.2.1 5 (by decide)) d_T_registerName_146 ?_
        exact W.aret (v := .ref (adK 5)) hx hb hr (Or.inl ⟨_, rfl⟩) (Or.inr ⟨_, rfl⟩) (fun t ht hW => ⟨5, rfl, by rw [f_T_registerName, if_neg c_1, if_neg c_2, if_pos c_3], ht⟩) (fun _ h => by cases h) d_T_registerName_148
      · by_cases c_4 : x0 = 3
        · refine lv_tableIn (off := 148) (tgt := 149) hx hb d_T_registerName_1 (by rw [c_4]; decide) (by rw [c_4]; decide) (by rw [c_4]; decide) (by decide) ?_
          refine va_ldcS hx hb hown (hC.2.2.1 6 (by decide)) d_T_registerName_149 ?_
          exact W.aret (v := .ref (adK 6)) hx hb hr (Or.inl ⟨_, rfl⟩) (Or.inr ⟨_, rfl⟩) (fun t ht hW => ⟨6, rfl, by rw [f_T_registerName, if_neg c_1, if_neg c_2, if_neg c_3, if_pos c_4], ht⟩) (fun _ h => by cases h) d_T_registerName_151
        · by_cases c_5 : x0 = 4
          · refine lv_tableIn (off := 151) (tgt := 152) hx hb d_T_registerName_1 (by rw [c_5]; decide) (by rw [c_5]; decide) (by rw [c_5]; decide) (by decide) ?_
            refine va_ldcS hx hb hown (hC.2.2.1 7 (by decide)) d_T_registerName_152 ?_
            exact W.aret (v := .ref (adK 7)) hx hb hr (Or.inl ⟨_, rfl⟩) (Or.inr ⟨_, rfl⟩) (fun t ht hW => ⟨7, rfl, by rw [f_T_registerName, if_neg c_1, if_neg c_2, if_neg c_3, if_neg c_4, if_pos c_5], ht⟩) (fun _ h => by cases h) d_T_registerName_154
          · by_cases c_6 : x0 = 5
            · refine lv_tableIn (off := 154) (tgt := 155) hx hb d_T_registerName_1 (by rw [c_6]; decide) (by rw [c_6]; decide) (by rw [c_6]; decide) (by decide) ?_
              refine va_ldcS hx hb hown (hC.2.2.1 8 (by decide)) d_T_registerName_155 ?_
              exact W.aret (v := .ref (adK 8)) hx hb hr (Or.inl ⟨_, rfl⟩) (Or.inr ⟨_, rfl⟩) (fun t ht hW => ⟨8, rfl, by rw [f_T_registerName, if_neg c_1, if_neg c_2, if_neg c_3, if_neg c_4, if_neg c_5, if_pos c_6], ht⟩) (fun _ h => by cases h) d_T_registerName_157
            · by_cases c_7 : x0 = 6
              · refine lv_tableIn (off := 157) (tgt := 158) hx hb d_T_registerName_1 (by rw [c_7]; decide) (by rw [c_7]; decide) (by rw [c_7]; decide) (by decide) ?_
                refine va_ldcS hx hb hown (hC.2.2.1 9 (by decide)) d_T_registerName_158 ?_
                exact W.aret (v := .ref (adK 9)) hx hb hr (Or.inl ⟨_, rfl⟩) (Or.inr ⟨_, rfl⟩) (fun t ht hW => ⟨9, rfl, by rw [f_T_registerName, if_neg c_1, if_neg c_2, if_neg c_3, if_neg c_4, if_neg c_5, if_neg c_6, if_pos c_7], ht⟩) (fun _ h => by cases h) d_T_registerName_160
              · by_cases c_8 : x0 = 7
                · refine lv_tableIn (off := 160) (tgt := 161) hx hb d_T_registerName_1 (by rw [c_8]; decide) (by rw [c_8]; decide) (by rw [c_8]; decide) (by decide) ?_
                  refine va_ldcS hx hb hown (hC.2.2.1 10 (by decide)) d_T_registerName_161 ?_
                  exact W.aret (v := .ref (adK 10)) hx hb hr (Or.inl ⟨_, rfl⟩) (Or.inr ⟨_, rfl⟩) (fun t ht hW => ⟨10, rfl, by rw [f_T_registerName, if_neg c_1, if_neg c_2, if_neg c_3, if_neg c_4, if_neg c_5, if_neg c_6, if_neg c_7, if_pos c_8], ht⟩) (fun _ h => by cases h) d_T_registerName_163
                · by_cases c_9 : x0 = 8
                  · refine lv_tableIn (off := 163) (tgt := 164) hx hb d_T_registerName_1 (by rw [c_9]; decide) (by rw [c_9]; decide) (by rw [c_9]; decide) (by decide) ?_
                    refine va_ldcS hx hb hown (hC.2.2.1 11 (by decide)) d_T_registerName_164 ?_
                    exact W.aret (v := .ref (adK 11)) hx hb hr (Or.inl ⟨_, rfl⟩) (Or.inr ⟨_, rfl⟩) (fun t ht hW => ⟨11, rfl, by rw [f_T_registerName, if_neg c_1, if_neg c_2, if_neg c_3, if_neg c_4, if_neg c_5, if_neg c_6, if_neg c_7, if_neg c_8, if_pos c_9], ht⟩) (fun _ h => by cases h) d_T_registerName_166
                  · by_cases c_10 : x0 = 9
                    · refine lv_tableIn (off := 166) (tgt := 167) hx hb d_T_registerName_1 (by rw [c_10]; decide) (by rw [c_10]; decide) (by rw [c_10]; decide) (by decide) ?_
                      refine va_ldcS hx hb hown (hC.2.2.1 12 (by decide)) d_T_registerName_167 ?_
                      exact W.aret (v := .ref (adK 12)) hx hb hr (Or.inl ⟨_, rfl⟩) (Or.inr ⟨_, rfl⟩) (fun t ht hW => ⟨12, rfl, by rw [f_T_registerName, if_neg c_1, if_neg c_2, if_neg c_3, if_neg c_4, if_neg c_5, if_neg c_6, if_neg c_7, if_neg c_8, if_neg c_9, if_pos c_10], ht⟩) (fun _ h => by cases h) d_T_registerName_169
                    · by_cases c_11 : x0 = 10
                      · refine lv_tableIn (off := 169) (tgt := 170) hx hb d_T_registerName_1 (by rw [c_11]; decide) (by rw [c_11]; decide) (by rw [c_11]; decide) (by decide) ?_
                        refine va_ldcS hx hb hown (hC.2.2.1 13 (by decide)) d_T_registerName_170 ?_
                        exact W.aret (v := .ref (adK 13)) hx hb hr (Or.inl ⟨_, rfl⟩) (Or.inr ⟨_, rfl⟩) (fun t ht hW => ⟨13, rfl, by rw [f_T_registerName, if_neg c_1, if_neg c_2, if_neg c_3, if_neg c_4, if_neg c_5, if_neg c_6, if_neg c_7, if_neg c_8, if_neg c_9, if_neg c_10, if_pos c_11], ht⟩) (fun _ h => by cases h) d_T_registerName_172
                      · by_cases c_12 : x0 = 11
                        · refine lv_tableIn (off := 172) (tgt := 173) hx hb d_T_registerName_1 (by rw [c_12]; decide) (by rw [c_12]; decide) (by rw [c_12]; decide) (by decide) ?_
                          refine va_ldcS hx hb hown (hC.2.2.1 14 (by decide)) d_T_registerName_173 ?_
                          exact W.aret (v := .ref (adK 14)) hx hb hr (Or.inl ⟨_, rfl⟩) (Or.inr ⟨_, rfl⟩) (fun t ht hW => ⟨14, rfl, by rw [f_T_registerName, if_neg c_1, if_neg c_2, if_neg c_3, if_neg c_4, if_neg c_5, if_neg c_6, if_neg c_7, if_neg c_8, if_neg c_9, if_neg c_10, if_neg c_11, if_pos c_12], ht⟩) (fun _ h => by cases h) d_T_registerName_175
                        · by_cases c_13 : x0 = 12
                          · refine lv_tableIn (off := 175) (tgt := 176) hx hb d_T_registerName_1 (by rw [c_13]; decide) (by rw [c_13]; decide) (by rw [c_13]; decide) (by decide) ?_
                            refine va_ldcS hx hb hown (hC.2.2.1 15 (by decide)) d_T_registerName_176 ?_
                            exact W.aret (v := .ref (adK 15)) hx hb hr (Or.inl ⟨_, rfl⟩) (Or.inr ⟨_, rfl⟩) (fun t ht hW => ⟨15, rfl, by rw [f_T_registerName, if_neg c_1, if_neg c_2, if_neg c_3, if_neg c_4, if_neg c_5, if_neg c_6, if_neg c_7, if_neg c_8, if_neg c_9, if_neg c_10, if_neg c_11, if_neg c_12, if_pos c_13], ht⟩) (fun _ h => by cases h) d_T_registerName_178
                          · by_cases c_14 : x0 = 13
                            · refine lv_tableIn (off := 178) (tgt := 179) hx hb d_T_registerName_1 (by rw [c_14]; decide) (by rw [c_14]; decide) (by rw [c_14]; decide) (by decide) ?_
                              refine va_ldcS hx hb hown (hC.2.2.1 16 (by decide)) d_T_registerName_179 ?_
                              exact W.aret (v := .ref (adK 16)) hx hb hr (Or.inl ⟨_, rfl⟩) (Or.inr ⟨_, rfl⟩) (fun t ht hW => ⟨16, rfl, by rw [f_T_registerName, if_neg c_1, if_neg c_2, if_neg c_3, if_neg c_4, if_neg c_5, if_neg c_6, if_neg c_7, if_neg c_8, if_neg c_9, if_neg c_10, if_neg c_11, if_neg c_12, if_neg c_13, if_pos c_14], ht⟩) (fun _ h => by cases h) d_T_registerName_181
                            · by_cases c_15 : x0 = 14
                              · refine lv_tableIn (off := 181) (tgt := 182) hx hb d_T_registerName_1 (by rw [c_15]; decide) (by rw [c_15]; decide) (by rw [c_15]; decide) (by decide) ?_
                                refine va_ldcS hx hb hown (hC.2.2.1 17 (by decide)) d_T_registerName_182 ?_
                                exact W.aret (v := .ref (adK 17)) hx hb hr (Or.inl ⟨_, rfl⟩) (Or.inr ⟨_, rfl⟩) (fun t ht hW => ⟨17, rfl, by rw [f_T_registerName, if_neg c_1, if_neg c_2, if_neg c_3, if_neg c_4, if_neg c_5, if_neg c_6, if_neg c_7, if_neg c_8, if_neg c_9, if_neg c_10, if_neg c_11, if_neg c_12, if_neg c_13, if_neg c_14, if_pos c_15], ht⟩) (fun _ h => by cases h) d_T_registerName_184
                              · by_cases c_16 : x0 = 15
                                · refine lv_tableIn (off := 184) (tgt := 185) hx hb d_T_registerName_1 (by rw [c_16]; decide) (by rw [c_16]; decide) (by rw [c_16]; decide) (by decide) ?_
                                  refine va_ldcS hx hb hown (hC.2.2.1 18 (by decide)) d_T_registerName_185 ?_
                                  exact W.aret (v := .ref (adK 18)) hx hb hr (Or.inl ⟨_, rfl⟩) (Or.inr ⟨_, rfl⟩) (fun t ht hW => ⟨18, rfl, by rw [f_T_registerName, if_neg c_1, if_neg c_2, if_neg c_3, if_neg c_4, if_neg c_5, if_neg c_6, if_neg c_7, if_neg c_8, if_neg c_9, if_neg c_10, if_neg c_11, if_neg c_12, if_neg c_13, if_neg c_14, if_neg c_15, if_pos c_16], ht⟩) (fun _ h => by cases h) d_T_registerName_187
                                · by_cases c_17 : x0 = 16
                                  · refine lv_tableIn (off := 187) (tgt := 188) hx hb d_T_registerName_1 (by rw [c_17]; decide) (by rw [c_17]; decide) (by rw [c_17]; decide) (by decide) ?_
                                    refine va_ldcS hx hb hown (hC.2.2.1 19 (by decide)) d_T_registerName_188 ?_
                                    exact W.aret (v := .ref (adK 19)) hx hb hr (Or.inl ⟨_, rfl⟩) (Or.inr ⟨_, rfl⟩) (fun t ht hW => ⟨19, rfl, by rw [f_T_registerName, if_neg c_1, if_neg c_2, if_neg c_3, if_neg c_4, if_neg c_5, if_neg c_6, if_neg c_7, if_neg c_8, if_neg c_9, if_neg c_10, if_neg c_11, if_neg c_12, if_neg c_13, if_neg c_14, if_neg c_15, if_neg c_16, if_pos c_17], ht⟩) (fun _ h => by cases h) d_T_registerName_190
                                  · by_cases c_18 : x0 = 17
                                    · refine lv_tableIn (off := 190) (tgt := 191) hx hb d_T_registerName_1 (by rw [c_18]; decide) (by rw [c_18]; decide) (by rw [c_18]; decide) (by decide) ?_
                                      refine va_ldcS hx hb hown (hC.2.2.1 20 (by decide)) d_T_registerName_191 ?_
                                      exact W.aret (v := .ref (adK 20)) hx hb hr (Or.inl ⟨_, rfl⟩) (Or.inr ⟨_, rfl⟩) (fun t ht hW => ⟨20, rfl, by rw [f_T_registerName, if_neg c_1, if_neg c_2, if_neg c_3, if_neg c_4, if_neg c_5, if_neg c_6, if_neg c_7, if_neg c_8, if_neg c_9, if_neg c_10, if_neg c_11, if_neg c_12, if_neg c_13, if_neg c_14, if_neg c_15, if_neg c_16, if_neg c_17, if_pos c_18], ht⟩) (fun _ h => by cases h) d_T_registerName_193
                                    · by_cases c_19 : x0 = 18
                                      · refine lv_tableIn (off := 193) (tgt := 194) hx hb d_T_registerName_1 (by rw [c_19]; decide) (by rw [c_19]; decide) (by rw [c_19]; decide) (by decide) ?_
                                        refine va_ldcS hx hb hown (hC.2.2.1 21 (by decide)) d_T_registerName_194 ?_
                                        exact W.aret (v := .ref (adK 21)) hx hb hr (Or.inl ⟨_, rfl⟩) (Or.inr ⟨_, rfl⟩) (fun t ht hW => ⟨21, rfl, by rw [f_T_registerName, if_neg c_1, if_neg c_2, if_neg c_3, if_neg c_4, if_neg c_5, if_neg c_6, if_neg c_7, if_neg c_8, if_neg c_9, if_neg c_10, if_neg c_11, if_neg c_12, if_neg c_13, if_neg c_14, if_neg c_15, if_neg c_16, if_neg c_17, if_neg c_18, if_pos c_19], ht⟩) (fun _ h => by cases h) d_T_registerName_196
                                      · by_cases c_20 : x0 = 19
                                        · refine lv_tableIn (off := 196) (tgt := 197) hx hb d_T_registerName_1 (by rw [c_20]; decide) (by rw [c_20]; decide) (by rw [c_20]; decide) (by decide) ?_
                                          refine va_ldcS hx hb hown (hC.2.2.1 22 (by decide)) d_T_registerName_197 ?_
                                          exact W.aret (v := .ref (adK 22)) hx hb hr (Or.inl ⟨_, rfl⟩) (Or.inr ⟨_, rfl⟩) (fun t ht hW => ⟨22, rfl, by rw [f_T_registerName, if_neg c_1, if_neg c_2, if_neg c_3, if_neg c_4, if_neg c_5, if_neg c_6, if_neg c_7, if_neg c_8, if_neg c_9, if_neg c_10, if_neg c_11, if_neg c_12, if_neg c_13, if_neg c_14, if_neg c_15, if_neg c_16, if_neg c_17, if_neg c_18, if_neg c_19, if_pos c_20], ht⟩) (fun _ h => by cases h) d_T_registerName_199
                                        · by_cases c_21 : x0 = 20
                                          · refine lv_tableIn (off := 199) (tgt := 200) hx hb d_T_registerName_1 (by rw [c_21]; decide) (by rw [c_21]; decide) (by rw [c_21]; decide) (by decide) ?_
                                            refine va_ldcS hx hb hown (hC.2.2.1 23 (by decide)) d_T_registerName_200 ?_
                                            exact W.aret (v := .ref (adK 23)) hx hb hr (Or.inl ⟨_, rfl⟩) (Or.inr ⟨_, rfl⟩) (fun t ht hW => ⟨23, rfl, by rw [f_T_registerName, if_neg c_1, if_neg c_2, if_neg c_3, if_neg c_4, if_neg c_5, if_neg c_6, if_neg c_7, if_neg c_8, if_neg c_9, if_neg c_10, if_neg c_11, if_neg c_12, if_neg c_13, if_neg c_14, if_neg c_15, if_neg c_16, if_neg c_17, if_neg c_18, if_neg c_19, if_neg c_20, if_pos c_21], ht⟩) (fun _ h => by cases h) d_T_registerName_202
                                          · by_cases c_22 : x0 = 21
                                            · refine lv_tableIn (off := 202) (tgt := 203) hx hb d_T_registerName_1 (by rw [c_22]; decide) (by rw [c_22]; decide) (by rw [c_22]; decide) (by decide) ?_
                                              refine va_ldcS hx hb hown (hC.2.2.1 24 (by decide)) d_T_registerName_203 ?_
                                              exact W.aret (v := .ref (adK 24)) hx hb hr (Or.inl ⟨_, rfl⟩) (Or.inr ⟨_, rfl⟩) (fun t ht hW => ⟨24, rfl, by rw [f_T_registerName, if_neg c_1, if_neg c_2, if_neg c_3, if_neg c_4, if_neg c_5, if_neg c_6, if_neg c_7, if_neg c_8, if_neg c_9, if_neg c_10, if_neg c_11, if_neg c_12, if_neg c_13, if_neg c_14, if_neg c_15, if_neg c_16, if_neg c_17, if_neg c_18, if_neg c_19, if_neg c_20, if_neg c_21, if_pos c_22], ht⟩) (fun _ h => by cases h) d_T_registerName_205
                                            · by_cases c_23 : x0 = 22
                                              · refine lv_tableIn (off := 205) (tgt := 206) hx hb d_T_registerName_1 (by rw [c_23]; decide) (by rw [c_23]; decide) (by rw [c_23]; decide) (by decide) ?_
                                                refine va_ldcS hx hb hown (hC.2.2.1 25 (by decide)) d_T_registerName_206 ?_
                                                exact W.aret (v := .ref (adK 25)) hx hb hr (Or.inl ⟨_, rfl⟩) (Or.inr ⟨_, rfl⟩) (fun t ht hW => ⟨25, rfl, by rw [f_T_registerName, if_neg c_1, if_neg c_2, if_neg c_3, if_neg c_4, if_neg c_5, if_neg c_6, if_neg c_7, if_neg c_8, if_neg c_9, if_neg c_10, if_neg c_11, if_neg c_12, if_neg c_13, if_neg c_14, if_neg c_15, if_neg c_16, if_neg c_17, if_neg c_18, if_neg c_19, if_neg c_20, if_neg c_21, if_neg c_22, if_pos c_23], ht⟩) (fun _ h => by cases h) d_T_registerName_208
                                              · by_cases c_24 : x0 = 23
                                                · refine lv_tableIn (off := 208) (tgt := 209) hx hb d_T_registerName_1 (by rw [c_24]; decide) (by rw [c_24]; decide) (by rw [c_24]; decide) (by decide) ?_
                                                  refine va_ldcS hx hb hown (hC.2.2.1 26 (by decide)) d_T_registerName_209 ?_
                                                  exact W.aret (v := .ref (adK 26)) hx hb hr (Or.inl ⟨_, rfl⟩) (Or.inr ⟨_, rfl⟩) (fun t ht hW => ⟨26, rfl, by rw [f_T_registerName, if_neg c_1, if_neg c_2, if_neg c_3, if_neg c_4, if_neg c_5, if_neg c_6, if_neg c_7, if_neg c_8, if_neg c_9, if_neg c_10, if_neg c_11, if_neg c_12, if_neg c_13, if_neg c_14, if_neg c_15, if_neg c_16, if_neg c_17, if_neg c_18, if_neg c_19, if_neg c_20, if_neg c_21, if_neg c_22, if_neg c_23, if_pos c_24], ht⟩) (fun _ h => by cases h) d_T_registerName_211
                                                · by_cases c_25 : x0 = 24
                                                  · refine lv_tableIn (off := 211) (tgt := 212) hx hb d_T_registerName_1 (by rw [c_25]; decide) (by rw [c_25]; decide) (by rw [c_25]; decide) (by decide) ?_
                                                    refine va_ldcS hx hb hown (hC.2.2.1 27 (by decide)) d_T_registerName_212 ?_
                                                    exact W.aret (v := .ref (adK 27)) hx hb hr (Or.inl ⟨_, rfl⟩) (Or.inr ⟨_, rfl⟩) (fun t ht hW => ⟨27, rfl, by rw [f_T_registerName, if_neg c_1, if_neg c_2, if_neg c_3, if_neg c_4, if_neg c_5, if_neg c_6, if_neg c_7, if_neg c_8, if_neg c_9, if_neg c_10, if_neg c_11, if_neg c_12, if_neg c_13, if_neg c_14, if_neg c_15, if_neg c_16, if_neg c_17, if_neg c_18, if_neg c_19, if_neg c_20, if_neg c_21, if_neg c_22, if_neg c_23, if_neg c_24, if_pos c_25], ht⟩) (fun _ h => by cases h) d_T_registerName_214
                                                  · by_cases c_26 : x0 = 25
                                                    · refine lv_tableIn (off := 214) (tgt := 215) hx hb d_T_registerName_1 (by rw [c_26]; decide) (by rw [c_26]; decide) (by rw [c_26]; decide) (by decide) ?_
                                                      refine va_ldcS hx hb hown (hC.2.2.1 28 (by decide)) d_T_registerName_215 ?_
                                                      exact W.aret (v := .ref (adK 28)) hx hb hr (Or.inl ⟨_, rfl⟩) (Or.inr ⟨_, rfl⟩) (fun t ht hW => ⟨28, rfl, by rw [f_T_registerName, if_neg c_1, if_neg c_2, if_neg c_3, if_neg c_4, if_neg c_5, if_neg c_6, if_neg c_7, if_neg c_8, if_neg c_9, if_neg c_10, if_neg c_11, if_neg c_12, if_neg c_13, if_neg c_14, if_neg c_15, if_neg c_16, if_neg c_17, if_neg c_18, if_neg c_19, if_neg c_20, if_neg c_21, if_neg c_22, if_neg c_23, if_neg c_24, if_neg c_25, if_pos c_26], ht⟩) (fun _ h => by cases h) d_T_registerName_217
                                                    · by_cases c_27 : x0 = 26
                                                      · refine lv_tableIn (off := 217) (tgt := 218) hx hb d_T_registerName_1 (by rw [c_27]; decide) (by rw [c_27]; decide) (by rw [c_27]; decide) (by decide) ?_
                                                        refine va_ldcS hx hb hown (hC.2.2.1 29 (by decide)) d_T_registerName_218 ?_
                                                        exact W.aret (v := .ref (adK 29)) hx hb hr (Or.inl ⟨_, rfl⟩) (Or.inr ⟨_, rfl⟩) (fun t ht hW => ⟨29, rfl, by rw [f_T_registerName, if_neg c_1, if_neg c_2, if_neg c_3, if_neg c_4, if_neg c_5, if_neg c_6, if_neg c_7, if_neg c_8, if_neg c_9, if_neg c_10, if_neg c_11, if_neg c_12, if_neg c_13, if_neg c_14, if_neg c_15, if_neg c_16, if_neg c_17, if_neg c_18, if_neg c_19, if_neg c_20, if_neg c_21, if_neg c_22, if_neg c_23, if_neg c_24, if_neg c_25, if_neg c_26, if_pos c_27], ht⟩) (fun _ h => by cases h) d_T_registerName_220
                                                      · by_cases c_28 : x0 = 27
                                                        · refine lv_tableIn (off := 220) (tgt := 221) hx hb d_T_registerName_1 (by rw [c_28]; decide) (by rw [c_28]; decide) (by rw [c_28]; decide) (by decide) ?_
                                                          refine va_ldcS hx hb hown (hC.2.2.1 30 (by decide)) d_T_registerName_221 ?_
                                                          exact W.aret (v := .ref (adK 30)) hx hb hr (Or.inl ⟨_, rfl⟩) (Or.inr ⟨_, rfl⟩) (fun t ht hW => ⟨30, rfl, by rw [f_T_registerName, if_neg c_1, if_neg c_2, if_neg c_3, if_neg c_4, if_neg c_5, if_neg c_6, if_neg c_7, if_neg c_8, if_neg c_9, if_neg c_10, if_neg c_11, if_neg c_12, if_neg c_13, if_neg c_14, if_neg c_15, if_neg c_16, if_neg c_17, if_neg c_18, if_neg c_19, if_neg c_20, if_neg c_21, if_neg c_22, if_neg c_23, if_neg c_24, if_neg c_25, if_neg c_26, if_neg c_27, if_pos c_28], ht⟩) (fun _ h => by cases h) d_T_registerName_223
                                                        · by_cases c_29 : x0 = 28
                                                          · refine lv_tableIn (off := 223) (tgt := 224) hx hb d_T_registerName_1 (by rw [c_29]; decide) (by rw [c_29]; decide) (by rw [c_29]; decide) (by decide) ?_
                                                            refine va_ldcS hx hb hown (hC.2.2.1 31 (by decide)) d_T_registerName_224 ?_
                                                            exact W.aret (v := .ref (adK 31)) hx hb hr (Or.inl ⟨_, rfl⟩) (Or.inr ⟨_, rfl⟩) (fun t ht hW => ⟨31, rfl, by rw [f_T_registerName, if_neg c_1, if_neg c_2, if_neg c_3, if_neg c_4, if_neg c_5, if_neg c_6, if_neg c_7, if_neg c_8, if_neg c_9, if_neg c_10, if_neg c_11, if_neg c_12, if_neg c_13, if_neg c_14, if_neg c_15, if_neg c_16, if_neg c_17, if_neg c_18, if_neg c_19, if_neg c_20, if_neg c_21, if_neg c_22, if_neg c_23, if_neg c_24, if_neg c_25, if_neg c_26, if_neg c_27, if_neg c_28, if_pos c_29], ht⟩) (fun _ h => by cases h) d_T_registerName_226
                                                          · by_cases c_30 : x0 = 29
                                                            · refine lv_tableIn (off := 226) (tgt := 227) hx hb d_T_registerName_1 (by rw [c_30]; decide) (by rw [c_30]; decide) (by rw [c_30]; decide) (by decide) ?_
                                                              refine va_ldcS hx hb hown (hC.2.2.1 32 (by decide)) d_T_registerName_227 ?_
                                                              exact W.aret (v := .ref (adK 32)) hx hb hr (Or.inl ⟨_, rfl⟩) (Or.inr ⟨_, rfl⟩) (fun t ht hW => ⟨32, rfl, by rw [f_T_registerName, if_neg c_1, if_neg c_2, if_neg c_3, if_neg c_4, if_neg c_5, if_neg c_6, if_neg c_7, if_neg c_8, if_neg c_9, if_neg c_10, if_neg c_11, if_neg c_12, if_neg c_13, if_neg c_14, if_neg c_15, if_neg c_16, if_neg c_17, if_neg c_18, if_neg c_19, if_neg c_20, if_neg c_21, if_neg c_22, if_neg c_23, if_neg c_24, if_neg c_25, if_neg c_26, if_neg c_27, if_neg c_28, if_neg c_29, if_pos c_30], ht⟩) (fun _ h => by cases h) d_T_registerName_229
                                                            · by_cases c_31 : x0 = 30
                                                              · refine lv_tableIn (off := 229) (tgt := 230) hx hb d_T_registerName_1 (by rw [c_31]; decide) (by rw [c_31]; decide) (by rw [c_31]; decide) (by decide) ?_
                                                                refine va_ldcS hx hb hown (hC.2.2.1 33 (by decide)) d_T_registerName_230 ?_
                                                                exact W.aret (v := .ref (adK 33)) hx hb hr (Or.inl ⟨_, rfl⟩) (Or.inr ⟨_, rfl⟩) (fun t ht hW => ⟨33, rfl, by rw [f_T_registerName, if_neg c_1, if_neg c_2, if_neg c_3, if_neg c_4, if_neg c_5, if_neg c_6, if_neg c_7, if_neg c_8, if_neg c_9, if_neg c_10, if_neg c_11, if_neg c_12, if_neg c_13, if_neg c_14, if_neg c_15, if_neg c_16, if_neg c_17, if_neg c_18, if_neg c_19, if_neg c_20, if_neg c_21, if_neg c_22, if_neg c_23, if_neg c_24, if_neg c_25, if_neg c_26, if_neg c_27, if_neg c_28, if_neg c_29, if_neg c_30, if_pos c_31], ht⟩) (fun _ h => by cases h) d_T_registerName_232
                                                              · refine lv_tableOut (tgt := 233) hx hb d_T_registerName_1 (by have n0 := lv_neT c_1 (show (0 : Int32).toInt = 0 by decide); have n1 := lv_neT c_2 (show (1 : Int32).toInt = 1 by decide); have n2 := lv_neT c_3 (show (2 : Int32).toInt = 2 by decide); have n3 := lv_neT c_4 (show (3 : Int32).toInt = 3 by decide); have n4 := lv_neT c_5 (show (4 : Int32).toInt = 4 by decide); have n5 := lv_neT c_6 (show (5 : Int32).toInt = 5 by decide); have n6 := lv_neT c_7 (show (6 : Int32).toInt = 6 by decide); have n7 := lv_neT c_8 (show (7 : Int32).toInt = 7 by decide); have n8 := lv_neT c_9 (show (8 : Int32).toInt = 8 by decide); have n9 := lv_neT c_10 (show (9 : Int32).toInt = 9 by decide); have n10 := lv_neT c_11 (show (10 : Int32).toInt = 10 by decide); have n11 := lv_neT c_12 (show (11 : Int32).toInt = 11 by decide); have n12 := lv_neT c_13 (show (12 : Int32).toInt = 12 by decide); have n13 := lv_neT c_14 (show (13 : Int32).toInt = 13 by decide); have n14 := lv_neT c_15 (show (14 : Int32).toInt = 14 by decide); have n15 := lv_neT c_16 (show (15 : Int32).toInt = 15 by decide); have n16 := lv_neT c_17 (show (16 : Int32).toInt = 16 by decide); have n17 := lv_neT c_18 (show (17 : Int32).toInt = 17 by decide); have n18 := lv_neT c_19 (show (18 : Int32).toInt = 18 by decide); have n19 := lv_neT c_20 (show (19 : Int32).toInt = 19 by decide); have n20 := lv_neT c_21 (show (20 : Int32).toInt = 20 by decide); have n21 := lv_neT c_22 (show (21 : Int32).toInt = 21 by decide); have n22 := lv_neT c_23 (show (22 : Int32).toInt = 22 by decide); have n23 := lv_neT c_24 (show (23 : Int32).toInt = 23 by decide); have n24 := lv_neT c_25 (show (24 : Int32).toInt = 24 by decide); have n25 := lv_neT c_26 (show (25 : Int32).toInt = 25 by decide); have n26 := lv_neT c_27 (show (26 : Int32).toInt = 26 by decide); have n27 := lv_neT c_28 (show (27 : Int32).toInt = 27 by decide); have n28 := lv_neT c_29 (show (28 : Int32).toInt = 28 by decide); have n29 := lv_neT c_30 (show (29 : Int32).toInt = 29 by decide); have n30 := lv_neT c_31 (show (30 : Int32).toInt = 30 by decide); omega) (by decide) ?_
                                                                refine va_ldcS hx hb hown (hC.2.2.1 34 (by decide)) d_T_registerName_233 ?_
                                                                exact W.aret (v := .ref (adK 34)) hx hb hr (Or.inl ⟨_, rfl⟩) (Or.inr ⟨_, rfl⟩) (fun t ht hW => ⟨34, rfl, by rw [f_T_registerName, if_neg c_1, if_neg c_2, if_neg c_3, if_neg c_4, if_neg c_5, if_neg c_6, if_neg c_7, if_neg c_8, if_neg c_9, if_neg c_10, if_neg c_11, if_neg c_12, if_neg c_13, if_neg c_14, if_neg c_15, if_neg c_16, if_neg c_17, if_neg c_18, if_neg c_19, if_neg c_20, if_neg c_21, if_neg c_22, if_neg c_23, if_neg c_24, if_neg c_25, if_neg c_26, if_neg c_27, if_neg c_28, if_neg c_29, if_neg c_30, if_neg c_31], ht⟩) (fun _ h => by cases h) d_T_registerName_235
theorem call_T_registerName {p : Program} {l : Launch} {e : Env} {R : Room} {s : State} {m : MethodId} {args : Array Value} {below : List Frame} {meth : Method} {c : Code} {H : Heap} {locs : List Loc} {cells slots : Nat} {Q : State → Prop} {cc : ByteArray} {pc nL idx : Nat} {ls : Array Slot} {rest : List Value} {Ts : List Cond} {own : String} {adE adK adV : Nat → Nat} {A0 : Nat → Prop} {x0 : Int32} (S : CallFix p m c cc nL s args Ts own) (hTs : ∀ w ∈ WT, w ∈ Ts) (h1 : Cond.methodLink own idx y_T_registerName ∈ WT) (hR : 0 + 1 ≤ R.frames ∧ 8 + (1 + 11) + 0 ≤ R.locals) (hsz : ls.size = nL) (hrm : (rest.map fun v => v.category).sum ≤ 8) (hdg : decode cc pc = .ok (.invokestatic idx, 3)) (hc : cells ≤ R.cells ∧ slots ≤ R.slots) (hC : cx adE adK adV A0 s s.heap) (hS : va_S A0 s.heap H locs) (kk : W p l e R s m args below meth c H locs cells slots Q (F0 m (pc + 3) ls (.ref (adK (f_T_registerName x0)) :: rest))) : W p l e R s m args below meth c H locs cells slots Q (F0 m pc ls (.int x0 :: rest)) :=
  va_csr (va_Run.run (va_runS (As := [.int x0]) (rest := rest) S (c_T_registerName l adE adK adV x0) (va_cwS 1 S.2.2.2.2 (gS hTs h1 m_479 m_51 m_480) rfl rfl rfl (by decide +kernel) hR) ⟨fun a U g mk q => ⟨q.1, q.2.blind⟩, fun U hU hW => ⟨rfl, hC.at hS no_in hU hW⟩⟩ rfl rfl hsz rfl (lv_room hrm) hdg hc)) (fun r e => by subst e; exact kk)
