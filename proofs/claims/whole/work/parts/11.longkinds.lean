def f_L_load (x0 : Int32) : Nat :=
  if x0 = 0 then
    29
  else
    if x0 = 1 then
      30
    else
      if x0 = 2 then
        31
      else
        if x0 = 4 then
          32
        else
          if x0 = 5 then
            33
          else
            0
set_option maxRecDepth 100000 in
set_option maxHeartbeats 4000000 in
theorem c_L_load (l : Launch) (adE adK adV : Nat → Nat) (x0 : Int32) : Met l y_L_load (Cond.code y_L_load b_L_load 1 (some (.object "InstructionReader$Kind")) :: WT) ({ frames := 0, cells := 0, slots := 0, locals := 0 }) (va_Pc [.int x0] (fun U => cx adE adK adV no U U.heap)) (va_Se adE (fun r => r = some (f_L_load x0))) 0 0 no := by
  refine va_MetF (cc := b_L_load) (maxL := 1) (ret := (some (.object "InstructionReader$Kind"))) (by decide +kernel) rfl ?_
  intro p e s m args below meth c s₁ B hml hv
  obtain ⟨rfl, hC⟩ := hv
  have hx := B.exec
  have hb := B.bytes
  have hr := B.returns
  have hts := atoms_spec (ws := (Cond.code y_L_load b_L_load 1 (some (.object "InstructionReader$Kind")) :: WT)) B.pre
  have hT : ∀ w ∈ WT, w.before _ s = true := fun w h => hts w (inC w h)
  have hown : s.vm.findClass R_L = some m.cls := findClass_of_methodNamed B.named
  have hlocks := B.notSynchronized
  have hS : va_S no s.heap s.heap [] := va_S.rf
  have S : CallFix p m c b_L_load 1 s _ (Cond.code y_L_load b_L_load 1 (some (.object "InstructionReader$Kind")) :: WT) R_L := ⟨hx, hb, hml, hown, hts⟩
  have hl := lv_entry ([.int x0]) (n := 1) (Nat.le_of_ble_eq_true rfl)
  rw [lg_entry_eq]
  generalize (lg_sl ([.int x0]) ++ List.replicate (1 - (lg_sl ([.int x0])).length) Slot.unset).toArray = ls at hl ⊢
  have hl : lv_has ls 1 [(0, .int x0)] := hl
  refine lv_iload_n hx hb d_L_load_0 rfl (lv_at hl 0 rfl) ?_
  by_cases c_1 : x0 = 0
  · refine lv_tableIn (off := 39) (tgt := 40) hx hb d_L_load_1 (by rw [c_1]; decide) (by rw [c_1]; decide) (by rw [c_1]; decide) (by decide) ?_
    refine va_gets (v := .ref (adE 29)) hx hb (z_LB hC) hS hown (hT _ m_128) (fun _ h => h) d_L_load_40 ?_
    exact W.aret (v := .ref (adE 29)) hx hb hr (Or.inl ⟨_, rfl⟩) (Or.inr ⟨_, rfl⟩) (fun t ht hW => ⟨some 29, rfl, congrArg some (by rw [f_L_load, if_pos c_1]), ht⟩) (fun _ h => by cases h) d_L_load_43
  · by_cases c_2 : x0 = 1
    · refine lv_tableIn (off := 43) (tgt := 44) hx hb d_L_load_1 (by rw [c_2]; decide) (by rw [c_2]; decide) (by rw [c_2]; decide) (by decide) ?_
      refine va_gets (v := .ref (adE 30)) hx hb (z_LH hC) hS hown (hT _ m_130) (fun _ h => h) d_L_load_44 ?_
      exact W.aret (v := .ref (adE 30)) hx hb hr (Or.inl ⟨_, rfl⟩) (Or.inr ⟨_, rfl⟩) (fun t ht hW => ⟨some 30, rfl, congrArg some (by rw [f_L_load, if_neg c_1, if_pos c_2]), ht⟩) (fun _ h => by cases h) d_L_load_47
    · by_cases c_3 : x0 = 2
      · refine lv_tableIn (off := 47) (tgt := 48) hx hb d_L_load_1 (by rw [c_3]; decide) (by rw [c_3]; decide) (by rw [c_3]; decide) (by decide) ?_
        refine va_gets (v := .ref (adE 31)) hx hb (z_LW hC) hS hown (hT _ m_132) (fun _ h => h) d_L_load_48 ?_
        exact W.aret (v := .ref (adE 31)) hx hb hr (Or.inl ⟨_, rfl⟩) (Or.inr ⟨_, rfl⟩) (fun t ht hW => ⟨some 31, rfl, congrArg some (by rw [f_L_load, if_neg c_1, if_neg c_2, if_pos c_3]), ht⟩) (fun _ h => by cases h) d_L_load_51
      · by_cases c_4 : x0 = 4
        · refine lv_tableIn (off := 51) (tgt := 52) hx hb d_L_load_1 (by rw [c_4]; decide) (by rw [c_4]; decide) (by rw [c_4]; decide) (by decide) ?_
          refine va_gets (v := .ref (adE 32)) hx hb (z_LBU hC) hS hown (hT _ m_134) (fun _ h => h) d_L_load_52 ?_
          exact W.aret (v := .ref (adE 32)) hx hb hr (Or.inl ⟨_, rfl⟩) (Or.inr ⟨_, rfl⟩) (fun t ht hW => ⟨some 32, rfl, congrArg some (by rw [f_L_load, if_neg c_1, if_neg c_2, if_neg c_3, if_pos c_4]), ht⟩) (fun _ h => by cases h) d_L_load_55
        · by_cases c_5 : x0 = 5
          · refine lv_tableIn (off := 55) (tgt := 56) hx hb d_L_load_1 (by rw [c_5]; decide) (by rw [c_5]; decide) (by rw [c_5]; decide) (by decide) ?_
            refine va_gets (v := .ref (adE 33)) hx hb (z_LHU hC) hS hown (hT _ m_136) (fun _ h => h) d_L_load_56 ?_
            exact W.aret (v := .ref (adE 33)) hx hb hr (Or.inl ⟨_, rfl⟩) (Or.inr ⟨_, rfl⟩) (fun t ht hW => ⟨some 33, rfl, congrArg some (by rw [f_L_load, if_neg c_1, if_neg c_2, if_neg c_3, if_neg c_4, if_pos c_5]), ht⟩) (fun _ h => by cases h) d_L_load_59
          · refine tb_out (tgt := 60) hx hb d_L_load_1 (by have n0 := lv_neT c_1 (show (0 : Int32).toInt = 0 from (by decide)); have n1 := lv_neT c_2 (show (1 : Int32).toInt = 1 from (by decide)); have n2 := lv_neT c_3 (show (2 : Int32).toInt = 2 from (by decide)); have n3 := lv_neT c_4 (show (4 : Int32).toInt = 4 from (by decide)); have n4 := lv_neT c_5 (show (5 : Int32).toInt = 5 from (by decide)); intro j hj hi; have key : ∀ j : Nat, j < 6 → j ∈ ([0, 1, 2, 4, 5] : List Nat) ∨ (#[39, 43, 47, 59, 51, 55] : Array Int)[j]? = some 59 := (by decide); exact (key j (by omega)).elim (fun h => absurd h (by simp only [List.mem_cons, List.not_mem_nil, or_false]; omega)) id) (by decide) ?_
            refine va_gets (v := .ref (adE 0)) hx hb (z_WORD hC) hS hown (hT _ m_138) (fun _ h => h) d_L_load_60 ?_
            exact W.aret (v := .ref (adE 0)) hx hb hr (Or.inl ⟨_, rfl⟩) (Or.inr ⟨_, rfl⟩) (fun t ht hW => ⟨some 0, rfl, congrArg some (by rw [f_L_load, if_neg c_1, if_neg c_2, if_neg c_3, if_neg c_4, if_neg c_5]), ht⟩) (fun _ h => by cases h) d_L_load_63
theorem call_L_load {p : Program} {l : Launch} {e : Env} {R : Room} {s : State} {m : MethodId} {args : Array Value} {below : List Frame} {meth : Method} {c : Code} {H : Heap} {locs : List Loc} {cells slots : Nat} {Q : State → Prop} {cc : ByteArray} {pc nL idx : Nat} {ls : Array Slot} {rest : List Value} {Ts : List Cond} {own : String} {adE adK adV : Nat → Nat} {A0 : Nat → Prop} {x0 : Int32} (S : CallFix p m c cc nL s args Ts own) (hTs : ∀ w ∈ WT, w ∈ Ts) (h1 : Cond.methodLink own idx y_L_load ∈ WT) (hR : 0 + 1 ≤ R.frames ∧ 8 + (1 + 11) + 0 ≤ R.locals) (hsz : ls.size = nL) (hrm : (rest.map fun v => v.category).sum ≤ 8) (hdg : decode cc pc = .ok (.invokestatic idx, 3)) (hc : cells ≤ R.cells ∧ slots ≤ R.slots) (hC : cx adE adK adV A0 s s.heap) (hS : va_S A0 s.heap H locs) (kk : W p l e R s m args below meth c H locs cells slots Q (F0 m (pc + 3) ls (.ref (adE (f_L_load x0)) :: rest))) : W p l e R s m args below meth c H locs cells slots Q (F0 m pc ls (.int x0 :: rest)) :=
  va_cse (va_Run.run (va_runS (As := [.int x0]) (rest := rest) S (c_L_load l adE adK adV x0) (va_cwS 1 S.2.2.2.2 (gS hTs h1 m_126 m_53 m_127) rfl rfl rfl (by decide +kernel) hR) ⟨fun a U g mk q => ⟨q.1, q.2.blind⟩, fun U hU hW => ⟨rfl, hC.at hS no_in hU hW⟩⟩ rfl rfl hsz rfl (lv_room hrm) hdg hc)) (fun r e => by subst e; exact kk)

def f_L_alone (x0 : Int32) : Nat :=
  if x0 = 115 then
    66
  else
    if x0 = 4111 then
      65
    else
      if x0 = 1048691 then
        67
      else
        if x0 = 267386895 then
          64
        else
          0
set_option maxRecDepth 100000 in
set_option maxHeartbeats 4000000 in
theorem c_L_alone (l : Launch) (adE adK adV : Nat → Nat) (x0 : Int32) : Met l y_L_alone (Cond.code y_L_alone b_L_alone 1 (some (.object "InstructionReader$Kind")) :: WT) ({ frames := 0, cells := 0, slots := 0, locals := 0 }) (va_Pc [.int x0] (fun U => cx adE adK adV no U U.heap)) (va_Se adE (fun r => r = some (f_L_alone x0))) 0 0 no := by
  refine va_MetF (cc := b_L_alone) (maxL := 1) (ret := (some (.object "InstructionReader$Kind"))) (by decide +kernel) rfl ?_
  intro p e s m args below meth c s₁ B hml hv
  obtain ⟨rfl, hC⟩ := hv
  have hx := B.exec
  have hb := B.bytes
  have hr := B.returns
  have hts := atoms_spec (ws := (Cond.code y_L_alone b_L_alone 1 (some (.object "InstructionReader$Kind")) :: WT)) B.pre
  have hT : ∀ w ∈ WT, w.before _ s = true := fun w h => hts w (inC w h)
  have hown : s.vm.findClass R_L = some m.cls := findClass_of_methodNamed B.named
  have hlocks := B.notSynchronized
  have hS : va_S no s.heap s.heap [] := va_S.rf
  have S : CallFix p m c b_L_alone 1 s _ (Cond.code y_L_alone b_L_alone 1 (some (.object "InstructionReader$Kind")) :: WT) R_L := ⟨hx, hb, hml, hown, hts⟩
  have hl := lv_entry ([.int x0]) (n := 1) (Nat.le_of_ble_eq_true rfl)
  rw [lg_entry_eq]
  generalize (lg_sl ([.int x0]) ++ List.replicate (1 - (lg_sl ([.int x0])).length) Slot.unset).toArray = ls at hl ⊢
  have hl : lv_has ls 1 [(0, .int x0)] := hl
  refine lv_iload_n hx hb d_L_alone_0 rfl (lv_at hl 0 rfl) ?_
  by_cases c_1 : x0 = 115
  · refine lv_lookup (off := 51) (tgt := 52) hx hb d_L_alone_1 (by decide) (by rw [c_1]; decide) (by decide) ?_
    refine va_gets (v := .ref (adE 66)) hx hb (z_ECALL hC) hS hown (hT _ m_147) (fun _ h => h) d_L_alone_52 ?_
    exact W.aret (v := .ref (adE 66)) hx hb hr (Or.inl ⟨_, rfl⟩) (Or.inr ⟨_, rfl⟩) (fun t ht hW => ⟨some 66, rfl, congrArg some (by rw [f_L_alone, if_pos c_1]), ht⟩) (fun _ h => by cases h) d_L_alone_55
  · by_cases c_2 : x0 = 4111
    · refine lv_lookup (off := 47) (tgt := 48) hx hb d_L_alone_1 (by decide) (by rw [c_2]; decide) (by decide) ?_
      refine va_gets (v := .ref (adE 65)) hx hb (z_FENCE_I hC) hS hown (hT _ m_145) (fun _ h => h) d_L_alone_48 ?_
      exact W.aret (v := .ref (adE 65)) hx hb hr (Or.inl ⟨_, rfl⟩) (Or.inr ⟨_, rfl⟩) (fun t ht hW => ⟨some 65, rfl, congrArg some (by rw [f_L_alone, if_neg c_1, if_pos c_2]), ht⟩) (fun _ h => by cases h) d_L_alone_51
    · by_cases c_3 : x0 = 1048691
      · refine lv_lookup (off := 55) (tgt := 56) hx hb d_L_alone_1 (by decide) (by rw [c_3]; decide) (by decide) ?_
        refine va_gets (v := .ref (adE 67)) hx hb (z_EBREAK hC) hS hown (hT _ m_149) (fun _ h => h) d_L_alone_56 ?_
        exact W.aret (v := .ref (adE 67)) hx hb hr (Or.inl ⟨_, rfl⟩) (Or.inr ⟨_, rfl⟩) (fun t ht hW => ⟨some 67, rfl, congrArg some (by rw [f_L_alone, if_neg c_1, if_neg c_2, if_pos c_3]), ht⟩) (fun _ h => by cases h) d_L_alone_59
      · by_cases c_4 : x0 = 267386895
        · refine lv_lookup (off := 43) (tgt := 44) hx hb d_L_alone_1 (by decide) (by rw [c_4]; decide) (by decide) ?_
          refine va_gets (v := .ref (adE 64)) hx hb (z_FENCE hC) hS hown (hT _ m_143) (fun _ h => h) d_L_alone_44 ?_
          exact W.aret (v := .ref (adE 64)) hx hb hr (Or.inl ⟨_, rfl⟩) (Or.inr ⟨_, rfl⟩) (fun t ht hW => ⟨some 64, rfl, congrArg some (by rw [f_L_alone, if_neg c_1, if_neg c_2, if_neg c_3, if_pos c_4]), ht⟩) (fun _ h => by cases h) d_L_alone_47
        · refine lv_lookup (off := 59) (tgt := 60) hx hb d_L_alone_1 (by decide) (by show Op.lookupswitch.offset [(115, 51), (4111, 47), (1048691, 55), (267386895, 43)] 59 _ = 59; rw [lv_osw c_1 (by decide), lv_osw c_2 (by decide), lv_osw c_3 (by decide), lv_osw c_4 (by decide)]; rfl) (by decide) ?_
          refine va_gets (v := .ref (adE 0)) hx hb (z_WORD hC) hS hown (hT _ m_138) (fun _ h => h) d_L_alone_60 ?_
          exact W.aret (v := .ref (adE 0)) hx hb hr (Or.inl ⟨_, rfl⟩) (Or.inr ⟨_, rfl⟩) (fun t ht hW => ⟨some 0, rfl, congrArg some (by rw [f_L_alone, if_neg c_1, if_neg c_2, if_neg c_3, if_neg c_4]), ht⟩) (fun _ h => by cases h) d_L_alone_63
theorem call_L_alone {p : Program} {l : Launch} {e : Env} {R : Room} {s : State} {m : MethodId} {args : Array Value} {below : List Frame} {meth : Method} {c : Code} {H : Heap} {locs : List Loc} {cells slots : Nat} {Q : State → Prop} {cc : ByteArray} {pc nL idx : Nat} {ls : Array Slot} {rest : List Value} {Ts : List Cond} {own : String} {adE adK adV : Nat → Nat} {A0 : Nat → Prop} {x0 : Int32} (S : CallFix p m c cc nL s args Ts own) (hTs : ∀ w ∈ WT, w ∈ Ts) (h1 : Cond.methodLink own idx y_L_alone ∈ WT) (hR : 0 + 1 ≤ R.frames ∧ 8 + (1 + 11) + 0 ≤ R.locals) (hsz : ls.size = nL) (hrm : (rest.map fun v => v.category).sum ≤ 8) (hdg : decode cc pc = .ok (.invokestatic idx, 3)) (hc : cells ≤ R.cells ∧ slots ≤ R.slots) (hC : cx adE adK adV A0 s s.heap) (hS : va_S A0 s.heap H locs) (kk : W p l e R s m args below meth c H locs cells slots Q (F0 m (pc + 3) ls (.ref (adE (f_L_alone x0)) :: rest))) : W p l e R s m args below meth c H locs cells slots Q (F0 m pc ls (.int x0 :: rest)) :=
  va_cse (va_Run.run (va_runS (As := [.int x0]) (rest := rest) S (c_L_alone l adE adK adV x0) (va_cwS 1 S.2.2.2.2 (gS hTs h1 m_141 m_53 m_142) rfl rfl rfl (by decide +kernel) hR) ⟨fun a U g mk q => ⟨q.1, q.2.blind⟩, fun U hU hW => ⟨rfl, hC.at hS no_in hU hW⟩⟩ rfl rfl hsz rfl (lv_room hrm) hdg hc)) (fun r e => by subst e; exact kk)

def f_L_shiftRight (x0 : Int32) : Nat :=
  if x0 = 0 then
    27
  else
    if x0 = 32 then
      28
    else
      0
set_option maxRecDepth 100000 in
set_option maxHeartbeats 4000000 in
theorem c_L_shiftRight (l : Launch) (adE adK adV : Nat → Nat) (x0 : Int32) : Met l y_L_shiftRight (Cond.code y_L_shiftRight b_L_shiftRight 1 (some (.object "InstructionReader$Kind")) :: WT) ({ frames := 0, cells := 0, slots := 0, locals := 0 }) (va_Pc [.int x0] (fun U => cx adE adK adV no U U.heap)) (va_Se adE (fun r => r = some (f_L_shiftRight x0))) 0 0 no := by
  refine va_MetF (cc := b_L_shiftRight) (maxL := 1) (ret := (some (.object "InstructionReader$Kind"))) (by decide +kernel) rfl ?_
  intro p e s m args below meth c s₁ B hml hv
  obtain ⟨rfl, hC⟩ := hv
  have hx := B.exec
  have hb := B.bytes
  have hr := B.returns
  have hts := atoms_spec (ws := (Cond.code y_L_shiftRight b_L_shiftRight 1 (some (.object "InstructionReader$Kind")) :: WT)) B.pre
  have hT : ∀ w ∈ WT, w.before _ s = true := fun w h => hts w (inC w h)
  have hown : s.vm.findClass R_L = some m.cls := findClass_of_methodNamed B.named
  have hlocks := B.notSynchronized
  have hS : va_S no s.heap s.heap [] := va_S.rf
  have S : CallFix p m c b_L_shiftRight 1 s _ (Cond.code y_L_shiftRight b_L_shiftRight 1 (some (.object "InstructionReader$Kind")) :: WT) R_L := ⟨hx, hb, hml, hown, hts⟩
  have hl := lv_entry ([.int x0]) (n := 1) (Nat.le_of_ble_eq_true rfl)
  rw [lg_entry_eq]
  generalize (lg_sl ([.int x0]) ++ List.replicate (1 - (lg_sl ([.int x0])).length) Slot.unset).toArray = ls at hl ⊢
  have hl : lv_has ls 1 [(0, .int x0)] := hl
  refine lv_iload_n hx hb d_L_shiftRight_0 rfl (lv_at hl 0 rfl) ?_
  refine lv_if_ne (tgt := 8) hx hb d_L_shiftRight_1 (by decide) (fun c_1 => ?_) (fun c_1 => ?_)
  · refine lv_iload_n hx hb d_L_shiftRight_8 rfl (lv_at hl 0 rfl) ?_
    refine lv_bipush (v := 32) hx hb d_L_shiftRight_9 (by decide) ?_
    refine lv_icmp_ne (tgt := 20) hx hb d_L_shiftRight_11 (by decide) (fun c_2 => ?_) (fun c_2 => ?_)
    · refine va_gets (v := .ref (adE 0)) hx hb (z_WORD hC) hS hown (hT _ m_138) (fun _ h => h) d_L_shiftRight_20 ?_
      exact W.aret (v := .ref (adE 0)) hx hb hr (Or.inl ⟨_, rfl⟩) (Or.inr ⟨_, rfl⟩) (fun t ht hW => ⟨some 0, rfl, congrArg some (by rw [f_L_shiftRight, if_neg c_1, if_neg c_2]), ht⟩) (fun _ h => by cases h) d_L_shiftRight_23
    · refine va_gets (v := .ref (adE 28)) hx hb (z_SRAI hC) hS hown (hT _ m_169) (fun _ h => h) d_L_shiftRight_14 ?_
      refine lv_goto (tgt := 23) hx hb d_L_shiftRight_17 (by decide) ?_
      exact W.aret (v := .ref (adE 28)) hx hb hr (Or.inl ⟨_, rfl⟩) (Or.inr ⟨_, rfl⟩) (fun t ht hW => ⟨some 28, rfl, congrArg some (by rw [f_L_shiftRight, if_neg c_1, if_pos c_2]), ht⟩) (fun _ h => by cases h) d_L_shiftRight_23
  · refine va_gets (v := .ref (adE 27)) hx hb (z_SRLI hC) hS hown (hT _ m_167) (fun _ h => h) d_L_shiftRight_4 ?_
    exact W.aret (v := .ref (adE 27)) hx hb hr (Or.inl ⟨_, rfl⟩) (Or.inr ⟨_, rfl⟩) (fun t ht hW => ⟨some 27, rfl, congrArg some (by rw [f_L_shiftRight, if_pos c_1]), ht⟩) (fun _ h => by cases h) d_L_shiftRight_7
theorem call_L_shiftRight {p : Program} {l : Launch} {e : Env} {R : Room} {s : State} {m : MethodId} {args : Array Value} {below : List Frame} {meth : Method} {c : Code} {H : Heap} {locs : List Loc} {cells slots : Nat} {Q : State → Prop} {cc : ByteArray} {pc nL idx : Nat} {ls : Array Slot} {rest : List Value} {Ts : List Cond} {own : String} {adE adK adV : Nat → Nat} {A0 : Nat → Prop} {x0 : Int32} (S : CallFix p m c cc nL s args Ts own) (hTs : ∀ w ∈ WT, w ∈ Ts) (h1 : Cond.methodLink own idx y_L_shiftRight ∈ WT) (hR : 0 + 1 ≤ R.frames ∧ 8 + (1 + 11) + 0 ≤ R.locals) (hsz : ls.size = nL) (hrm : (rest.map fun v => v.category).sum ≤ 8) (hdg : decode cc pc = .ok (.invokestatic idx, 3)) (hc : cells ≤ R.cells ∧ slots ≤ R.slots) (hC : cx adE adK adV A0 s s.heap) (hS : va_S A0 s.heap H locs) (kk : W p l e R s m args below meth c H locs cells slots Q (F0 m (pc + 3) ls (.ref (adE (f_L_shiftRight x0)) :: rest))) : W p l e R s m args below meth c H locs cells slots Q (F0 m pc ls (.int x0 :: rest)) :=
  va_cse (va_Run.run (va_runS (As := [.int x0]) (rest := rest) S (c_L_shiftRight l adE adK adV x0) (va_cwS 1 S.2.2.2.2 (gS hTs h1 m_165 m_53 m_166) rfl rfl rfl (by decide +kernel) hR) ⟨fun a U g mk q => ⟨q.1, q.2.blind⟩, fun U hU hW => ⟨rfl, hC.at hS no_in hU hW⟩⟩ rfl rfl hsz rfl (lv_room hrm) hdg hc)) (fun r e => by subst e; exact kk)

def f_L_withNumber (x0 x1 : Int32) : Nat :=
  if x0 = 0 then
    20
  else
    if x0 = 1 then
      if x1 = 0 then
        26
      else
        0
    else
      if x0 = 2 then
        21
      else
        if x0 = 3 then
          22
        else
          if x0 = 4 then
            23
          else
            if x0 = 5 then
              f_L_shiftRight x1
            else
              if x0 = 6 then
                24
              else
                25
set_option maxRecDepth 100000 in
set_option maxHeartbeats 4000000 in
theorem c_L_withNumber (l : Launch) (adE adK adV : Nat → Nat) (x0 x1 : Int32) : Met l y_L_withNumber (Cond.code y_L_withNumber b_L_withNumber 2 (some (.object "InstructionReader$Kind")) :: WT) ({ frames := 1, cells := 0, slots := 0, locals := 20 }) (va_Pc [.int x0, .int x1] (fun U => cx adE adK adV no U U.heap)) (va_Se adE (fun r => r = some (f_L_withNumber x0 x1))) 0 0 no := by
  refine va_MetF (cc := b_L_withNumber) (maxL := 2) (ret := (some (.object "InstructionReader$Kind"))) (by decide +kernel) rfl ?_
  intro p e s m args below meth c s₁ B hml hv
  obtain ⟨rfl, hC⟩ := hv
  have hx := B.exec
  have hb := B.bytes
  have hr := B.returns
  have hts := atoms_spec (ws := (Cond.code y_L_withNumber b_L_withNumber 2 (some (.object "InstructionReader$Kind")) :: WT)) B.pre
  have hT : ∀ w ∈ WT, w.before _ s = true := fun w h => hts w (inC w h)
  have hown : s.vm.findClass R_L = some m.cls := findClass_of_methodNamed B.named
  have hlocks := B.notSynchronized
  have hS : va_S no s.heap s.heap [] := va_S.rf
  have S : CallFix p m c b_L_withNumber 2 s _ (Cond.code y_L_withNumber b_L_withNumber 2 (some (.object "InstructionReader$Kind")) :: WT) R_L := ⟨hx, hb, hml, hown, hts⟩
  have hl := lv_entry ([.int x0, .int x1]) (n := 2) (Nat.le_of_ble_eq_true rfl)
  rw [lg_entry_eq]
  generalize (lg_sl ([.int x0, .int x1]) ++ List.replicate (2 - (lg_sl ([.int x0, .int x1])).length) Slot.unset).toArray = ls at hl ⊢
  have hl : lv_has ls 2 [(0, .int x0), (1, .int x1)] := hl
  refine lv_iload_n hx hb d_L_withNumber_0 rfl (lv_at hl 0 rfl) ?_
  by_cases c_1 : x0 = 0
  · refine lv_tableIn (off := 43) (tgt := 44) hx hb d_L_withNumber_1 (by rw [c_1]; decide) (by rw [c_1]; decide) (by rw [c_1]; decide) (by decide) ?_
    refine va_gets (v := .ref (adE 20)) hx hb (z_ADDI hC) hS hown (hT _ m_154) (fun _ h => h) d_L_withNumber_44 ?_
    exact W.aret (v := .ref (adE 20)) hx hb hr (Or.inl ⟨_, rfl⟩) (Or.inr ⟨_, rfl⟩) (fun t ht hW => ⟨some 20, rfl, congrArg some (by rw [f_L_withNumber, if_pos c_1]), ht⟩) (fun _ h => by cases h) d_L_withNumber_47
  · by_cases c_2 : x0 = 1
    · refine lv_tableIn (off := 47) (tgt := 48) hx hb d_L_withNumber_1 (by rw [c_2]; decide) (by rw [c_2]; decide) (by rw [c_2]; decide) (by decide) ?_
      refine lv_iload_n hx hb d_L_withNumber_48 rfl (lv_at hl 1 rfl) ?_
      refine lv_if_ne (tgt := 58) hx hb d_L_withNumber_49 (by decide) (fun c_3 => ?_) (fun c_3 => ?_)
      · refine va_gets (v := .ref (adE 0)) hx hb (z_WORD hC) hS hown (hT _ m_138) (fun _ h => h) d_L_withNumber_58 ?_
        exact W.aret (v := .ref (adE 0)) hx hb hr (Or.inl ⟨_, rfl⟩) (Or.inr ⟨_, rfl⟩) (fun t ht hW => ⟨some 0, rfl, congrArg some (by rw [f_L_withNumber, if_neg c_1, if_pos c_2, if_neg c_3]), ht⟩) (fun _ h => by cases h) d_L_withNumber_61
      · refine va_gets (v := .ref (adE 26)) hx hb (z_SLLI hC) hS hown (hT _ m_156) (fun _ h => h) d_L_withNumber_52 ?_
        refine lv_goto (tgt := 61) hx hb d_L_withNumber_55 (by decide) ?_
        exact W.aret (v := .ref (adE 26)) hx hb hr (Or.inl ⟨_, rfl⟩) (Or.inr ⟨_, rfl⟩) (fun t ht hW => ⟨some 26, rfl, congrArg some (by rw [f_L_withNumber, if_neg c_1, if_pos c_2, if_pos c_3]), ht⟩) (fun _ h => by cases h) d_L_withNumber_61
    · by_cases c_4 : x0 = 2
      · refine lv_tableIn (off := 61) (tgt := 62) hx hb d_L_withNumber_1 (by rw [c_4]; decide) (by rw [c_4]; decide) (by rw [c_4]; decide) (by decide) ?_
        refine va_gets (v := .ref (adE 21)) hx hb (z_SLTI hC) hS hown (hT _ m_158) (fun _ h => h) d_L_withNumber_62 ?_
        exact W.aret (v := .ref (adE 21)) hx hb hr (Or.inl ⟨_, rfl⟩) (Or.inr ⟨_, rfl⟩) (fun t ht hW => ⟨some 21, rfl, congrArg some (by rw [f_L_withNumber, if_neg c_1, if_neg c_2, if_pos c_4]), ht⟩) (fun _ h => by cases h) d_L_withNumber_65
      · by_cases c_5 : x0 = 3
        · refine lv_tableIn (off := 65) (tgt := 66) hx hb d_L_withNumber_1 (by rw [c_5]; decide) (by rw [c_5]; decide) (by rw [c_5]; decide) (by decide) ?_
          refine va_gets (v := .ref (adE 22)) hx hb (z_SLTIU hC) hS hown (hT _ m_160) (fun _ h => h) d_L_withNumber_66 ?_
          exact W.aret (v := .ref (adE 22)) hx hb hr (Or.inl ⟨_, rfl⟩) (Or.inr ⟨_, rfl⟩) (fun t ht hW => ⟨some 22, rfl, congrArg some (by rw [f_L_withNumber, if_neg c_1, if_neg c_2, if_neg c_4, if_pos c_5]), ht⟩) (fun _ h => by cases h) d_L_withNumber_69
        · by_cases c_6 : x0 = 4
          · refine lv_tableIn (off := 69) (tgt := 70) hx hb d_L_withNumber_1 (by rw [c_6]; decide) (by rw [c_6]; decide) (by rw [c_6]; decide) (by decide) ?_
            refine va_gets (v := .ref (adE 23)) hx hb (z_XORI hC) hS hown (hT _ m_162) (fun _ h => h) d_L_withNumber_70 ?_
            exact W.aret (v := .ref (adE 23)) hx hb hr (Or.inl ⟨_, rfl⟩) (Or.inr ⟨_, rfl⟩) (fun t ht hW => ⟨some 23, rfl, congrArg some (by rw [f_L_withNumber, if_neg c_1, if_neg c_2, if_neg c_4, if_neg c_5, if_pos c_6]), ht⟩) (fun _ h => by cases h) d_L_withNumber_73
          · by_cases c_7 : x0 = 5
            · refine lv_tableIn (off := 73) (tgt := 74) hx hb d_L_withNumber_1 (by rw [c_7]; decide) (by rw [c_7]; decide) (by rw [c_7]; decide) (by decide) ?_
              refine lv_iload_n hx hb d_L_withNumber_74 rfl (lv_at hl 1 rfl) ?_
              refine call_L_shiftRight S inC m_164 ⟨(Nat.le_of_ble_eq_true rfl), (Nat.le_of_ble_eq_true rfl)⟩ hl.1 (Nat.le_of_ble_eq_true rfl) d_L_withNumber_75 ⟨(Nat.le_of_ble_eq_true rfl), (Nat.le_of_ble_eq_true rfl)⟩ hC hS ?_
              exact W.aret (v := .ref (adE (f_L_shiftRight x1))) hx hb hr (Or.inl ⟨_, rfl⟩) (Or.inr ⟨_, rfl⟩) (fun t ht hW => ⟨some (f_L_shiftRight x1), rfl, congrArg some (by rw [f_L_withNumber, if_neg c_1, if_neg c_2, if_neg c_4, if_neg c_5, if_neg c_6, if_pos c_7]), ht⟩) (fun _ h => by cases h) d_L_withNumber_78
            · by_cases c_8 : x0 = 6
              · refine lv_tableIn (off := 78) (tgt := 79) hx hb d_L_withNumber_1 (by rw [c_8]; decide) (by rw [c_8]; decide) (by rw [c_8]; decide) (by decide) ?_
                refine va_gets (v := .ref (adE 24)) hx hb (z_ORI hC) hS hown (hT _ m_171) (fun _ h => h) d_L_withNumber_79 ?_
                exact W.aret (v := .ref (adE 24)) hx hb hr (Or.inl ⟨_, rfl⟩) (Or.inr ⟨_, rfl⟩) (fun t ht hW => ⟨some 24, rfl, congrArg some (by rw [f_L_withNumber, if_neg c_1, if_neg c_2, if_neg c_4, if_neg c_5, if_neg c_6, if_neg c_7, if_pos c_8]), ht⟩) (fun _ h => by cases h) d_L_withNumber_82
              · refine lv_tableOut (tgt := 83) hx hb d_L_withNumber_1 (by have n0 := lv_neT c_1 (show (0 : Int32).toInt = 0 by decide); have n1 := lv_neT c_2 (show (1 : Int32).toInt = 1 by decide); have n2 := lv_neT c_4 (show (2 : Int32).toInt = 2 by decide); have n3 := lv_neT c_5 (show (3 : Int32).toInt = 3 by decide); have n4 := lv_neT c_6 (show (4 : Int32).toInt = 4 by decide); have n5 := lv_neT c_7 (show (5 : Int32).toInt = 5 by decide); have n6 := lv_neT c_8 (show (6 : Int32).toInt = 6 by decide); omega) (by decide) ?_
                refine va_gets (v := .ref (adE 25)) hx hb (z_ANDI hC) hS hown (hT _ m_173) (fun _ h => h) d_L_withNumber_83 ?_
                exact W.aret (v := .ref (adE 25)) hx hb hr (Or.inl ⟨_, rfl⟩) (Or.inr ⟨_, rfl⟩) (fun t ht hW => ⟨some 25, rfl, congrArg some (by rw [f_L_withNumber, if_neg c_1, if_neg c_2, if_neg c_4, if_neg c_5, if_neg c_6, if_neg c_7, if_neg c_8]), ht⟩) (fun _ h => by cases h) d_L_withNumber_86
theorem call_L_withNumber {p : Program} {l : Launch} {e : Env} {R : Room} {s : State} {m : MethodId} {args : Array Value} {below : List Frame} {meth : Method} {c : Code} {H : Heap} {locs : List Loc} {cells slots : Nat} {Q : State → Prop} {cc : ByteArray} {pc nL idx : Nat} {ls : Array Slot} {rest : List Value} {Ts : List Cond} {own : String} {adE adK adV : Nat → Nat} {A0 : Nat → Prop} {x0 x1 : Int32} (S : CallFix p m c cc nL s args Ts own) (hTs : ∀ w ∈ WT, w ∈ Ts) (h1 : Cond.methodLink own idx y_L_withNumber ∈ WT) (hR : 1 + 1 ≤ R.frames ∧ 8 + (2 + 11) + 20 ≤ R.locals) (hsz : ls.size = nL) (hrm : (rest.map fun v => v.category).sum ≤ 8) (hdg : decode cc pc = .ok (.invokestatic idx, 3)) (hc : cells ≤ R.cells ∧ slots ≤ R.slots) (hC : cx adE adK adV A0 s s.heap) (hS : va_S A0 s.heap H locs) (kk : W p l e R s m args below meth c H locs cells slots Q (F0 m (pc + 3) ls (.ref (adE (f_L_withNumber x0 x1)) :: rest))) : W p l e R s m args below meth c H locs cells slots Q (F0 m pc ls (.int x1 :: .int x0 :: rest)) :=
  va_cse (va_Run.run (va_runS (As := [.int x0, .int x1]) (rest := rest) S (c_L_withNumber l adE adK adV x0 x1) (va_cwS 2 S.2.2.2.2 (gS hTs h1 m_152 m_53 m_153) rfl rfl rfl (by decide +kernel) hR) ⟨fun a U g mk q => ⟨q.1, q.2.blind⟩, fun U hU hW => ⟨rfl, hC.at hS no_in hU hW⟩⟩ rfl rfl hsz rfl (lv_room hrm) hdg hc)) (fun r e => by subst e; exact kk)

def f_L_store (x0 : Int32) : Nat :=
  if x0 = 0 then
    35
  else
    if x0 = 1 then
      36
    else
      if x0 = 2 then
        37
      else
        0
set_option maxRecDepth 100000 in
set_option maxHeartbeats 4000000 in
theorem c_L_store (l : Launch) (adE adK adV : Nat → Nat) (x0 : Int32) : Met l y_L_store (Cond.code y_L_store b_L_store 1 (some (.object "InstructionReader$Kind")) :: WT) ({ frames := 0, cells := 0, slots := 0, locals := 0 }) (va_Pc [.int x0] (fun U => cx adE adK adV no U U.heap)) (va_Se adE (fun r => r = some (f_L_store x0))) 0 0 no := by
  refine va_MetF (cc := b_L_store) (maxL := 1) (ret := (some (.object "InstructionReader$Kind"))) (by decide +kernel) rfl ?_
  intro p e s m args below meth c s₁ B hml hv
  obtain ⟨rfl, hC⟩ := hv
  have hx := B.exec
  have hb := B.bytes
  have hr := B.returns
  have hts := atoms_spec (ws := (Cond.code y_L_store b_L_store 1 (some (.object "InstructionReader$Kind")) :: WT)) B.pre
  have hT : ∀ w ∈ WT, w.before _ s = true := fun w h => hts w (inC w h)
  have hown : s.vm.findClass R_L = some m.cls := findClass_of_methodNamed B.named
  have hlocks := B.notSynchronized
  have hS : va_S no s.heap s.heap [] := va_S.rf
  have S : CallFix p m c b_L_store 1 s _ (Cond.code y_L_store b_L_store 1 (some (.object "InstructionReader$Kind")) :: WT) R_L := ⟨hx, hb, hml, hown, hts⟩
  have hl := lv_entry ([.int x0]) (n := 1) (Nat.le_of_ble_eq_true rfl)
  rw [lg_entry_eq]
  generalize (lg_sl ([.int x0]) ++ List.replicate (1 - (lg_sl ([.int x0])).length) Slot.unset).toArray = ls at hl ⊢
  have hl : lv_has ls 1 [(0, .int x0)] := hl
  refine lv_iload_n hx hb d_L_store_0 rfl (lv_at hl 0 rfl) ?_
  by_cases c_1 : x0 = 0
  · refine lv_tableIn (off := 27) (tgt := 28) hx hb d_L_store_1 (by rw [c_1]; decide) (by rw [c_1]; decide) (by rw [c_1]; decide) (by decide) ?_
    refine va_gets (v := .ref (adE 35)) hx hb (z_SB hC) hS hown (hT _ m_180) (fun _ h => h) d_L_store_28 ?_
    exact W.aret (v := .ref (adE 35)) hx hb hr (Or.inl ⟨_, rfl⟩) (Or.inr ⟨_, rfl⟩) (fun t ht hW => ⟨some 35, rfl, congrArg some (by rw [f_L_store, if_pos c_1]), ht⟩) (fun _ h => by cases h) d_L_store_31
  · by_cases c_2 : x0 = 1
    · refine lv_tableIn (off := 31) (tgt := 32) hx hb d_L_store_1 (by rw [c_2]; decide) (by rw [c_2]; decide) (by rw [c_2]; decide) (by decide) ?_
      refine va_gets (v := .ref (adE 36)) hx hb (z_SH hC) hS hown (hT _ m_182) (fun _ h => h) d_L_store_32 ?_
      exact W.aret (v := .ref (adE 36)) hx hb hr (Or.inl ⟨_, rfl⟩) (Or.inr ⟨_, rfl⟩) (fun t ht hW => ⟨some 36, rfl, congrArg some (by rw [f_L_store, if_neg c_1, if_pos c_2]), ht⟩) (fun _ h => by cases h) d_L_store_35
    · by_cases c_3 : x0 = 2
      · refine lv_tableIn (off := 35) (tgt := 36) hx hb d_L_store_1 (by rw [c_3]; decide) (by rw [c_3]; decide) (by rw [c_3]; decide) (by decide) ?_
        refine va_gets (v := .ref (adE 37)) hx hb (z_SW hC) hS hown (hT _ m_184) (fun _ h => h) d_L_store_36 ?_
        exact W.aret (v := .ref (adE 37)) hx hb hr (Or.inl ⟨_, rfl⟩) (Or.inr ⟨_, rfl⟩) (fun t ht hW => ⟨some 37, rfl, congrArg some (by rw [f_L_store, if_neg c_1, if_neg c_2, if_pos c_3]), ht⟩) (fun _ h => by cases h) d_L_store_39
      · refine lv_tableOut (tgt := 40) hx hb d_L_store_1 (by have n0 := lv_neT c_1 (show (0 : Int32).toInt = 0 by decide); have n1 := lv_neT c_2 (show (1 : Int32).toInt = 1 by decide); have n2 := lv_neT c_3 (show (2 : Int32).toInt = 2 by decide); omega) (by decide) ?_
        refine va_gets (v := .ref (adE 0)) hx hb (z_WORD hC) hS hown (hT _ m_138) (fun _ h => h) d_L_store_40 ?_
        exact W.aret (v := .ref (adE 0)) hx hb hr (Or.inl ⟨_, rfl⟩) (Or.inr ⟨_, rfl⟩) (fun t ht hW => ⟨some 0, rfl, congrArg some (by rw [f_L_store, if_neg c_1, if_neg c_2, if_neg c_3]), ht⟩) (fun _ h => by cases h) d_L_store_43
theorem call_L_store {p : Program} {l : Launch} {e : Env} {R : Room} {s : State} {m : MethodId} {args : Array Value} {below : List Frame} {meth : Method} {c : Code} {H : Heap} {locs : List Loc} {cells slots : Nat} {Q : State → Prop} {cc : ByteArray} {pc nL idx : Nat} {ls : Array Slot} {rest : List Value} {Ts : List Cond} {own : String} {adE adK adV : Nat → Nat} {A0 : Nat → Prop} {x0 : Int32} (S : CallFix p m c cc nL s args Ts own) (hTs : ∀ w ∈ WT, w ∈ Ts) (h1 : Cond.methodLink own idx y_L_store ∈ WT) (hR : 0 + 1 ≤ R.frames ∧ 8 + (1 + 11) + 0 ≤ R.locals) (hsz : ls.size = nL) (hrm : (rest.map fun v => v.category).sum ≤ 8) (hdg : decode cc pc = .ok (.invokestatic idx, 3)) (hc : cells ≤ R.cells ∧ slots ≤ R.slots) (hC : cx adE adK adV A0 s s.heap) (hS : va_S A0 s.heap H locs) (kk : W p l e R s m args below meth c H locs cells slots Q (F0 m (pc + 3) ls (.ref (adE (f_L_store x0)) :: rest))) : W p l e R s m args below meth c H locs cells slots Q (F0 m pc ls (.int x0 :: rest)) :=
  va_cse (va_Run.run (va_runS (As := [.int x0]) (rest := rest) S (c_L_store l adE adK adV x0) (va_cwS 1 S.2.2.2.2 (gS hTs h1 m_178 m_53 m_179) rfl rfl rfl (by decide +kernel) hR) ⟨fun a U g mk q => ⟨q.1, q.2.blind⟩, fun U hU hW => ⟨rfl, hC.at hS no_in hU hW⟩⟩ rfl rfl hsz rfl (lv_room hrm) hdg hc)) (fun r e => by subst e; exact kk)

def f_L_atomic (x0 x1 : Int32) : Nat :=
  if x0 = 0 then
    50
  else
    if x0 = 1 then
      49
    else
      if x0 = 2 then
        if ((x1 >>> ((20 : Int32) &&& 31)) &&& 31) = 0 then
          47
        else
          0
      else
        if x0 = 3 then
          48
        else
          if x0 = 4 then
            51
          else
            if x0 = 8 then
              53
            else
              if x0 = 12 then
                52
              else
                if x0 = 16 then
                  54
                else
                  if x0 = 20 then
                    55
                  else
                    if x0 = 24 then
                      56
                    else
                      if x0 = 28 then
                        57
                      else
                        0
set_option maxRecDepth 100000 in
set_option maxHeartbeats 4000000 in
theorem c_L_atomic (l : Launch) (adE adK adV : Nat → Nat) (x0 x1 : Int32) : Met l y_L_atomic (Cond.code y_L_atomic b_L_atomic 2 (some (.object "InstructionReader$Kind")) :: WT) ({ frames := 0, cells := 0, slots := 0, locals := 0 }) (va_Pc [.int x0, .int x1] (fun U => cx adE adK adV no U U.heap)) (va_Se adE (fun r => r = some (f_L_atomic x0 x1))) 0 0 no := by
  refine va_MetF (cc := b_L_atomic) (maxL := 2) (ret := (some (.object "InstructionReader$Kind"))) (by decide +kernel) rfl ?_
  intro p e s m args below meth c s₁ B hml hv
  obtain ⟨rfl, hC⟩ := hv
  have hx := B.exec
  have hb := B.bytes
  have hr := B.returns
  have hts := atoms_spec (ws := (Cond.code y_L_atomic b_L_atomic 2 (some (.object "InstructionReader$Kind")) :: WT)) B.pre
  have hT : ∀ w ∈ WT, w.before _ s = true := fun w h => hts w (inC w h)
  have hown : s.vm.findClass R_L = some m.cls := findClass_of_methodNamed B.named
  have hlocks := B.notSynchronized
  have hS : va_S no s.heap s.heap [] := va_S.rf
  have S : CallFix p m c b_L_atomic 2 s _ (Cond.code y_L_atomic b_L_atomic 2 (some (.object "InstructionReader$Kind")) :: WT) R_L := ⟨hx, hb, hml, hown, hts⟩
  have hl := lv_entry ([.int x0, .int x1]) (n := 2) (Nat.le_of_ble_eq_true rfl)
  rw [lg_entry_eq]
  generalize (lg_sl ([.int x0, .int x1]) ++ List.replicate (2 - (lg_sl ([.int x0, .int x1])).length) Slot.unset).toArray = ls at hl ⊢
  have hl : lv_has ls 2 [(0, .int x0), (1, .int x1)] := hl
  refine lv_iload_n hx hb d_L_atomic_0 rfl (lv_at hl 0 rfl) ?_
  by_cases c_1 : x0 = 0
  · refine lv_tableIn (off := 131) (tgt := 132) hx hb d_L_atomic_1 (by rw [c_1]; decide) (by rw [c_1]; decide) (by rw [c_1]; decide) (by decide) ?_
    refine va_gets (v := .ref (adE 50)) hx hb (z_AMOADD hC) hS hown (hT _ m_189) (fun _ h => h) d_L_atomic_132 ?_
    exact W.aret (v := .ref (adE 50)) hx hb hr (Or.inl ⟨_, rfl⟩) (Or.inr ⟨_, rfl⟩) (fun t ht hW => ⟨some 50, rfl, congrArg some (by rw [f_L_atomic, if_pos c_1]), ht⟩) (fun _ h => by cases h) d_L_atomic_135
  · by_cases c_2 : x0 = 1
    · refine lv_tableIn (off := 135) (tgt := 136) hx hb d_L_atomic_1 (by rw [c_2]; decide) (by rw [c_2]; decide) (by rw [c_2]; decide) (by decide) ?_
      refine va_gets (v := .ref (adE 49)) hx hb (z_AMOSWAP hC) hS hown (hT _ m_191) (fun _ h => h) d_L_atomic_136 ?_
      exact W.aret (v := .ref (adE 49)) hx hb hr (Or.inl ⟨_, rfl⟩) (Or.inr ⟨_, rfl⟩) (fun t ht hW => ⟨some 49, rfl, congrArg some (by rw [f_L_atomic, if_neg c_1, if_pos c_2]), ht⟩) (fun _ h => by cases h) d_L_atomic_139
    · by_cases c_3 : x0 = 2
      · refine lv_tableIn (off := 139) (tgt := 140) hx hb d_L_atomic_1 (by rw [c_3]; decide) (by rw [c_3]; decide) (by rw [c_3]; decide) (by decide) ?_
        refine lv_iload_n hx hb d_L_atomic_140 rfl (lv_at hl 1 rfl) ?_
        refine lv_bipush (v := 20) hx hb d_L_atomic_141 (by decide) ?_
        refine lv_ishr hx hb d_L_atomic_143 ?_
        refine lv_bipush (v := 31) hx hb d_L_atomic_144 (by decide) ?_
        refine lv_iand hx hb d_L_atomic_146 ?_
        refine lv_if_ne (tgt := 156) hx hb d_L_atomic_147 (by decide) (fun c_4 => ?_) (fun c_4 => ?_)
        · refine va_gets (v := .ref (adE 0)) hx hb (z_WORD hC) hS hown (hT _ m_138) (fun _ h => h) d_L_atomic_156 ?_
          exact W.aret (v := .ref (adE 0)) hx hb hr (Or.inl ⟨_, rfl⟩) (Or.inr ⟨_, rfl⟩) (fun t ht hW => ⟨some 0, rfl, congrArg some (by rw [f_L_atomic, if_neg c_1, if_neg c_2, if_pos c_3, if_neg c_4]), ht⟩) (fun _ h => by cases h) d_L_atomic_159
        · refine va_gets (v := .ref (adE 47)) hx hb (z_LR hC) hS hown (hT _ m_193) (fun _ h => h) d_L_atomic_150 ?_
          refine lv_goto (tgt := 159) hx hb d_L_atomic_153 (by decide) ?_
          exact W.aret (v := .ref (adE 47)) hx hb hr (Or.inl ⟨_, rfl⟩) (Or.inr ⟨_, rfl⟩) (fun t ht hW => ⟨some 47, rfl, congrArg some (by rw [f_L_atomic, if_neg c_1, if_neg c_2, if_pos c_3, if_pos c_4]), ht⟩) (fun _ h => by cases h) d_L_atomic_159
      · by_cases c_5 : x0 = 3
        · refine lv_tableIn (off := 159) (tgt := 160) hx hb d_L_atomic_1 (by rw [c_5]; decide) (by rw [c_5]; decide) (by rw [c_5]; decide) (by decide) ?_
          refine va_gets (v := .ref (adE 48)) hx hb (z_SC hC) hS hown (hT _ m_195) (fun _ h => h) d_L_atomic_160 ?_
          exact W.aret (v := .ref (adE 48)) hx hb hr (Or.inl ⟨_, rfl⟩) (Or.inr ⟨_, rfl⟩) (fun t ht hW => ⟨some 48, rfl, congrArg some (by rw [f_L_atomic, if_neg c_1, if_neg c_2, if_neg c_3, if_pos c_5]), ht⟩) (fun _ h => by cases h) d_L_atomic_163
        · by_cases c_6 : x0 = 4
          · refine lv_tableIn (off := 163) (tgt := 164) hx hb d_L_atomic_1 (by rw [c_6]; decide) (by rw [c_6]; decide) (by rw [c_6]; decide) (by decide) ?_
            refine va_gets (v := .ref (adE 51)) hx hb (z_AMOXOR hC) hS hown (hT _ m_197) (fun _ h => h) d_L_atomic_164 ?_
            exact W.aret (v := .ref (adE 51)) hx hb hr (Or.inl ⟨_, rfl⟩) (Or.inr ⟨_, rfl⟩) (fun t ht hW => ⟨some 51, rfl, congrArg some (by rw [f_L_atomic, if_neg c_1, if_neg c_2, if_neg c_3, if_neg c_5, if_pos c_6]), ht⟩) (fun _ h => by cases h) d_L_atomic_167
          · by_cases c_7 : x0 = 8
            · refine lv_tableIn (off := 167) (tgt := 168) hx hb d_L_atomic_1 (by rw [c_7]; decide) (by rw [c_7]; decide) (by rw [c_7]; decide) (by decide) ?_
              refine va_gets (v := .ref (adE 53)) hx hb (z_AMOOR hC) hS hown (hT _ m_199) (fun _ h => h) d_L_atomic_168 ?_
              exact W.aret (v := .ref (adE 53)) hx hb hr (Or.inl ⟨_, rfl⟩) (Or.inr ⟨_, rfl⟩) (fun t ht hW => ⟨some 53, rfl, congrArg some (by rw [f_L_atomic, if_neg c_1, if_neg c_2, if_neg c_3, if_neg c_5, if_neg c_6, if_pos c_7]), ht⟩) (fun _ h => by cases h) d_L_atomic_171
            · by_cases c_8 : x0 = 12
              · refine lv_tableIn (off := 171) (tgt := 172) hx hb d_L_atomic_1 (by rw [c_8]; decide) (by rw [c_8]; decide) (by rw [c_8]; decide) (by decide) ?_
                refine va_gets (v := .ref (adE 52)) hx hb (z_AMOAND hC) hS hown (hT _ m_201) (fun _ h => h) d_L_atomic_172 ?_
                exact W.aret (v := .ref (adE 52)) hx hb hr (Or.inl ⟨_, rfl⟩) (Or.inr ⟨_, rfl⟩) (fun t ht hW => ⟨some 52, rfl, congrArg some (by rw [f_L_atomic, if_neg c_1, if_neg c_2, if_neg c_3, if_neg c_5, if_neg c_6, if_neg c_7, if_pos c_8]), ht⟩) (fun _ h => by cases h) d_L_atomic_175
              · by_cases c_9 : x0 = 16
                · refine lv_tableIn (off := 175) (tgt := 176) hx hb d_L_atomic_1 (by rw [c_9]; decide) (by rw [c_9]; decide) (by rw [c_9]; decide) (by decide) ?_
                  refine va_gets (v := .ref (adE 54)) hx hb (z_AMOMIN hC) hS hown (hT _ m_203) (fun _ h => h) d_L_atomic_176 ?_
                  exact W.aret (v := .ref (adE 54)) hx hb hr (Or.inl ⟨_, rfl⟩) (Or.inr ⟨_, rfl⟩) (fun t ht hW => ⟨some 54, rfl, congrArg some (by rw [f_L_atomic, if_neg c_1, if_neg c_2, if_neg c_3, if_neg c_5, if_neg c_6, if_neg c_7, if_neg c_8, if_pos c_9]), ht⟩) (fun _ h => by cases h) d_L_atomic_179
                · by_cases c_10 : x0 = 20
                  · refine lv_tableIn (off := 179) (tgt := 180) hx hb d_L_atomic_1 (by rw [c_10]; decide) (by rw [c_10]; decide) (by rw [c_10]; decide) (by decide) ?_
                    refine va_gets (v := .ref (adE 55)) hx hb (z_AMOMAX hC) hS hown (hT _ m_205) (fun _ h => h) d_L_atomic_180 ?_
                    exact W.aret (v := .ref (adE 55)) hx hb hr (Or.inl ⟨_, rfl⟩) (Or.inr ⟨_, rfl⟩) (fun t ht hW => ⟨some 55, rfl, congrArg some (by rw [f_L_atomic, if_neg c_1, if_neg c_2, if_neg c_3, if_neg c_5, if_neg c_6, if_neg c_7, if_neg c_8, if_neg c_9, if_pos c_10]), ht⟩) (fun _ h => by cases h) d_L_atomic_183
                  · by_cases c_11 : x0 = 24
                    · refine lv_tableIn (off := 183) (tgt := 184) hx hb d_L_atomic_1 (by rw [c_11]; decide) (by rw [c_11]; decide) (by rw [c_11]; decide) (by decide) ?_
                      refine va_gets (v := .ref (adE 56)) hx hb (z_AMOMINU hC) hS hown (hT _ m_207) (fun _ h => h) d_L_atomic_184 ?_
                      exact W.aret (v := .ref (adE 56)) hx hb hr (Or.inl ⟨_, rfl⟩) (Or.inr ⟨_, rfl⟩) (fun t ht hW => ⟨some 56, rfl, congrArg some (by rw [f_L_atomic, if_neg c_1, if_neg c_2, if_neg c_3, if_neg c_5, if_neg c_6, if_neg c_7, if_neg c_8, if_neg c_9, if_neg c_10, if_pos c_11]), ht⟩) (fun _ h => by cases h) d_L_atomic_187
                    · by_cases c_12 : x0 = 28
                      · refine lv_tableIn (off := 187) (tgt := 188) hx hb d_L_atomic_1 (by rw [c_12]; decide) (by rw [c_12]; decide) (by rw [c_12]; decide) (by decide) ?_
                        refine va_gets (v := .ref (adE 57)) hx hb (z_AMOMAXU hC) hS hown (hT _ m_209) (fun _ h => h) d_L_atomic_188 ?_
                        exact W.aret (v := .ref (adE 57)) hx hb hr (Or.inl ⟨_, rfl⟩) (Or.inr ⟨_, rfl⟩) (fun t ht hW => ⟨some 57, rfl, congrArg some (by rw [f_L_atomic, if_neg c_1, if_neg c_2, if_neg c_3, if_neg c_5, if_neg c_6, if_neg c_7, if_neg c_8, if_neg c_9, if_neg c_10, if_neg c_11, if_pos c_12]), ht⟩) (fun _ h => by cases h) d_L_atomic_191
                      · refine tb_out (tgt := 192) hx hb d_L_atomic_1 (by have n0 := lv_neT c_1 (show (0 : Int32).toInt = 0 from (by decide)); have n1 := lv_neT c_2 (show (1 : Int32).toInt = 1 from (by decide)); have n2 := lv_neT c_3 (show (2 : Int32).toInt = 2 from (by decide)); have n3 := lv_neT c_5 (show (3 : Int32).toInt = 3 from (by decide)); have n4 := lv_neT c_6 (show (4 : Int32).toInt = 4 from (by decide)); have n5 := lv_neT c_7 (show (8 : Int32).toInt = 8 from (by decide)); have n6 := lv_neT c_8 (show (12 : Int32).toInt = 12 from (by decide)); have n7 := lv_neT c_9 (show (16 : Int32).toInt = 16 from (by decide)); have n8 := lv_neT c_10 (show (20 : Int32).toInt = 20 from (by decide)); have n9 := lv_neT c_11 (show (24 : Int32).toInt = 24 from (by decide)); have n10 := lv_neT c_12 (show (28 : Int32).toInt = 28 from (by decide)); intro j hj hi; have key : ∀ j : Nat, j < 29 → j ∈ ([0, 1, 2, 3, 4, 8, 12, 16, 20, 24, 28] : List Nat) ∨ (#[131, 135, 139, 159, 163, 191, 191, 191, 167, 191, 191, 191, 171, 191, 191, 191, 175, 191, 191, 191, 179, 191, 191, 191, 183, 191, 191, 191, 187] : Array Int)[j]? = some 191 := (by decide); exact (key j (by omega)).elim (fun h => absurd h (by simp only [List.mem_cons, List.not_mem_nil, or_false]; omega)) id) (by decide) ?_
                        refine va_gets (v := .ref (adE 0)) hx hb (z_WORD hC) hS hown (hT _ m_138) (fun _ h => h) d_L_atomic_192 ?_
                        exact W.aret (v := .ref (adE 0)) hx hb hr (Or.inl ⟨_, rfl⟩) (Or.inr ⟨_, rfl⟩) (fun t ht hW => ⟨some 0, rfl, congrArg some (by rw [f_L_atomic, if_neg c_1, if_neg c_2, if_neg c_3, if_neg c_5, if_neg c_6, if_neg c_7, if_neg c_8, if_neg c_9, if_neg c_10, if_neg c_11, if_neg c_12]), ht⟩) (fun _ h => by cases h) d_L_atomic_195
theorem call_L_atomic {p : Program} {l : Launch} {e : Env} {R : Room} {s : State} {m : MethodId} {args : Array Value} {below : List Frame} {meth : Method} {c : Code} {H : Heap} {locs : List Loc} {cells slots : Nat} {Q : State → Prop} {cc : ByteArray} {pc nL idx : Nat} {ls : Array Slot} {rest : List Value} {Ts : List Cond} {own : String} {adE adK adV : Nat → Nat} {A0 : Nat → Prop} {x0 x1 : Int32} (S : CallFix p m c cc nL s args Ts own) (hTs : ∀ w ∈ WT, w ∈ Ts) (h1 : Cond.methodLink own idx y_L_atomic ∈ WT) (hR : 0 + 1 ≤ R.frames ∧ 8 + (2 + 11) + 0 ≤ R.locals) (hsz : ls.size = nL) (hrm : (rest.map fun v => v.category).sum ≤ 8) (hdg : decode cc pc = .ok (.invokestatic idx, 3)) (hc : cells ≤ R.cells ∧ slots ≤ R.slots) (hC : cx adE adK adV A0 s s.heap) (hS : va_S A0 s.heap H locs) (kk : W p l e R s m args below meth c H locs cells slots Q (F0 m (pc + 3) ls (.ref (adE (f_L_atomic x0 x1)) :: rest))) : W p l e R s m args below meth c H locs cells slots Q (F0 m pc ls (.int x1 :: .int x0 :: rest)) :=
  va_cse (va_Run.run (va_runS (As := [.int x0, .int x1]) (rest := rest) S (c_L_atomic l adE adK adV x0 x1) (va_cwS 2 S.2.2.2.2 (gS hTs h1 m_187 m_53 m_188) rfl rfl rfl (by decide +kernel) hR) ⟨fun a U g mk q => ⟨q.1, q.2.blind⟩, fun U hU hW => ⟨rfl, hC.at hS no_in hU hW⟩⟩ rfl rfl hsz rfl (lv_room hrm) hdg hc)) (fun r e => by subst e; exact kk)

def f_L_plain (x0 : Int32) : Nat :=
  if x0 = 0 then
    2
  else
    if x0 = 1 then
      4
    else
      if x0 = 2 then
        5
      else
        if x0 = 3 then
          6
        else
          if x0 = 4 then
            7
          else
            if x0 = 5 then
              8
            else
              if x0 = 6 then
                10
              else
                11
set_option maxRecDepth 100000 in
set_option maxHeartbeats 4000000 in
theorem c_L_plain (l : Launch) (adE adK adV : Nat → Nat) (x0 : Int32) : Met l y_L_plain (Cond.code y_L_plain b_L_plain 1 (some (.object "InstructionReader$Kind")) :: WT) ({ frames := 0, cells := 0, slots := 0, locals := 0 }) (va_Pc [.int x0] (fun U => cx adE adK adV no U U.heap)) (va_Se adE (fun r => r = some (f_L_plain x0))) 0 0 no := by
  refine va_MetF (cc := b_L_plain) (maxL := 1) (ret := (some (.object "InstructionReader$Kind"))) (by decide +kernel) rfl ?_
  intro p e s m args below meth c s₁ B hml hv
  obtain ⟨rfl, hC⟩ := hv
  have hx := B.exec
  have hb := B.bytes
  have hr := B.returns
  have hts := atoms_spec (ws := (Cond.code y_L_plain b_L_plain 1 (some (.object "InstructionReader$Kind")) :: WT)) B.pre
  have hT : ∀ w ∈ WT, w.before _ s = true := fun w h => hts w (inC w h)
  have hown : s.vm.findClass R_L = some m.cls := findClass_of_methodNamed B.named
  have hlocks := B.notSynchronized
  have hS : va_S no s.heap s.heap [] := va_S.rf
  have S : CallFix p m c b_L_plain 1 s _ (Cond.code y_L_plain b_L_plain 1 (some (.object "InstructionReader$Kind")) :: WT) R_L := ⟨hx, hb, hml, hown, hts⟩
  have hl := lv_entry ([.int x0]) (n := 1) (Nat.le_of_ble_eq_true rfl)
  rw [lg_entry_eq]
  generalize (lg_sl ([.int x0]) ++ List.replicate (1 - (lg_sl ([.int x0])).length) Slot.unset).toArray = ls at hl ⊢
  have hl : lv_has ls 1 [(0, .int x0)] := hl
  refine lv_iload_n hx hb d_L_plain_0 rfl (lv_at hl 0 rfl) ?_
  by_cases c_1 : x0 = 0
  · refine lv_tableIn (off := 43) (tgt := 44) hx hb d_L_plain_1 (by rw [c_1]; decide) (by rw [c_1]; decide) (by rw [c_1]; decide) (by decide) ?_
    refine va_gets (v := .ref (adE 2)) hx hb (z_ADD hC) hS hown (hT _ m_217) (fun _ h => h) d_L_plain_44 ?_
    exact W.aret (v := .ref (adE 2)) hx hb hr (Or.inl ⟨_, rfl⟩) (Or.inr ⟨_, rfl⟩) (fun t ht hW => ⟨some 2, rfl, congrArg some (by rw [f_L_plain, if_pos c_1]), ht⟩) (fun _ h => by cases h) d_L_plain_47
  · by_cases c_2 : x0 = 1
    · refine lv_tableIn (off := 47) (tgt := 48) hx hb d_L_plain_1 (by rw [c_2]; decide) (by rw [c_2]; decide) (by rw [c_2]; decide) (by decide) ?_
      refine va_gets (v := .ref (adE 4)) hx hb (z_SLL hC) hS hown (hT _ m_219) (fun _ h => h) d_L_plain_48 ?_
      exact W.aret (v := .ref (adE 4)) hx hb hr (Or.inl ⟨_, rfl⟩) (Or.inr ⟨_, rfl⟩) (fun t ht hW => ⟨some 4, rfl, congrArg some (by rw [f_L_plain, if_neg c_1, if_pos c_2]), ht⟩) (fun _ h => by cases h) d_L_plain_51
    · by_cases c_3 : x0 = 2
      · refine lv_tableIn (off := 51) (tgt := 52) hx hb d_L_plain_1 (by rw [c_3]; decide) (by rw [c_3]; decide) (by rw [c_3]; decide) (by decide) ?_
        refine va_gets (v := .ref (adE 5)) hx hb (z_SLT hC) hS hown (hT _ m_221) (fun _ h => h) d_L_plain_52 ?_
        exact W.aret (v := .ref (adE 5)) hx hb hr (Or.inl ⟨_, rfl⟩) (Or.inr ⟨_, rfl⟩) (fun t ht hW => ⟨some 5, rfl, congrArg some (by rw [f_L_plain, if_neg c_1, if_neg c_2, if_pos c_3]), ht⟩) (fun _ h => by cases h) d_L_plain_55
      · by_cases c_4 : x0 = 3
        · refine lv_tableIn (off := 55) (tgt := 56) hx hb d_L_plain_1 (by rw [c_4]; decide) (by rw [c_4]; decide) (by rw [c_4]; decide) (by decide) ?_
          refine va_gets (v := .ref (adE 6)) hx hb (z_SLTU hC) hS hown (hT _ m_223) (fun _ h => h) d_L_plain_56 ?_
          exact W.aret (v := .ref (adE 6)) hx hb hr (Or.inl ⟨_, rfl⟩) (Or.inr ⟨_, rfl⟩) (fun t ht hW => ⟨some 6, rfl, congrArg some (by rw [f_L_plain, if_neg c_1, if_neg c_2, if_neg c_3, if_pos c_4]), ht⟩) (fun _ h => by cases h) d_L_plain_59
        · by_cases c_5 : x0 = 4
          · refine lv_tableIn (off := 59) (tgt := 60) hx hb d_L_plain_1 (by rw [c_5]; decide) (by rw [c_5]; decide) (by rw [c_5]; decide) (by decide) ?_
            refine va_gets (v := .ref (adE 7)) hx hb (z_XOR hC) hS hown (hT _ m_225) (fun _ h => h) d_L_plain_60 ?_
            exact W.aret (v := .ref (adE 7)) hx hb hr (Or.inl ⟨_, rfl⟩) (Or.inr ⟨_, rfl⟩) (fun t ht hW => ⟨some 7, rfl, congrArg some (by rw [f_L_plain, if_neg c_1, if_neg c_2, if_neg c_3, if_neg c_4, if_pos c_5]), ht⟩) (fun _ h => by cases h) d_L_plain_63
          · by_cases c_6 : x0 = 5
            · refine lv_tableIn (off := 63) (tgt := 64) hx hb d_L_plain_1 (by rw [c_6]; decide) (by rw [c_6]; decide) (by rw [c_6]; decide) (by decide) ?_
              refine va_gets (v := .ref (adE 8)) hx hb (z_SRL hC) hS hown (hT _ m_227) (fun _ h => h) d_L_plain_64 ?_
              exact W.aret (v := .ref (adE 8)) hx hb hr (Or.inl ⟨_, rfl⟩) (Or.inr ⟨_, rfl⟩) (fun t ht hW => ⟨some 8, rfl, congrArg some (by rw [f_L_plain, if_neg c_1, if_neg c_2, if_neg c_3, if_neg c_4, if_neg c_5, if_pos c_6]), ht⟩) (fun _ h => by cases h) d_L_plain_67
            · by_cases c_7 : x0 = 6
              · refine lv_tableIn (off := 67) (tgt := 68) hx hb d_L_plain_1 (by rw [c_7]; decide) (by rw [c_7]; decide) (by rw [c_7]; decide) (by decide) ?_
                refine va_gets (v := .ref (adE 10)) hx hb (z_OR hC) hS hown (hT _ m_229) (fun _ h => h) d_L_plain_68 ?_
                exact W.aret (v := .ref (adE 10)) hx hb hr (Or.inl ⟨_, rfl⟩) (Or.inr ⟨_, rfl⟩) (fun t ht hW => ⟨some 10, rfl, congrArg some (by rw [f_L_plain, if_neg c_1, if_neg c_2, if_neg c_3, if_neg c_4, if_neg c_5, if_neg c_6, if_pos c_7]), ht⟩) (fun _ h => by cases h) d_L_plain_71
              · refine lv_tableOut (tgt := 72) hx hb d_L_plain_1 (by have n0 := lv_neT c_1 (show (0 : Int32).toInt = 0 by decide); have n1 := lv_neT c_2 (show (1 : Int32).toInt = 1 by decide); have n2 := lv_neT c_3 (show (2 : Int32).toInt = 2 by decide); have n3 := lv_neT c_4 (show (3 : Int32).toInt = 3 by decide); have n4 := lv_neT c_5 (show (4 : Int32).toInt = 4 by decide); have n5 := lv_neT c_6 (show (5 : Int32).toInt = 5 by decide); have n6 := lv_neT c_7 (show (6 : Int32).toInt = 6 by decide); omega) (by decide) ?_
                refine va_gets (v := .ref (adE 11)) hx hb (z_AND hC) hS hown (hT _ m_231) (fun _ h => h) d_L_plain_72 ?_
                exact W.aret (v := .ref (adE 11)) hx hb hr (Or.inl ⟨_, rfl⟩) (Or.inr ⟨_, rfl⟩) (fun t ht hW => ⟨some 11, rfl, congrArg some (by rw [f_L_plain, if_neg c_1, if_neg c_2, if_neg c_3, if_neg c_4, if_neg c_5, if_neg c_6, if_neg c_7]), ht⟩) (fun _ h => by cases h) d_L_plain_75
theorem call_L_plain {p : Program} {l : Launch} {e : Env} {R : Room} {s : State} {m : MethodId} {args : Array Value} {below : List Frame} {meth : Method} {c : Code} {H : Heap} {locs : List Loc} {cells slots : Nat} {Q : State → Prop} {cc : ByteArray} {pc nL idx : Nat} {ls : Array Slot} {rest : List Value} {Ts : List Cond} {own : String} {adE adK adV : Nat → Nat} {A0 : Nat → Prop} {x0 : Int32} (S : CallFix p m c cc nL s args Ts own) (hTs : ∀ w ∈ WT, w ∈ Ts) (h1 : Cond.methodLink own idx y_L_plain ∈ WT) (hR : 0 + 1 ≤ R.frames ∧ 8 + (1 + 11) + 0 ≤ R.locals) (hsz : ls.size = nL) (hrm : (rest.map fun v => v.category).sum ≤ 8) (hdg : decode cc pc = .ok (.invokestatic idx, 3)) (hc : cells ≤ R.cells ∧ slots ≤ R.slots) (hC : cx adE adK adV A0 s s.heap) (hS : va_S A0 s.heap H locs) (kk : W p l e R s m args below meth c H locs cells slots Q (F0 m (pc + 3) ls (.ref (adE (f_L_plain x0)) :: rest))) : W p l e R s m args below meth c H locs cells slots Q (F0 m pc ls (.int x0 :: rest)) :=
  va_cse (va_Run.run (va_runS (As := [.int x0]) (rest := rest) S (c_L_plain l adE adK adV x0) (va_cwS 1 S.2.2.2.2 (gS hTs h1 m_215 m_53 m_216) rfl rfl rfl (by decide +kernel) hR) ⟨fun a U g mk q => ⟨q.1, q.2.blind⟩, fun U hU hW => ⟨rfl, hC.at hS no_in hU hW⟩⟩ rfl rfl hsz rfl (lv_room hrm) hdg hc)) (fun r e => by subst e; exact kk)

def f_L_product (x0 : Int32) : Nat :=
  if x0 = 0 then
    12
  else
    if x0 = 1 then
      13
    else
      if x0 = 2 then
        14
      else
        if x0 = 3 then
          15
        else
          if x0 = 4 then
            16
          else
            if x0 = 5 then
              17
            else
              if x0 = 6 then
                18
              else
                19
set_option maxRecDepth 100000 in
set_option maxHeartbeats 4000000 in
theorem c_L_product (l : Launch) (adE adK adV : Nat → Nat) (x0 : Int32) : Met l y_L_product (Cond.code y_L_product b_L_product 1 (some (.object "InstructionReader$Kind")) :: WT) ({ frames := 0, cells := 0, slots := 0, locals := 0 }) (va_Pc [.int x0] (fun U => cx adE adK adV no U U.heap)) (va_Se adE (fun r => r = some (f_L_product x0))) 0 0 no := by
  refine va_MetF (cc := b_L_product) (maxL := 1) (ret := (some (.object "InstructionReader$Kind"))) (by decide +kernel) rfl ?_
  intro p e s m args below meth c s₁ B hml hv
  obtain ⟨rfl, hC⟩ := hv
  have hx := B.exec
  have hb := B.bytes
  have hr := B.returns
  have hts := atoms_spec (ws := (Cond.code y_L_product b_L_product 1 (some (.object "InstructionReader$Kind")) :: WT)) B.pre
  have hT : ∀ w ∈ WT, w.before _ s = true := fun w h => hts w (inC w h)
  have hown : s.vm.findClass R_L = some m.cls := findClass_of_methodNamed B.named
  have hlocks := B.notSynchronized
  have hS : va_S no s.heap s.heap [] := va_S.rf
  have S : CallFix p m c b_L_product 1 s _ (Cond.code y_L_product b_L_product 1 (some (.object "InstructionReader$Kind")) :: WT) R_L := ⟨hx, hb, hml, hown, hts⟩
  have hl := lv_entry ([.int x0]) (n := 1) (Nat.le_of_ble_eq_true rfl)
  rw [lg_entry_eq]
  generalize (lg_sl ([.int x0]) ++ List.replicate (1 - (lg_sl ([.int x0])).length) Slot.unset).toArray = ls at hl ⊢
  have hl : lv_has ls 1 [(0, .int x0)] := hl
  refine lv_iload_n hx hb d_L_product_0 rfl (lv_at hl 0 rfl) ?_
  by_cases c_1 : x0 = 0
  · refine lv_tableIn (off := 43) (tgt := 44) hx hb d_L_product_1 (by rw [c_1]; decide) (by rw [c_1]; decide) (by rw [c_1]; decide) (by decide) ?_
    refine va_gets (v := .ref (adE 12)) hx hb (z_MUL hC) hS hown (hT _ m_236) (fun _ h => h) d_L_product_44 ?_
    exact W.aret (v := .ref (adE 12)) hx hb hr (Or.inl ⟨_, rfl⟩) (Or.inr ⟨_, rfl⟩) (fun t ht hW => ⟨some 12, rfl, congrArg some (by rw [f_L_product, if_pos c_1]), ht⟩) (fun _ h => by cases h) d_L_product_47
  · by_cases c_2 : x0 = 1
    · refine lv_tableIn (off := 47) (tgt := 48) hx hb d_L_product_1 (by rw [c_2]; decide) (by rw [c_2]; decide) (by rw [c_2]; decide) (by decide) ?_
      refine va_gets (v := .ref (adE 13)) hx hb (z_MULH hC) hS hown (hT _ m_238) (fun _ h => h) d_L_product_48 ?_
      exact W.aret (v := .ref (adE 13)) hx hb hr (Or.inl ⟨_, rfl⟩) (Or.inr ⟨_, rfl⟩) (fun t ht hW => ⟨some 13, rfl, congrArg some (by rw [f_L_product, if_neg c_1, if_pos c_2]), ht⟩) (fun _ h => by cases h) d_L_product_51
    · by_cases c_3 : x0 = 2
      · refine lv_tableIn (off := 51) (tgt := 52) hx hb d_L_product_1 (by rw [c_3]; decide) (by rw [c_3]; decide) (by rw [c_3]; decide) (by decide) ?_
        refine va_gets (v := .ref (adE 14)) hx hb (z_MULHSU hC) hS hown (hT _ m_240) (fun _ h => h) d_L_product_52 ?_
        exact W.aret (v := .ref (adE 14)) hx hb hr (Or.inl ⟨_, rfl⟩) (Or.inr ⟨_, rfl⟩) (fun t ht hW => ⟨some 14, rfl, congrArg some (by rw [f_L_product, if_neg c_1, if_neg c_2, if_pos c_3]), ht⟩) (fun _ h => by cases h) d_L_product_55
      · by_cases c_4 : x0 = 3
        · refine lv_tableIn (off := 55) (tgt := 56) hx hb d_L_product_1 (by rw [c_4]; decide) (by rw [c_4]; decide) (by rw [c_4]; decide) (by decide) ?_
          refine va_gets (v := .ref (adE 15)) hx hb (z_MULHU hC) hS hown (hT _ m_242) (fun _ h => h) d_L_product_56 ?_
          exact W.aret (v := .ref (adE 15)) hx hb hr (Or.inl ⟨_, rfl⟩) (Or.inr ⟨_, rfl⟩) (fun t ht hW => ⟨some 15, rfl, congrArg some (by rw [f_L_product, if_neg c_1, if_neg c_2, if_neg c_3, if_pos c_4]), ht⟩) (fun _ h => by cases h) d_L_product_59
        · by_cases c_5 : x0 = 4
          · refine lv_tableIn (off := 59) (tgt := 60) hx hb d_L_product_1 (by rw [c_5]; decide) (by rw [c_5]; decide) (by rw [c_5]; decide) (by decide) ?_
            refine va_gets (v := .ref (adE 16)) hx hb (z_DIV hC) hS hown (hT _ m_244) (fun _ h => h) d_L_product_60 ?_
            exact W.aret (v := .ref (adE 16)) hx hb hr (Or.inl ⟨_, rfl⟩) (Or.inr ⟨_, rfl⟩) (fun t ht hW => ⟨some 16, rfl, congrArg some (by rw [f_L_product, if_neg c_1, if_neg c_2, if_neg c_3, if_neg c_4, if_pos c_5]), ht⟩) (fun _ h => by cases h) d_L_product_63
          · by_cases c_6 : x0 = 5
            · refine lv_tableIn (off := 63) (tgt := 64) hx hb d_L_product_1 (by rw [c_6]; decide) (by rw [c_6]; decide) (by rw [c_6]; decide) (by decide) ?_
              refine va_gets (v := .ref (adE 17)) hx hb (z_DIVU hC) hS hown (hT _ m_246) (fun _ h => h) d_L_product_64 ?_
              exact W.aret (v := .ref (adE 17)) hx hb hr (Or.inl ⟨_, rfl⟩) (Or.inr ⟨_, rfl⟩) (fun t ht hW => ⟨some 17, rfl, congrArg some (by rw [f_L_product, if_neg c_1, if_neg c_2, if_neg c_3, if_neg c_4, if_neg c_5, if_pos c_6]), ht⟩) (fun _ h => by cases h) d_L_product_67
            · by_cases c_7 : x0 = 6
              · refine lv_tableIn (off := 67) (tgt := 68) hx hb d_L_product_1 (by rw [c_7]; decide) (by rw [c_7]; decide) (by rw [c_7]; decide) (by decide) ?_
                refine va_gets (v := .ref (adE 18)) hx hb (z_REM hC) hS hown (hT _ m_248) (fun _ h => h) d_L_product_68 ?_
                exact W.aret (v := .ref (adE 18)) hx hb hr (Or.inl ⟨_, rfl⟩) (Or.inr ⟨_, rfl⟩) (fun t ht hW => ⟨some 18, rfl, congrArg some (by rw [f_L_product, if_neg c_1, if_neg c_2, if_neg c_3, if_neg c_4, if_neg c_5, if_neg c_6, if_pos c_7]), ht⟩) (fun _ h => by cases h) d_L_product_71
              · refine lv_tableOut (tgt := 72) hx hb d_L_product_1 (by have n0 := lv_neT c_1 (show (0 : Int32).toInt = 0 by decide); have n1 := lv_neT c_2 (show (1 : Int32).toInt = 1 by decide); have n2 := lv_neT c_3 (show (2 : Int32).toInt = 2 by decide); have n3 := lv_neT c_4 (show (3 : Int32).toInt = 3 by decide); have n4 := lv_neT c_5 (show (4 : Int32).toInt = 4 by decide); have n5 := lv_neT c_6 (show (5 : Int32).toInt = 5 by decide); have n6 := lv_neT c_7 (show (6 : Int32).toInt = 6 by decide); omega) (by decide) ?_
                refine va_gets (v := .ref (adE 19)) hx hb (z_REMU hC) hS hown (hT _ m_250) (fun _ h => h) d_L_product_72 ?_
                exact W.aret (v := .ref (adE 19)) hx hb hr (Or.inl ⟨_, rfl⟩) (Or.inr ⟨_, rfl⟩) (fun t ht hW => ⟨some 19, rfl, congrArg some (by rw [f_L_product, if_neg c_1, if_neg c_2, if_neg c_3, if_neg c_4, if_neg c_5, if_neg c_6, if_neg c_7]), ht⟩) (fun _ h => by cases h) d_L_product_75
theorem call_L_product {p : Program} {l : Launch} {e : Env} {R : Room} {s : State} {m : MethodId} {args : Array Value} {below : List Frame} {meth : Method} {c : Code} {H : Heap} {locs : List Loc} {cells slots : Nat} {Q : State → Prop} {cc : ByteArray} {pc nL idx : Nat} {ls : Array Slot} {rest : List Value} {Ts : List Cond} {own : String} {adE adK adV : Nat → Nat} {A0 : Nat → Prop} {x0 : Int32} (S : CallFix p m c cc nL s args Ts own) (hTs : ∀ w ∈ WT, w ∈ Ts) (h1 : Cond.methodLink own idx y_L_product ∈ WT) (hR : 0 + 1 ≤ R.frames ∧ 8 + (1 + 11) + 0 ≤ R.locals) (hsz : ls.size = nL) (hrm : (rest.map fun v => v.category).sum ≤ 8) (hdg : decode cc pc = .ok (.invokestatic idx, 3)) (hc : cells ≤ R.cells ∧ slots ≤ R.slots) (hC : cx adE adK adV A0 s s.heap) (hS : va_S A0 s.heap H locs) (kk : W p l e R s m args below meth c H locs cells slots Q (F0 m (pc + 3) ls (.ref (adE (f_L_product x0)) :: rest))) : W p l e R s m args below meth c H locs cells slots Q (F0 m pc ls (.int x0 :: rest)) :=
  va_cse (va_Run.run (va_runS (As := [.int x0]) (rest := rest) S (c_L_product l adE adK adV x0) (va_cwS 1 S.2.2.2.2 (gS hTs h1 m_234 m_53 m_235) rfl rfl rfl (by decide +kernel) hR) ⟨fun a U g mk q => ⟨q.1, q.2.blind⟩, fun U hU hW => ⟨rfl, hC.at hS no_in hU hW⟩⟩ rfl rfl hsz rfl (lv_room hrm) hdg hc)) (fun r e => by subst e; exact kk)

def f_L_secondOfTwo (x0 : Int32) : Nat :=
  if x0 = 0 then
    3
  else
    if x0 = 5 then
      9
    else
      0
set_option maxRecDepth 100000 in
set_option maxHeartbeats 4000000 in
theorem c_L_secondOfTwo (l : Launch) (adE adK adV : Nat → Nat) (x0 : Int32) : Met l y_L_secondOfTwo (Cond.code y_L_secondOfTwo b_L_secondOfTwo 1 (some (.object "InstructionReader$Kind")) :: WT) ({ frames := 0, cells := 0, slots := 0, locals := 0 }) (va_Pc [.int x0] (fun U => cx adE adK adV no U U.heap)) (va_Se adE (fun r => r = some (f_L_secondOfTwo x0))) 0 0 no := by
  refine va_MetF (cc := b_L_secondOfTwo) (maxL := 1) (ret := (some (.object "InstructionReader$Kind"))) (by decide +kernel) rfl ?_
  intro p e s m args below meth c s₁ B hml hv
  obtain ⟨rfl, hC⟩ := hv
  have hx := B.exec
  have hb := B.bytes
  have hr := B.returns
  have hts := atoms_spec (ws := (Cond.code y_L_secondOfTwo b_L_secondOfTwo 1 (some (.object "InstructionReader$Kind")) :: WT)) B.pre
  have hT : ∀ w ∈ WT, w.before _ s = true := fun w h => hts w (inC w h)
  have hown : s.vm.findClass R_L = some m.cls := findClass_of_methodNamed B.named
  have hlocks := B.notSynchronized
  have hS : va_S no s.heap s.heap [] := va_S.rf
  have S : CallFix p m c b_L_secondOfTwo 1 s _ (Cond.code y_L_secondOfTwo b_L_secondOfTwo 1 (some (.object "InstructionReader$Kind")) :: WT) R_L := ⟨hx, hb, hml, hown, hts⟩
  have hl := lv_entry ([.int x0]) (n := 1) (Nat.le_of_ble_eq_true rfl)
  rw [lg_entry_eq]
  generalize (lg_sl ([.int x0]) ++ List.replicate (1 - (lg_sl ([.int x0])).length) Slot.unset).toArray = ls at hl ⊢
  have hl : lv_has ls 1 [(0, .int x0)] := hl
  refine lv_iload_n hx hb d_L_secondOfTwo_0 rfl (lv_at hl 0 rfl) ?_
  by_cases c_1 : x0 = 0
  · refine lv_lookup (off := 27) (tgt := 28) hx hb d_L_secondOfTwo_1 (by decide) (by rw [c_1]; decide) (by decide) ?_
    refine va_gets (v := .ref (adE 3)) hx hb (z_SUB hC) hS hown (hT _ m_255) (fun _ h => h) d_L_secondOfTwo_28 ?_
    exact W.aret (v := .ref (adE 3)) hx hb hr (Or.inl ⟨_, rfl⟩) (Or.inr ⟨_, rfl⟩) (fun t ht hW => ⟨some 3, rfl, congrArg some (by rw [f_L_secondOfTwo, if_pos c_1]), ht⟩) (fun _ h => by cases h) d_L_secondOfTwo_31
  · by_cases c_2 : x0 = 5
    · refine lv_lookup (off := 31) (tgt := 32) hx hb d_L_secondOfTwo_1 (by decide) (by rw [c_2]; decide) (by decide) ?_
      refine va_gets (v := .ref (adE 9)) hx hb (z_SRA hC) hS hown (hT _ m_257) (fun _ h => h) d_L_secondOfTwo_32 ?_
      exact W.aret (v := .ref (adE 9)) hx hb hr (Or.inl ⟨_, rfl⟩) (Or.inr ⟨_, rfl⟩) (fun t ht hW => ⟨some 9, rfl, congrArg some (by rw [f_L_secondOfTwo, if_neg c_1, if_pos c_2]), ht⟩) (fun _ h => by cases h) d_L_secondOfTwo_35
    · refine lv_lookup (off := 35) (tgt := 36) hx hb d_L_secondOfTwo_1 (by decide) (by show Op.lookupswitch.offset [(0, 27), (5, 31)] 35 _ = 35; rw [lv_osw c_1 (by decide), lv_osw c_2 (by decide)]; rfl) (by decide) ?_
      refine va_gets (v := .ref (adE 0)) hx hb (z_WORD hC) hS hown (hT _ m_138) (fun _ h => h) d_L_secondOfTwo_36 ?_
      exact W.aret (v := .ref (adE 0)) hx hb hr (Or.inl ⟨_, rfl⟩) (Or.inr ⟨_, rfl⟩) (fun t ht hW => ⟨some 0, rfl, congrArg some (by rw [f_L_secondOfTwo, if_neg c_1, if_neg c_2]), ht⟩) (fun _ h => by cases h) d_L_secondOfTwo_39
theorem call_L_secondOfTwo {p : Program} {l : Launch} {e : Env} {R : Room} {s : State} {m : MethodId} {args : Array Value} {below : List Frame} {meth : Method} {c : Code} {H : Heap} {locs : List Loc} {cells slots : Nat} {Q : State → Prop} {cc : ByteArray} {pc nL idx : Nat} {ls : Array Slot} {rest : List Value} {Ts : List Cond} {own : String} {adE adK adV : Nat → Nat} {A0 : Nat → Prop} {x0 : Int32} (S : CallFix p m c cc nL s args Ts own) (hTs : ∀ w ∈ WT, w ∈ Ts) (h1 : Cond.methodLink own idx y_L_secondOfTwo ∈ WT) (hR : 0 + 1 ≤ R.frames ∧ 8 + (1 + 11) + 0 ≤ R.locals) (hsz : ls.size = nL) (hrm : (rest.map fun v => v.category).sum ≤ 8) (hdg : decode cc pc = .ok (.invokestatic idx, 3)) (hc : cells ≤ R.cells ∧ slots ≤ R.slots) (hC : cx adE adK adV A0 s s.heap) (hS : va_S A0 s.heap H locs) (kk : W p l e R s m args below meth c H locs cells slots Q (F0 m (pc + 3) ls (.ref (adE (f_L_secondOfTwo x0)) :: rest))) : W p l e R s m args below meth c H locs cells slots Q (F0 m pc ls (.int x0 :: rest)) :=
  va_cse (va_Run.run (va_runS (As := [.int x0]) (rest := rest) S (c_L_secondOfTwo l adE adK adV x0) (va_cwS 1 S.2.2.2.2 (gS hTs h1 m_253 m_53 m_254) rfl rfl rfl (by decide +kernel) hR) ⟨fun a U g mk q => ⟨q.1, q.2.blind⟩, fun U hU hW => ⟨rfl, hC.at hS no_in hU hW⟩⟩ rfl rfl hsz rfl (lv_room hrm) hdg hc)) (fun r e => by subst e; exact kk)

def f_L_ofRegisters (x0 x1 : Int32) : Nat :=
  if x1 = 0 then
    f_L_plain x0
  else
    if x1 = 1 then
      f_L_product x0
    else
      if x1 = 32 then
        f_L_secondOfTwo x0
      else
        0
set_option maxRecDepth 100000 in
set_option maxHeartbeats 4000000 in
theorem c_L_ofRegisters (l : Launch) (adE adK adV : Nat → Nat) (x0 x1 : Int32) : Met l y_L_ofRegisters (Cond.code y_L_ofRegisters b_L_ofRegisters 2 (some (.object "InstructionReader$Kind")) :: WT) ({ frames := 1, cells := 0, slots := 0, locals := 20 }) (va_Pc [.int x0, .int x1] (fun U => cx adE adK adV no U U.heap)) (va_Se adE (fun r => r = some (f_L_ofRegisters x0 x1))) 0 0 no := by
  refine va_MetF (cc := b_L_ofRegisters) (maxL := 2) (ret := (some (.object "InstructionReader$Kind"))) (by decide +kernel) rfl ?_
  intro p e s m args below meth c s₁ B hml hv
  obtain ⟨rfl, hC⟩ := hv
  have hx := B.exec
  have hb := B.bytes
  have hr := B.returns
  have hts := atoms_spec (ws := (Cond.code y_L_ofRegisters b_L_ofRegisters 2 (some (.object "InstructionReader$Kind")) :: WT)) B.pre
  have hT : ∀ w ∈ WT, w.before _ s = true := fun w h => hts w (inC w h)
  have hown : s.vm.findClass R_L = some m.cls := findClass_of_methodNamed B.named
  have hlocks := B.notSynchronized
  have hS : va_S no s.heap s.heap [] := va_S.rf
  have S : CallFix p m c b_L_ofRegisters 2 s _ (Cond.code y_L_ofRegisters b_L_ofRegisters 2 (some (.object "InstructionReader$Kind")) :: WT) R_L := ⟨hx, hb, hml, hown, hts⟩
  have hl := lv_entry ([.int x0, .int x1]) (n := 2) (Nat.le_of_ble_eq_true rfl)
  rw [lg_entry_eq]
  generalize (lg_sl ([.int x0, .int x1]) ++ List.replicate (2 - (lg_sl ([.int x0, .int x1])).length) Slot.unset).toArray = ls at hl ⊢
  have hl : lv_has ls 2 [(0, .int x0), (1, .int x1)] := hl
  refine lv_iload_n hx hb d_L_ofRegisters_0 rfl (lv_at hl 1 rfl) ?_
  by_cases c_1 : x1 = 0
  · refine lv_lookup (off := 35) (tgt := 36) hx hb d_L_ofRegisters_1 (by decide) (by rw [c_1]; decide) (by decide) ?_
    refine lv_iload_n hx hb d_L_ofRegisters_36 rfl (lv_at hl 0 rfl) ?_
    refine call_L_plain S inC m_214 ⟨(Nat.le_of_ble_eq_true rfl), (Nat.le_of_ble_eq_true rfl)⟩ hl.1 (Nat.le_of_ble_eq_true rfl) d_L_ofRegisters_37 ⟨(Nat.le_of_ble_eq_true rfl), (Nat.le_of_ble_eq_true rfl)⟩ hC hS ?_
    exact W.aret (v := .ref (adE (f_L_plain x0))) hx hb hr (Or.inl ⟨_, rfl⟩) (Or.inr ⟨_, rfl⟩) (fun t ht hW => ⟨some (f_L_plain x0), rfl, congrArg some (by rw [f_L_ofRegisters, if_pos c_1]), ht⟩) (fun _ h => by cases h) d_L_ofRegisters_40
  · by_cases c_2 : x1 = 1
    · refine lv_lookup (off := 40) (tgt := 41) hx hb d_L_ofRegisters_1 (by decide) (by rw [c_2]; decide) (by decide) ?_
      refine lv_iload_n hx hb d_L_ofRegisters_41 rfl (lv_at hl 0 rfl) ?_
      refine call_L_product S inC m_233 ⟨(Nat.le_of_ble_eq_true rfl), (Nat.le_of_ble_eq_true rfl)⟩ hl.1 (Nat.le_of_ble_eq_true rfl) d_L_ofRegisters_42 ⟨(Nat.le_of_ble_eq_true rfl), (Nat.le_of_ble_eq_true rfl)⟩ hC hS ?_
      exact W.aret (v := .ref (adE (f_L_product x0))) hx hb hr (Or.inl ⟨_, rfl⟩) (Or.inr ⟨_, rfl⟩) (fun t ht hW => ⟨some (f_L_product x0), rfl, congrArg some (by rw [f_L_ofRegisters, if_neg c_1, if_pos c_2]), ht⟩) (fun _ h => by cases h) d_L_ofRegisters_45
    · by_cases c_3 : x1 = 32
      · refine lv_lookup (off := 45) (tgt := 46) hx hb d_L_ofRegisters_1 (by decide) (by rw [c_3]; decide) (by decide) ?_
        refine lv_iload_n hx hb d_L_ofRegisters_46 rfl (lv_at hl 0 rfl) ?_
        refine call_L_secondOfTwo S inC m_252 ⟨(Nat.le_of_ble_eq_true rfl), (Nat.le_of_ble_eq_true rfl)⟩ hl.1 (Nat.le_of_ble_eq_true rfl) d_L_ofRegisters_47 ⟨(Nat.le_of_ble_eq_true rfl), (Nat.le_of_ble_eq_true rfl)⟩ hC hS ?_
        exact W.aret (v := .ref (adE (f_L_secondOfTwo x0))) hx hb hr (Or.inl ⟨_, rfl⟩) (Or.inr ⟨_, rfl⟩) (fun t ht hW => ⟨some (f_L_secondOfTwo x0), rfl, congrArg some (by rw [f_L_ofRegisters, if_neg c_1, if_neg c_2, if_pos c_3]), ht⟩) (fun _ h => by cases h) d_L_ofRegisters_50
      · refine lv_lookup (off := 50) (tgt := 51) hx hb d_L_ofRegisters_1 (by decide) (by show Op.lookupswitch.offset [(0, 35), (1, 40), (32, 45)] 50 _ = 50; rw [lv_osw c_1 (by decide), lv_osw c_2 (by decide), lv_osw c_3 (by decide)]; rfl) (by decide) ?_
        refine va_gets (v := .ref (adE 0)) hx hb (z_WORD hC) hS hown (hT _ m_138) (fun _ h => h) d_L_ofRegisters_51 ?_
        exact W.aret (v := .ref (adE 0)) hx hb hr (Or.inl ⟨_, rfl⟩) (Or.inr ⟨_, rfl⟩) (fun t ht hW => ⟨some 0, rfl, congrArg some (by rw [f_L_ofRegisters, if_neg c_1, if_neg c_2, if_neg c_3]), ht⟩) (fun _ h => by cases h) d_L_ofRegisters_54
theorem call_L_ofRegisters {p : Program} {l : Launch} {e : Env} {R : Room} {s : State} {m : MethodId} {args : Array Value} {below : List Frame} {meth : Method} {c : Code} {H : Heap} {locs : List Loc} {cells slots : Nat} {Q : State → Prop} {cc : ByteArray} {pc nL idx : Nat} {ls : Array Slot} {rest : List Value} {Ts : List Cond} {own : String} {adE adK adV : Nat → Nat} {A0 : Nat → Prop} {x0 x1 : Int32} (S : CallFix p m c cc nL s args Ts own) (hTs : ∀ w ∈ WT, w ∈ Ts) (h1 : Cond.methodLink own idx y_L_ofRegisters ∈ WT) (hR : 1 + 1 ≤ R.frames ∧ 8 + (2 + 11) + 20 ≤ R.locals) (hsz : ls.size = nL) (hrm : (rest.map fun v => v.category).sum ≤ 8) (hdg : decode cc pc = .ok (.invokestatic idx, 3)) (hc : cells ≤ R.cells ∧ slots ≤ R.slots) (hC : cx adE adK adV A0 s s.heap) (hS : va_S A0 s.heap H locs) (kk : W p l e R s m args below meth c H locs cells slots Q (F0 m (pc + 3) ls (.ref (adE (f_L_ofRegisters x0 x1)) :: rest))) : W p l e R s m args below meth c H locs cells slots Q (F0 m pc ls (.int x1 :: .int x0 :: rest)) :=
  va_cse (va_Run.run (va_runS (As := [.int x0, .int x1]) (rest := rest) S (c_L_ofRegisters l adE adK adV x0 x1) (va_cwS 2 S.2.2.2.2 (gS hTs h1 m_212 m_53 m_213) rfl rfl rfl (by decide +kernel) hR) ⟨fun a U g mk q => ⟨q.1, q.2.blind⟩, fun U hU hW => ⟨rfl, hC.at hS no_in hU hW⟩⟩ rfl rfl hsz rfl (lv_room hrm) hdg hc)) (fun r e => by subst e; exact kk)

def f_L_branch (x0 : Int32) : Nat :=
  if x0 = 0 then
    40
  else
    if x0 = 1 then
      41
    else
      if x0 = 4 then
        42
      else
        if x0 = 5 then
          43
        else
          if x0 = 6 then
            44
          else
            if x0 = 7 then
              45
            else
              0
set_option maxRecDepth 100000 in
set_option maxHeartbeats 4000000 in
theorem c_L_branch (l : Launch) (adE adK adV : Nat → Nat) (x0 : Int32) : Met l y_L_branch (Cond.code y_L_branch b_L_branch 1 (some (.object "InstructionReader$Kind")) :: WT) ({ frames := 0, cells := 0, slots := 0, locals := 0 }) (va_Pc [.int x0] (fun U => cx adE adK adV no U U.heap)) (va_Se adE (fun r => r = some (f_L_branch x0))) 0 0 no := by
  refine va_MetF (cc := b_L_branch) (maxL := 1) (ret := (some (.object "InstructionReader$Kind"))) (by decide +kernel) rfl ?_
  intro p e s m args below meth c s₁ B hml hv
  obtain ⟨rfl, hC⟩ := hv
  have hx := B.exec
  have hb := B.bytes
  have hr := B.returns
  have hts := atoms_spec (ws := (Cond.code y_L_branch b_L_branch 1 (some (.object "InstructionReader$Kind")) :: WT)) B.pre
  have hT : ∀ w ∈ WT, w.before _ s = true := fun w h => hts w (inC w h)
  have hown : s.vm.findClass R_L = some m.cls := findClass_of_methodNamed B.named
  have hlocks := B.notSynchronized
  have hS : va_S no s.heap s.heap [] := va_S.rf
  have S : CallFix p m c b_L_branch 1 s _ (Cond.code y_L_branch b_L_branch 1 (some (.object "InstructionReader$Kind")) :: WT) R_L := ⟨hx, hb, hml, hown, hts⟩
  have hl := lv_entry ([.int x0]) (n := 1) (Nat.le_of_ble_eq_true rfl)
  rw [lg_entry_eq]
  generalize (lg_sl ([.int x0]) ++ List.replicate (1 - (lg_sl ([.int x0])).length) Slot.unset).toArray = ls at hl ⊢
  have hl : lv_has ls 1 [(0, .int x0)] := hl
  refine lv_iload_n hx hb d_L_branch_0 rfl (lv_at hl 0 rfl) ?_
  by_cases c_1 : x0 = 0
  · refine lv_tableIn (off := 47) (tgt := 48) hx hb d_L_branch_1 (by rw [c_1]; decide) (by rw [c_1]; decide) (by rw [c_1]; decide) (by decide) ?_
    refine va_gets (v := .ref (adE 40)) hx hb (z_BEQ hC) hS hown (hT _ m_264) (fun _ h => h) d_L_branch_48 ?_
    exact W.aret (v := .ref (adE 40)) hx hb hr (Or.inl ⟨_, rfl⟩) (Or.inr ⟨_, rfl⟩) (fun t ht hW => ⟨some 40, rfl, congrArg some (by rw [f_L_branch, if_pos c_1]), ht⟩) (fun _ h => by cases h) d_L_branch_51
  · by_cases c_2 : x0 = 1
    · refine lv_tableIn (off := 51) (tgt := 52) hx hb d_L_branch_1 (by rw [c_2]; decide) (by rw [c_2]; decide) (by rw [c_2]; decide) (by decide) ?_
      refine va_gets (v := .ref (adE 41)) hx hb (z_BNE hC) hS hown (hT _ m_266) (fun _ h => h) d_L_branch_52 ?_
      exact W.aret (v := .ref (adE 41)) hx hb hr (Or.inl ⟨_, rfl⟩) (Or.inr ⟨_, rfl⟩) (fun t ht hW => ⟨some 41, rfl, congrArg some (by rw [f_L_branch, if_neg c_1, if_pos c_2]), ht⟩) (fun _ h => by cases h) d_L_branch_55
    · by_cases c_3 : x0 = 4
      · refine lv_tableIn (off := 55) (tgt := 56) hx hb d_L_branch_1 (by rw [c_3]; decide) (by rw [c_3]; decide) (by rw [c_3]; decide) (by decide) ?_
        refine va_gets (v := .ref (adE 42)) hx hb (z_BLT hC) hS hown (hT _ m_268) (fun _ h => h) d_L_branch_56 ?_
        exact W.aret (v := .ref (adE 42)) hx hb hr (Or.inl ⟨_, rfl⟩) (Or.inr ⟨_, rfl⟩) (fun t ht hW => ⟨some 42, rfl, congrArg some (by rw [f_L_branch, if_neg c_1, if_neg c_2, if_pos c_3]), ht⟩) (fun _ h => by cases h) d_L_branch_59
      · by_cases c_4 : x0 = 5
        · refine lv_tableIn (off := 59) (tgt := 60) hx hb d_L_branch_1 (by rw [c_4]; decide) (by rw [c_4]; decide) (by rw [c_4]; decide) (by decide) ?_
          refine va_gets (v := .ref (adE 43)) hx hb (z_BGE hC) hS hown (hT _ m_270) (fun _ h => h) d_L_branch_60 ?_
          exact W.aret (v := .ref (adE 43)) hx hb hr (Or.inl ⟨_, rfl⟩) (Or.inr ⟨_, rfl⟩) (fun t ht hW => ⟨some 43, rfl, congrArg some (by rw [f_L_branch, if_neg c_1, if_neg c_2, if_neg c_3, if_pos c_4]), ht⟩) (fun _ h => by cases h) d_L_branch_63
        · by_cases c_5 : x0 = 6
          · refine lv_tableIn (off := 63) (tgt := 64) hx hb d_L_branch_1 (by rw [c_5]; decide) (by rw [c_5]; decide) (by rw [c_5]; decide) (by decide) ?_
            refine va_gets (v := .ref (adE 44)) hx hb (z_BLTU hC) hS hown (hT _ m_272) (fun _ h => h) d_L_branch_64 ?_
            exact W.aret (v := .ref (adE 44)) hx hb hr (Or.inl ⟨_, rfl⟩) (Or.inr ⟨_, rfl⟩) (fun t ht hW => ⟨some 44, rfl, congrArg some (by rw [f_L_branch, if_neg c_1, if_neg c_2, if_neg c_3, if_neg c_4, if_pos c_5]), ht⟩) (fun _ h => by cases h) d_L_branch_67
          · by_cases c_6 : x0 = 7
            · refine lv_tableIn (off := 67) (tgt := 68) hx hb d_L_branch_1 (by rw [c_6]; decide) (by rw [c_6]; decide) (by rw [c_6]; decide) (by decide) ?_
              refine va_gets (v := .ref (adE 45)) hx hb (z_BGEU hC) hS hown (hT _ m_274) (fun _ h => h) d_L_branch_68 ?_
              exact W.aret (v := .ref (adE 45)) hx hb hr (Or.inl ⟨_, rfl⟩) (Or.inr ⟨_, rfl⟩) (fun t ht hW => ⟨some 45, rfl, congrArg some (by rw [f_L_branch, if_neg c_1, if_neg c_2, if_neg c_3, if_neg c_4, if_neg c_5, if_pos c_6]), ht⟩) (fun _ h => by cases h) d_L_branch_71
            · refine tb_out (tgt := 72) hx hb d_L_branch_1 (by have n0 := lv_neT c_1 (show (0 : Int32).toInt = 0 from (by decide)); have n1 := lv_neT c_2 (show (1 : Int32).toInt = 1 from (by decide)); have n2 := lv_neT c_3 (show (4 : Int32).toInt = 4 from (by decide)); have n3 := lv_neT c_4 (show (5 : Int32).toInt = 5 from (by decide)); have n4 := lv_neT c_5 (show (6 : Int32).toInt = 6 from (by decide)); have n5 := lv_neT c_6 (show (7 : Int32).toInt = 7 from (by decide)); intro j hj hi; have key : ∀ j : Nat, j < 8 → j ∈ ([0, 1, 4, 5, 6, 7] : List Nat) ∨ (#[47, 51, 71, 71, 55, 59, 63, 67] : Array Int)[j]? = some 71 := (by decide); exact (key j (by omega)).elim (fun h => absurd h (by simp only [List.mem_cons, List.not_mem_nil, or_false]; omega)) id) (by decide) ?_
              refine va_gets (v := .ref (adE 0)) hx hb (z_WORD hC) hS hown (hT _ m_138) (fun _ h => h) d_L_branch_72 ?_
              exact W.aret (v := .ref (adE 0)) hx hb hr (Or.inl ⟨_, rfl⟩) (Or.inr ⟨_, rfl⟩) (fun t ht hW => ⟨some 0, rfl, congrArg some (by rw [f_L_branch, if_neg c_1, if_neg c_2, if_neg c_3, if_neg c_4, if_neg c_5, if_neg c_6]), ht⟩) (fun _ h => by cases h) d_L_branch_75
theorem call_L_branch {p : Program} {l : Launch} {e : Env} {R : Room} {s : State} {m : MethodId} {args : Array Value} {below : List Frame} {meth : Method} {c : Code} {H : Heap} {locs : List Loc} {cells slots : Nat} {Q : State → Prop} {cc : ByteArray} {pc nL idx : Nat} {ls : Array Slot} {rest : List Value} {Ts : List Cond} {own : String} {adE adK adV : Nat → Nat} {A0 : Nat → Prop} {x0 : Int32} (S : CallFix p m c cc nL s args Ts own) (hTs : ∀ w ∈ WT, w ∈ Ts) (h1 : Cond.methodLink own idx y_L_branch ∈ WT) (hR : 0 + 1 ≤ R.frames ∧ 8 + (1 + 11) + 0 ≤ R.locals) (hsz : ls.size = nL) (hrm : (rest.map fun v => v.category).sum ≤ 8) (hdg : decode cc pc = .ok (.invokestatic idx, 3)) (hc : cells ≤ R.cells ∧ slots ≤ R.slots) (hC : cx adE adK adV A0 s s.heap) (hS : va_S A0 s.heap H locs) (kk : W p l e R s m args below meth c H locs cells slots Q (F0 m (pc + 3) ls (.ref (adE (f_L_branch x0)) :: rest))) : W p l e R s m args below meth c H locs cells slots Q (F0 m pc ls (.int x0 :: rest)) :=
  va_cse (va_Run.run (va_runS (As := [.int x0]) (rest := rest) S (c_L_branch l adE adK adV x0) (va_cwS 1 S.2.2.2.2 (gS hTs h1 m_262 m_53 m_263) rfl rfl rfl (by decide +kernel) hR) ⟨fun a U g mk q => ⟨q.1, q.2.blind⟩, fun U hU hW => ⟨rfl, hC.at hS no_in hU hW⟩⟩ rfl rfl hsz rfl (lv_room hrm) hdg hc)) (fun r e => by subst e; exact kk)

def f_L_counter (x0 : Int32) : Nat :=
  if ((x0 >>> ((15 : Int32) &&& 31)) &&& 31) = 0 then
    if (ushr x0 20) = 3072 then
      58
    else
      if (ushr x0 20) = 3073 then
        59
      else
        if (ushr x0 20) = 3074 then
          60
        else
          if (ushr x0 20) = 3200 then
            61
          else
            if (ushr x0 20) = 3201 then
              62
            else
              if (ushr x0 20) = 3202 then
                63
              else
                0
  else
    0
set_option maxRecDepth 100000 in
set_option maxHeartbeats 4000000 in
theorem c_L_counter (l : Launch) (adE adK adV : Nat → Nat) (x0 : Int32) : Met l y_L_counter (Cond.code y_L_counter b_L_counter 1 (some (.object "InstructionReader$Kind")) :: WT) ({ frames := 0, cells := 0, slots := 0, locals := 0 }) (va_Pc [.int x0] (fun U => cx adE adK adV no U U.heap)) (va_Se adE (fun r => r = some (f_L_counter x0))) 0 0 no := by
  refine va_MetF (cc := b_L_counter) (maxL := 1) (ret := (some (.object "InstructionReader$Kind"))) (by decide +kernel) rfl ?_
  intro p e s m args below meth c s₁ B hml hv
  obtain ⟨rfl, hC⟩ := hv
  have hx := B.exec
  have hb := B.bytes
  have hr := B.returns
  have hts := atoms_spec (ws := (Cond.code y_L_counter b_L_counter 1 (some (.object "InstructionReader$Kind")) :: WT)) B.pre
  have hT : ∀ w ∈ WT, w.before _ s = true := fun w h => hts w (inC w h)
  have hown : s.vm.findClass R_L = some m.cls := findClass_of_methodNamed B.named
  have hlocks := B.notSynchronized
  have hS : va_S no s.heap s.heap [] := va_S.rf
  have S : CallFix p m c b_L_counter 1 s _ (Cond.code y_L_counter b_L_counter 1 (some (.object "InstructionReader$Kind")) :: WT) R_L := ⟨hx, hb, hml, hown, hts⟩
  have hl := lv_entry ([.int x0]) (n := 1) (Nat.le_of_ble_eq_true rfl)
  rw [lg_entry_eq]
  generalize (lg_sl ([.int x0]) ++ List.replicate (1 - (lg_sl ([.int x0])).length) Slot.unset).toArray = ls at hl ⊢
  have hl : lv_has ls 1 [(0, .int x0)] := hl
  refine lv_iload_n hx hb d_L_counter_0 rfl (lv_at hl 0 rfl) ?_
  refine lv_bipush (v := 15) hx hb d_L_counter_1 (by decide) ?_
  refine lv_ishr hx hb d_L_counter_3 ?_
  refine lv_bipush (v := 31) hx hb d_L_counter_4 (by decide) ?_
  refine lv_iand hx hb d_L_counter_6 ?_
  refine lv_if_eq (tgt := 14) hx hb d_L_counter_7 (by decide) (fun c_1 => ?_) (fun c_1 => ?_)
  · refine lv_iload_n hx hb d_L_counter_14 rfl (lv_at hl 0 rfl) ?_
    refine lv_bipush (v := 20) hx hb d_L_counter_15 (by decide) ?_
    refine lv_iushr (v := ushr x0 20) hx hb d_L_counter_17 rfl ?_
    by_cases c_2 : (ushr x0 20) = 3072
    · refine lv_lookup (off := 58) (tgt := 76) hx hb d_L_counter_18 (by decide) (by rw [c_2]; decide) (by decide) ?_
      refine va_gets (v := .ref (adE 58)) hx hb (z_RDCYCLE hC) hS hown (hT _ m_283) (fun _ h => h) d_L_counter_76 ?_
      exact W.aret (v := .ref (adE 58)) hx hb hr (Or.inl ⟨_, rfl⟩) (Or.inr ⟨_, rfl⟩) (fun t ht hW => ⟨some 58, rfl, congrArg some (by rw [f_L_counter, if_pos c_1, if_pos c_2]), ht⟩) (fun _ h => by cases h) d_L_counter_79
    · by_cases c_3 : (ushr x0 20) = 3073
      · refine lv_lookup (off := 62) (tgt := 80) hx hb d_L_counter_18 (by decide) (by rw [c_3]; decide) (by decide) ?_
        refine va_gets (v := .ref (adE 59)) hx hb (z_RDTIME hC) hS hown (hT _ m_285) (fun _ h => h) d_L_counter_80 ?_
        exact W.aret (v := .ref (adE 59)) hx hb hr (Or.inl ⟨_, rfl⟩) (Or.inr ⟨_, rfl⟩) (fun t ht hW => ⟨some 59, rfl, congrArg some (by rw [f_L_counter, if_pos c_1, if_neg c_2, if_pos c_3]), ht⟩) (fun _ h => by cases h) d_L_counter_83
      · by_cases c_4 : (ushr x0 20) = 3074
        · refine lv_lookup (off := 66) (tgt := 84) hx hb d_L_counter_18 (by decide) (by rw [c_4]; decide) (by decide) ?_
          refine va_gets (v := .ref (adE 60)) hx hb (z_RDINSTRET hC) hS hown (hT _ m_287) (fun _ h => h) d_L_counter_84 ?_
          exact W.aret (v := .ref (adE 60)) hx hb hr (Or.inl ⟨_, rfl⟩) (Or.inr ⟨_, rfl⟩) (fun t ht hW => ⟨some 60, rfl, congrArg some (by rw [f_L_counter, if_pos c_1, if_neg c_2, if_neg c_3, if_pos c_4]), ht⟩) (fun _ h => by cases h) d_L_counter_87
        · by_cases c_5 : (ushr x0 20) = 3200
          · refine lv_lookup (off := 70) (tgt := 88) hx hb d_L_counter_18 (by decide) (by rw [c_5]; decide) (by decide) ?_
            refine va_gets (v := .ref (adE 61)) hx hb (z_RDCYCLEH hC) hS hown (hT _ m_289) (fun _ h => h) d_L_counter_88 ?_
            exact W.aret (v := .ref (adE 61)) hx hb hr (Or.inl ⟨_, rfl⟩) (Or.inr ⟨_, rfl⟩) (fun t ht hW => ⟨some 61, rfl, congrArg some (by rw [f_L_counter, if_pos c_1, if_neg c_2, if_neg c_3, if_neg c_4, if_pos c_5]), ht⟩) (fun _ h => by cases h) d_L_counter_91
          · by_cases c_6 : (ushr x0 20) = 3201
            · refine lv_lookup (off := 74) (tgt := 92) hx hb d_L_counter_18 (by decide) (by rw [c_6]; decide) (by decide) ?_
              refine va_gets (v := .ref (adE 62)) hx hb (z_RDTIMEH hC) hS hown (hT _ m_291) (fun _ h => h) d_L_counter_92 ?_
              exact W.aret (v := .ref (adE 62)) hx hb hr (Or.inl ⟨_, rfl⟩) (Or.inr ⟨_, rfl⟩) (fun t ht hW => ⟨some 62, rfl, congrArg some (by rw [f_L_counter, if_pos c_1, if_neg c_2, if_neg c_3, if_neg c_4, if_neg c_5, if_pos c_6]), ht⟩) (fun _ h => by cases h) d_L_counter_95
            · by_cases c_7 : (ushr x0 20) = 3202
              · refine lv_lookup (off := 78) (tgt := 96) hx hb d_L_counter_18 (by decide) (by rw [c_7]; decide) (by decide) ?_
                refine va_gets (v := .ref (adE 63)) hx hb (z_RDINSTRETH hC) hS hown (hT _ m_293) (fun _ h => h) d_L_counter_96 ?_
                exact W.aret (v := .ref (adE 63)) hx hb hr (Or.inl ⟨_, rfl⟩) (Or.inr ⟨_, rfl⟩) (fun t ht hW => ⟨some 63, rfl, congrArg some (by rw [f_L_counter, if_pos c_1, if_neg c_2, if_neg c_3, if_neg c_4, if_neg c_5, if_neg c_6, if_pos c_7]), ht⟩) (fun _ h => by cases h) d_L_counter_99
              · refine lv_lookup (off := 82) (tgt := 100) hx hb d_L_counter_18 (by decide) (by show Op.lookupswitch.offset [(3072, 58), (3073, 62), (3074, 66), (3200, 70), (3201, 74), (3202, 78)] 82 _ = 82; rw [lv_osw c_2 (by decide), lv_osw c_3 (by decide), lv_osw c_4 (by decide), lv_osw c_5 (by decide), lv_osw c_6 (by decide), lv_osw c_7 (by decide)]; rfl) (by decide) ?_
                refine va_gets (v := .ref (adE 0)) hx hb (z_WORD hC) hS hown (hT _ m_138) (fun _ h => h) d_L_counter_100 ?_
                exact W.aret (v := .ref (adE 0)) hx hb hr (Or.inl ⟨_, rfl⟩) (Or.inr ⟨_, rfl⟩) (fun t ht hW => ⟨some 0, rfl, congrArg some (by rw [f_L_counter, if_pos c_1, if_neg c_2, if_neg c_3, if_neg c_4, if_neg c_5, if_neg c_6, if_neg c_7]), ht⟩) (fun _ h => by cases h) d_L_counter_103
  · refine va_gets (v := .ref (adE 0)) hx hb (z_WORD hC) hS hown (hT _ m_138) (fun _ h => h) d_L_counter_10 ?_
    exact W.aret (v := .ref (adE 0)) hx hb hr (Or.inl ⟨_, rfl⟩) (Or.inr ⟨_, rfl⟩) (fun t ht hW => ⟨some 0, rfl, congrArg some (by rw [f_L_counter, if_neg c_1]), ht⟩) (fun _ h => by cases h) d_L_counter_13
theorem call_L_counter {p : Program} {l : Launch} {e : Env} {R : Room} {s : State} {m : MethodId} {args : Array Value} {below : List Frame} {meth : Method} {c : Code} {H : Heap} {locs : List Loc} {cells slots : Nat} {Q : State → Prop} {cc : ByteArray} {pc nL idx : Nat} {ls : Array Slot} {rest : List Value} {Ts : List Cond} {own : String} {adE adK adV : Nat → Nat} {A0 : Nat → Prop} {x0 : Int32} (S : CallFix p m c cc nL s args Ts own) (hTs : ∀ w ∈ WT, w ∈ Ts) (h1 : Cond.methodLink own idx y_L_counter ∈ WT) (hR : 0 + 1 ≤ R.frames ∧ 8 + (1 + 11) + 0 ≤ R.locals) (hsz : ls.size = nL) (hrm : (rest.map fun v => v.category).sum ≤ 8) (hdg : decode cc pc = .ok (.invokestatic idx, 3)) (hc : cells ≤ R.cells ∧ slots ≤ R.slots) (hC : cx adE adK adV A0 s s.heap) (hS : va_S A0 s.heap H locs) (kk : W p l e R s m args below meth c H locs cells slots Q (F0 m (pc + 3) ls (.ref (adE (f_L_counter x0)) :: rest))) : W p l e R s m args below meth c H locs cells slots Q (F0 m pc ls (.int x0 :: rest)) :=
  va_cse (va_Run.run (va_runS (As := [.int x0]) (rest := rest) S (c_L_counter l adE adK adV x0) (va_cwS 1 S.2.2.2.2 (gS hTs h1 m_281 m_53 m_282) rfl rfl rfl (by decide +kernel) hR) ⟨fun a U g mk q => ⟨q.1, q.2.blind⟩, fun U hU hW => ⟨rfl, hC.at hS no_in hU hW⟩⟩ rfl rfl hsz rfl (lv_room hrm) hdg hc)) (fun r e => by subst e; exact kk)

def f_L_ofWord (x0 : Int32) : Nat :=
  if (x0 &&& 127) = 3 then
    f_L_load ((x0 >>> ((12 : Int32) &&& 31)) &&& 7)
  else
    if (x0 &&& 127) = 15 then
      f_L_alone x0
    else
      if (x0 &&& 127) = 19 then
        f_L_withNumber ((x0 >>> ((12 : Int32) &&& 31)) &&& 7) (ushr x0 25)
      else
        if (x0 &&& 127) = 23 then
          39
        else
          if (x0 &&& 127) = 35 then
            f_L_store ((x0 >>> ((12 : Int32) &&& 31)) &&& 7)
          else
            if (x0 &&& 127) = 47 then
              if ((x0 >>> ((12 : Int32) &&& 31)) &&& 7) = 2 then
                f_L_atomic ((ushr x0 25) >>> ((2 : Int32) &&& 31)) x0
              else
                0
            else
              if (x0 &&& 127) = 51 then
                f_L_ofRegisters ((x0 >>> ((12 : Int32) &&& 31)) &&& 7) (ushr x0 25)
              else
                if (x0 &&& 127) = 55 then
                  38
                else
                  if (x0 &&& 127) = 99 then
                    f_L_branch ((x0 >>> ((12 : Int32) &&& 31)) &&& 7)
                  else
                    if (x0 &&& 127) = 103 then
                      if ((x0 >>> ((12 : Int32) &&& 31)) &&& 7) = 0 then
                        34
                      else
                        0
                    else
                      if (x0 &&& 127) = 111 then
                        46
                      else
                        if (x0 &&& 127) = 115 then
                          if ((x0 >>> ((12 : Int32) &&& 31)) &&& 7) = 2 then
                            f_L_counter x0
                          else
                            f_L_alone x0
                        else
                          0
set_option maxRecDepth 100000 in
set_option maxHeartbeats 4000000 in
theorem c_L_ofWord (l : Launch) (adE adK adV : Nat → Nat) (x0 : Int32) : Met l y_L_ofWord (Cond.code y_L_ofWord b_L_ofWord 3 (some (.object "InstructionReader$Kind")) :: WT) ({ frames := 2, cells := 0, slots := 0, locals := 41 }) (va_Pc [.int x0] (fun U => cx adE adK adV no U U.heap)) (va_Se adE (fun r => r = some (f_L_ofWord x0))) 0 0 no := by
  refine va_MetF (cc := b_L_ofWord) (maxL := 3) (ret := (some (.object "InstructionReader$Kind"))) (by decide +kernel) rfl ?_
  intro p e s m args below meth c s₁ B hml hv
  obtain ⟨rfl, hC⟩ := hv
  have hx := B.exec
  have hb := B.bytes
  have hr := B.returns
  have hts := atoms_spec (ws := (Cond.code y_L_ofWord b_L_ofWord 3 (some (.object "InstructionReader$Kind")) :: WT)) B.pre
  have hT : ∀ w ∈ WT, w.before _ s = true := fun w h => hts w (inC w h)
  have hown : s.vm.findClass R_L = some m.cls := findClass_of_methodNamed B.named
  have hlocks := B.notSynchronized
  have hS : va_S no s.heap s.heap [] := va_S.rf
  have S : CallFix p m c b_L_ofWord 3 s _ (Cond.code y_L_ofWord b_L_ofWord 3 (some (.object "InstructionReader$Kind")) :: WT) R_L := ⟨hx, hb, hml, hown, hts⟩
  have hl := lv_entry ([.int x0]) (n := 3) (Nat.le_of_ble_eq_true rfl)
  rw [lg_entry_eq]
  generalize (lg_sl ([.int x0]) ++ List.replicate (3 - (lg_sl ([.int x0])).length) Slot.unset).toArray = ls at hl ⊢
  have hl : lv_has ls 3 [(0, .int x0)] := hl
  refine lv_iload_n hx hb d_L_ofWord_0 rfl (lv_at hl 0 rfl) ?_
  refine lv_bipush (v := 12) hx hb d_L_ofWord_1 (by decide) ?_
  refine lv_ishr hx hb d_L_ofWord_3 ?_
  refine lv_bipush (v := 7) hx hb d_L_ofWord_4 (by decide) ?_
  refine lv_iand hx hb d_L_ofWord_6 ?_
  refine lv_istore_n (lv' := [(1, .int ((x0 >>> ((12 : Int32) &&& 31)) &&& 7)), (0, .int x0)]) hx hb d_L_ofWord_7 rfl hl (by decide) rfl (fun ls hl => ?_)
  refine lv_iload_n hx hb d_L_ofWord_8 rfl (lv_at hl 1 rfl) ?_
  refine lv_bipush (v := 25) hx hb d_L_ofWord_9 (by decide) ?_
  refine lv_iushr (v := ushr x0 25) hx hb d_L_ofWord_11 rfl ?_
  refine lv_istore_n (lv' := [(2, .int (ushr x0 25)), (1, .int ((x0 >>> ((12 : Int32) &&& 31)) &&& 7)), (0, .int x0)]) hx hb d_L_ofWord_12 rfl hl (by decide) rfl (fun ls hl => ?_)
  refine lv_iload_n hx hb d_L_ofWord_13 rfl (lv_at hl 2 rfl) ?_
  refine lv_bipush (v := 127) hx hb d_L_ofWord_14 (by decide) ?_
  refine lv_iand hx hb d_L_ofWord_16 ?_
  by_cases c_1 : (x0 &&& 127) = 3
  · refine lv_lookup (off := 107) (tgt := 124) hx hb d_L_ofWord_17 (by decide) (by rw [c_1]; decide) (by decide) ?_
    refine lv_iload_n hx hb d_L_ofWord_124 rfl (lv_at hl 1 rfl) ?_
    refine call_L_load S inC m_125 ⟨(Nat.le_of_ble_eq_true rfl), (Nat.le_of_ble_eq_true rfl)⟩ hl.1 (Nat.le_of_ble_eq_true rfl) d_L_ofWord_125 ⟨(Nat.le_of_ble_eq_true rfl), (Nat.le_of_ble_eq_true rfl)⟩ hC hS ?_
    exact W.aret (v := .ref (adE (f_L_load ((x0 >>> ((12 : Int32) &&& 31)) &&& 7)))) hx hb hr (Or.inl ⟨_, rfl⟩) (Or.inr ⟨_, rfl⟩) (fun t ht hW => ⟨some (f_L_load ((x0 >>> ((12 : Int32) &&& 31)) &&& 7)), rfl, congrArg some (by rw [f_L_ofWord, if_pos c_1]), ht⟩) (fun _ h => by cases h) d_L_ofWord_128
  · by_cases c_2 : (x0 &&& 127) = 15
    · refine lv_lookup (off := 112) (tgt := 129) hx hb d_L_ofWord_17 (by decide) (by rw [c_2]; decide) (by decide) ?_
      refine lv_iload_n hx hb d_L_ofWord_129 rfl (lv_at hl 2 rfl) ?_
      refine call_L_alone S inC m_140 ⟨(Nat.le_of_ble_eq_true rfl), (Nat.le_of_ble_eq_true rfl)⟩ hl.1 (Nat.le_of_ble_eq_true rfl) d_L_ofWord_130 ⟨(Nat.le_of_ble_eq_true rfl), (Nat.le_of_ble_eq_true rfl)⟩ hC hS ?_
      exact W.aret (v := .ref (adE (f_L_alone x0))) hx hb hr (Or.inl ⟨_, rfl⟩) (Or.inr ⟨_, rfl⟩) (fun t ht hW => ⟨some (f_L_alone x0), rfl, congrArg some (by rw [f_L_ofWord, if_neg c_1, if_pos c_2]), ht⟩) (fun _ h => by cases h) d_L_ofWord_133
    · by_cases c_3 : (x0 &&& 127) = 19
      · refine lv_lookup (off := 117) (tgt := 134) hx hb d_L_ofWord_17 (by decide) (by rw [c_3]; decide) (by decide) ?_
        refine lv_iload_n hx hb d_L_ofWord_134 rfl (lv_at hl 1 rfl) ?_
        refine lv_iload_n hx hb d_L_ofWord_135 rfl (lv_at hl 0 rfl) ?_
        refine call_L_withNumber S inC m_151 ⟨(Nat.le_of_ble_eq_true rfl), (Nat.le_of_ble_eq_true rfl)⟩ hl.1 (Nat.le_of_ble_eq_true rfl) d_L_ofWord_136 ⟨(Nat.le_of_ble_eq_true rfl), (Nat.le_of_ble_eq_true rfl)⟩ hC hS ?_
        exact W.aret (v := .ref (adE (f_L_withNumber ((x0 >>> ((12 : Int32) &&& 31)) &&& 7) (ushr x0 25)))) hx hb hr (Or.inl ⟨_, rfl⟩) (Or.inr ⟨_, rfl⟩) (fun t ht hW => ⟨some (f_L_withNumber ((x0 >>> ((12 : Int32) &&& 31)) &&& 7) (ushr x0 25)), rfl, congrArg some (by rw [f_L_ofWord, if_neg c_1, if_neg c_2, if_pos c_3]), ht⟩) (fun _ h => by cases h) d_L_ofWord_139
      · by_cases c_4 : (x0 &&& 127) = 23
        · refine lv_lookup (off := 123) (tgt := 140) hx hb d_L_ofWord_17 (by decide) (by rw [c_4]; decide) (by decide) ?_
          refine va_gets (v := .ref (adE 39)) hx hb (z_AUIPC hC) hS hown (hT _ m_175) (fun _ h => h) d_L_ofWord_140 ?_
          exact W.aret (v := .ref (adE 39)) hx hb hr (Or.inl ⟨_, rfl⟩) (Or.inr ⟨_, rfl⟩) (fun t ht hW => ⟨some 39, rfl, congrArg some (by rw [f_L_ofWord, if_neg c_1, if_neg c_2, if_neg c_3, if_pos c_4]), ht⟩) (fun _ h => by cases h) d_L_ofWord_143
        · by_cases c_5 : (x0 &&& 127) = 35
          · refine lv_lookup (off := 127) (tgt := 144) hx hb d_L_ofWord_17 (by decide) (by rw [c_5]; decide) (by decide) ?_
            refine lv_iload_n hx hb d_L_ofWord_144 rfl (lv_at hl 1 rfl) ?_
            refine call_L_store S inC m_177 ⟨(Nat.le_of_ble_eq_true rfl), (Nat.le_of_ble_eq_true rfl)⟩ hl.1 (Nat.le_of_ble_eq_true rfl) d_L_ofWord_145 ⟨(Nat.le_of_ble_eq_true rfl), (Nat.le_of_ble_eq_true rfl)⟩ hC hS ?_
            exact W.aret (v := .ref (adE (f_L_store ((x0 >>> ((12 : Int32) &&& 31)) &&& 7)))) hx hb hr (Or.inl ⟨_, rfl⟩) (Or.inr ⟨_, rfl⟩) (fun t ht hW => ⟨some (f_L_store ((x0 >>> ((12 : Int32) &&& 31)) &&& 7)), rfl, congrArg some (by rw [f_L_ofWord, if_neg c_1, if_neg c_2, if_neg c_3, if_neg c_4, if_pos c_5]), ht⟩) (fun _ h => by cases h) d_L_ofWord_148
          · by_cases c_6 : (x0 &&& 127) = 47
            · refine lv_lookup (off := 132) (tgt := 149) hx hb d_L_ofWord_17 (by decide) (by rw [c_6]; decide) (by decide) ?_
              refine lv_iload_n hx hb d_L_ofWord_149 rfl (lv_at hl 1 rfl) ?_
              refine lv_iconst (v := 2) hx hb d_L_ofWord_150 (by decide) ?_
              refine lv_icmp_ne (tgt := 164) hx hb d_L_ofWord_151 (by decide) (fun c_7 => ?_) (fun c_7 => ?_)
              · refine va_gets (v := .ref (adE 0)) hx hb (z_WORD hC) hS hown (hT _ m_138) (fun _ h => h) d_L_ofWord_164 ?_
                exact W.aret (v := .ref (adE 0)) hx hb hr (Or.inl ⟨_, rfl⟩) (Or.inr ⟨_, rfl⟩) (fun t ht hW => ⟨some 0, rfl, congrArg some (by rw [f_L_ofWord, if_neg c_1, if_neg c_2, if_neg c_3, if_neg c_4, if_neg c_5, if_pos c_6, if_neg c_7]), ht⟩) (fun _ h => by cases h) d_L_ofWord_167
              · refine lv_iload_n hx hb d_L_ofWord_154 rfl (lv_at hl 0 rfl) ?_
                refine lv_iconst (v := 2) hx hb d_L_ofWord_155 (by decide) ?_
                refine lv_ishr hx hb d_L_ofWord_156 ?_
                refine lv_iload_n hx hb d_L_ofWord_157 rfl (lv_at hl 2 rfl) ?_
                refine call_L_atomic S inC m_186 ⟨(Nat.le_of_ble_eq_true rfl), (Nat.le_of_ble_eq_true rfl)⟩ hl.1 (Nat.le_of_ble_eq_true rfl) d_L_ofWord_158 ⟨(Nat.le_of_ble_eq_true rfl), (Nat.le_of_ble_eq_true rfl)⟩ hC hS ?_
                refine lv_goto (tgt := 167) hx hb d_L_ofWord_161 (by decide) ?_
                exact W.aret (v := .ref (adE (f_L_atomic ((ushr x0 25) >>> ((2 : Int32) &&& 31)) x0))) hx hb hr (Or.inl ⟨_, rfl⟩) (Or.inr ⟨_, rfl⟩) (fun t ht hW => ⟨some (f_L_atomic ((ushr x0 25) >>> ((2 : Int32) &&& 31)) x0), rfl, congrArg some (by rw [f_L_ofWord, if_neg c_1, if_neg c_2, if_neg c_3, if_neg c_4, if_neg c_5, if_pos c_6, if_pos c_7]), ht⟩) (fun _ h => by cases h) d_L_ofWord_167
            · by_cases c_8 : (x0 &&& 127) = 51
              · refine lv_lookup (off := 151) (tgt := 168) hx hb d_L_ofWord_17 (by decide) (by rw [c_8]; decide) (by decide) ?_
                refine lv_iload_n hx hb d_L_ofWord_168 rfl (lv_at hl 1 rfl) ?_
                refine lv_iload_n hx hb d_L_ofWord_169 rfl (lv_at hl 0 rfl) ?_
                refine call_L_ofRegisters S inC m_211 ⟨(Nat.le_of_ble_eq_true rfl), (Nat.le_of_ble_eq_true rfl)⟩ hl.1 (Nat.le_of_ble_eq_true rfl) d_L_ofWord_170 ⟨(Nat.le_of_ble_eq_true rfl), (Nat.le_of_ble_eq_true rfl)⟩ hC hS ?_
                exact W.aret (v := .ref (adE (f_L_ofRegisters ((x0 >>> ((12 : Int32) &&& 31)) &&& 7) (ushr x0 25)))) hx hb hr (Or.inl ⟨_, rfl⟩) (Or.inr ⟨_, rfl⟩) (fun t ht hW => ⟨some (f_L_ofRegisters ((x0 >>> ((12 : Int32) &&& 31)) &&& 7) (ushr x0 25)), rfl, congrArg some (by rw [f_L_ofWord, if_neg c_1, if_neg c_2, if_neg c_3, if_neg c_4, if_neg c_5, if_neg c_6, if_pos c_8]), ht⟩) (fun _ h => by cases h) d_L_ofWord_173
              · by_cases c_9 : (x0 &&& 127) = 55
                · refine lv_lookup (off := 157) (tgt := 174) hx hb d_L_ofWord_17 (by decide) (by rw [c_9]; decide) (by decide) ?_
                  refine va_gets (v := .ref (adE 38)) hx hb (z_LUI hC) hS hown (hT _ m_259) (fun _ h => h) d_L_ofWord_174 ?_
                  exact W.aret (v := .ref (adE 38)) hx hb hr (Or.inl ⟨_, rfl⟩) (Or.inr ⟨_, rfl⟩) (fun t ht hW => ⟨some 38, rfl, congrArg some (by rw [f_L_ofWord, if_neg c_1, if_neg c_2, if_neg c_3, if_neg c_4, if_neg c_5, if_neg c_6, if_neg c_8, if_pos c_9]), ht⟩) (fun _ h => by cases h) d_L_ofWord_177
                · by_cases c_10 : (x0 &&& 127) = 99
                  · refine lv_lookup (off := 161) (tgt := 178) hx hb d_L_ofWord_17 (by decide) (by rw [c_10]; decide) (by decide) ?_
                    refine lv_iload_n hx hb d_L_ofWord_178 rfl (lv_at hl 1 rfl) ?_
                    refine call_L_branch S inC m_261 ⟨(Nat.le_of_ble_eq_true rfl), (Nat.le_of_ble_eq_true rfl)⟩ hl.1 (Nat.le_of_ble_eq_true rfl) d_L_ofWord_179 ⟨(Nat.le_of_ble_eq_true rfl), (Nat.le_of_ble_eq_true rfl)⟩ hC hS ?_
                    exact W.aret (v := .ref (adE (f_L_branch ((x0 >>> ((12 : Int32) &&& 31)) &&& 7)))) hx hb hr (Or.inl ⟨_, rfl⟩) (Or.inr ⟨_, rfl⟩) (fun t ht hW => ⟨some (f_L_branch ((x0 >>> ((12 : Int32) &&& 31)) &&& 7)), rfl, congrArg some (by rw [f_L_ofWord, if_neg c_1, if_neg c_2, if_neg c_3, if_neg c_4, if_neg c_5, if_neg c_6, if_neg c_8, if_neg c_9, if_pos c_10]), ht⟩) (fun _ h => by cases h) d_L_ofWord_182
                  · by_cases c_11 : (x0 &&& 127) = 103
                    · refine lv_lookup (off := 166) (tgt := 183) hx hb d_L_ofWord_17 (by decide) (by rw [c_11]; decide) (by decide) ?_
                      refine lv_iload_n hx hb d_L_ofWord_183 rfl (lv_at hl 1 rfl) ?_
                      refine lv_if_ne (tgt := 193) hx hb d_L_ofWord_184 (by decide) (fun c_12 => ?_) (fun c_12 => ?_)
                      · refine va_gets (v := .ref (adE 0)) hx hb (z_WORD hC) hS hown (hT _ m_138) (fun _ h => h) d_L_ofWord_193 ?_
                        exact W.aret (v := .ref (adE 0)) hx hb hr (Or.inl ⟨_, rfl⟩) (Or.inr ⟨_, rfl⟩) (fun t ht hW => ⟨some 0, rfl, congrArg some (by rw [f_L_ofWord, if_neg c_1, if_neg c_2, if_neg c_3, if_neg c_4, if_neg c_5, if_neg c_6, if_neg c_8, if_neg c_9, if_neg c_10, if_pos c_11, if_neg c_12]), ht⟩) (fun _ h => by cases h) d_L_ofWord_196
                      · refine va_gets (v := .ref (adE 34)) hx hb (z_JALR hC) hS hown (hT _ m_276) (fun _ h => h) d_L_ofWord_187 ?_
                        refine lv_goto (tgt := 196) hx hb d_L_ofWord_190 (by decide) ?_
                        exact W.aret (v := .ref (adE 34)) hx hb hr (Or.inl ⟨_, rfl⟩) (Or.inr ⟨_, rfl⟩) (fun t ht hW => ⟨some 34, rfl, congrArg some (by rw [f_L_ofWord, if_neg c_1, if_neg c_2, if_neg c_3, if_neg c_4, if_neg c_5, if_neg c_6, if_neg c_8, if_neg c_9, if_neg c_10, if_pos c_11, if_pos c_12]), ht⟩) (fun _ h => by cases h) d_L_ofWord_196
                    · by_cases c_13 : (x0 &&& 127) = 111
                      · refine lv_lookup (off := 180) (tgt := 197) hx hb d_L_ofWord_17 (by decide) (by rw [c_13]; decide) (by decide) ?_
                        refine va_gets (v := .ref (adE 46)) hx hb (z_JAL hC) hS hown (hT _ m_278) (fun _ h => h) d_L_ofWord_197 ?_
                        exact W.aret (v := .ref (adE 46)) hx hb hr (Or.inl ⟨_, rfl⟩) (Or.inr ⟨_, rfl⟩) (fun t ht hW => ⟨some 46, rfl, congrArg some (by rw [f_L_ofWord, if_neg c_1, if_neg c_2, if_neg c_3, if_neg c_4, if_neg c_5, if_neg c_6, if_neg c_8, if_neg c_9, if_neg c_10, if_neg c_11, if_pos c_13]), ht⟩) (fun _ h => by cases h) d_L_ofWord_200
                      · by_cases c_14 : (x0 &&& 127) = 115
                        · refine lv_lookup (off := 184) (tgt := 201) hx hb d_L_ofWord_17 (by decide) (by rw [c_14]; decide) (by decide) ?_
                          refine lv_iload_n hx hb d_L_ofWord_201 rfl (lv_at hl 1 rfl) ?_
                          refine lv_iconst (v := 2) hx hb d_L_ofWord_202 (by decide) ?_
                          refine lv_icmp_ne (tgt := 213) hx hb d_L_ofWord_203 (by decide) (fun c_15 => ?_) (fun c_15 => ?_)
                          · refine lv_iload_n hx hb d_L_ofWord_213 rfl (lv_at hl 2 rfl) ?_
                            refine call_L_alone S inC m_140 ⟨(Nat.le_of_ble_eq_true rfl), (Nat.le_of_ble_eq_true rfl)⟩ hl.1 (Nat.le_of_ble_eq_true rfl) d_L_ofWord_214 ⟨(Nat.le_of_ble_eq_true rfl), (Nat.le_of_ble_eq_true rfl)⟩ hC hS ?_
                            exact W.aret (v := .ref (adE (f_L_alone x0))) hx hb hr (Or.inl ⟨_, rfl⟩) (Or.inr ⟨_, rfl⟩) (fun t ht hW => ⟨some (f_L_alone x0), rfl, congrArg some (by rw [f_L_ofWord, if_neg c_1, if_neg c_2, if_neg c_3, if_neg c_4, if_neg c_5, if_neg c_6, if_neg c_8, if_neg c_9, if_neg c_10, if_neg c_11, if_neg c_13, if_pos c_14, if_neg c_15]), ht⟩) (fun _ h => by cases h) d_L_ofWord_217
                          · refine lv_iload_n hx hb d_L_ofWord_206 rfl (lv_at hl 2 rfl) ?_
                            refine call_L_counter S inC m_280 ⟨(Nat.le_of_ble_eq_true rfl), (Nat.le_of_ble_eq_true rfl)⟩ hl.1 (Nat.le_of_ble_eq_true rfl) d_L_ofWord_207 ⟨(Nat.le_of_ble_eq_true rfl), (Nat.le_of_ble_eq_true rfl)⟩ hC hS ?_
                            refine lv_goto (tgt := 217) hx hb d_L_ofWord_210 (by decide) ?_
                            exact W.aret (v := .ref (adE (f_L_counter x0))) hx hb hr (Or.inl ⟨_, rfl⟩) (Or.inr ⟨_, rfl⟩) (fun t ht hW => ⟨some (f_L_counter x0), rfl, congrArg some (by rw [f_L_ofWord, if_neg c_1, if_neg c_2, if_neg c_3, if_neg c_4, if_neg c_5, if_neg c_6, if_neg c_8, if_neg c_9, if_neg c_10, if_neg c_11, if_neg c_13, if_pos c_14, if_pos c_15]), ht⟩) (fun _ h => by cases h) d_L_ofWord_217
                        · refine lv_lookup (off := 201) (tgt := 218) hx hb d_L_ofWord_17 (by decide) (by show Op.lookupswitch.offset [(3, 107), (15, 112), (19, 117), (23, 123), (35, 127), (47, 132), (51, 151), (55, 157), (99, 161), (103, 166), (111, 180), (115, 184)] 201 _ = 201; rw [lv_osw c_1 (by decide), lv_osw c_2 (by decide), lv_osw c_3 (by decide), lv_osw c_4 (by decide), lv_osw c_5 (by decide), lv_osw c_6 (by decide), lv_osw c_8 (by decide), lv_osw c_9 (by decide), lv_osw c_10 (by decide), lv_osw c_11 (by decide), lv_osw c_13 (by decide), lv_osw c_14 (by decide)]; rfl) (by decide) ?_
                          refine va_gets (v := .ref (adE 0)) hx hb (z_WORD hC) hS hown (hT _ m_138) (fun _ h => h) d_L_ofWord_218 ?_
                          exact W.aret (v := .ref (adE 0)) hx hb hr (Or.inl ⟨_, rfl⟩) (Or.inr ⟨_, rfl⟩) (fun t ht hW => ⟨some 0, rfl, congrArg some (by rw [f_L_ofWord, if_neg c_1, if_neg c_2, if_neg c_3, if_neg c_4, if_neg c_5, if_neg c_6, if_neg c_8, if_neg c_9, if_neg c_10, if_neg c_11, if_neg c_13, if_neg c_14]), ht⟩) (fun _ h => by cases h) d_L_ofWord_221
theorem call_L_ofWord {p : Program} {l : Launch} {e : Env} {R : Room} {s : State} {m : MethodId} {args : Array Value} {below : List Frame} {meth : Method} {c : Code} {H : Heap} {locs : List Loc} {cells slots : Nat} {Q : State → Prop} {cc : ByteArray} {pc nL idx : Nat} {ls : Array Slot} {rest : List Value} {Ts : List Cond} {own : String} {adE adK adV : Nat → Nat} {A0 : Nat → Prop} {x0 : Int32} (S : CallFix p m c cc nL s args Ts own) (hTs : ∀ w ∈ WT, w ∈ Ts) (h1 : Cond.methodLink own idx y_L_ofWord ∈ WT) (hR : 2 + 1 ≤ R.frames ∧ 8 + (3 + 11) + 41 ≤ R.locals) (hsz : ls.size = nL) (hrm : (rest.map fun v => v.category).sum ≤ 8) (hdg : decode cc pc = .ok (.invokestatic idx, 3)) (hc : cells ≤ R.cells ∧ slots ≤ R.slots) (hC : cx adE adK adV A0 s s.heap) (hS : va_S A0 s.heap H locs) (kk : W p l e R s m args below meth c H locs cells slots Q (F0 m (pc + 3) ls (.ref (adE (f_L_ofWord x0)) :: rest))) : W p l e R s m args below meth c H locs cells slots Q (F0 m pc ls (.int x0 :: rest)) :=
  va_cse (va_Run.run (va_runS (As := [.int x0]) (rest := rest) S (c_L_ofWord l adE adK adV x0) (va_cwS 1 S.2.2.2.2 (gS hTs h1 m_123 m_53 m_124) rfl rfl rfl (by decide +kernel) hR) ⟨fun a U g mk q => ⟨q.1, q.2.blind⟩, fun U hU hW => ⟨rfl, hC.at hS no_in hU hW⟩⟩ rfl rfl hsz rfl (lv_room hrm) hdg hc)) (fun r e => by subst e; exact kk)
