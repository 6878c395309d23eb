def absI (x : Int32) : Int32 := if 0 ≤ x then x else 0 - x
theorem it_lt {a b n : Nat} (c : Prop) [Decidable c] (ha : a < n) (hb : b < n) : (if c then a else b) < n := by
  by_cases h : c
  · rw [if_pos h]; exact ha
  · rw [if_neg h]; exact hb
theorem reg_lt (x : Int32) : f_T_registerName x < 159 := by
  unfold f_T_registerName
  repeat (refine it_lt _ (by decide) ?_)
  decide

def f_T_number (x1 : Int32) : List Int32 :=
  if 0 ≤ x1 then
    (f_T_digits ((absI x1).toInt64))
  else
    [45] ++ ((f_T_digits ((absI x1).toInt64)))
set_option maxRecDepth 100000 in
set_option maxHeartbeats 4000000 in
theorem c_T_number (l : Launch) (adE adK adV : Nat → Nat) (dC : Nat → ClassId) (dI : Nat → Nat → Nat) (cC : ClassId) (h0 h1 : Nat) (v : List Int32) (x1 : Int32) : Met l y_T_number (Cond.code y_T_number b_T_number 2 none :: WT) ({ frames := 2, cells := 0, slots := 0, locals := 45 }) (va_Pc [.ref h0, .int x1] (fun U => twU adE adK adV dC dI cC h0 h1 v U)) (va_Qv (fun _ : Unit => True) (fun _ t => tw dC dI cC h0 h1 (v ++ f_T_number x1) t.heap) (aT h0 h1)) 0 0 (aT h0 h1) := by
  refine va_MetF (cc := b_T_number) (maxL := 2) (ret := none) (by decide +kernel) rfl ?_
  intro p e s m args below meth c s₁ B hml hv
  obtain ⟨rfl, ⟨hK, hne, hC, hw⟩⟩ := hv
  have hx := B.exec
  have hb := B.bytes
  have hr := B.returns
  have hts := atoms_spec (ws := (Cond.code y_T_number b_T_number 2 none :: WT)) B.pre
  have hT : ∀ w ∈ WT, w.before _ s = true := fun w h => hts w (inC w h)
  have hown : s.vm.findClass R_T = some m.cls := findClass_of_methodNamed B.named
  have hlocks := B.notSynchronized
  have hS : va_S (aT h0 h1) s.heap s.heap [] := va_S.rf
  have S : CallFix p m c b_T_number 2 s _ (Cond.code y_T_number b_T_number 2 none :: WT) R_T := ⟨hx, hb, hml, hown, hts⟩
  have hl := lv_entry ([.ref h0, .int x1]) (n := 2) (Nat.le_of_ble_eq_true rfl)
  rw [lg_entry_eq]
  generalize (lg_sl ([.ref h0, .int x1]) ++ List.replicate (2 - (lg_sl ([.ref h0, .int x1])).length) Slot.unset).toArray = ls at hl ⊢
  have hl : lv_has ls 2 [(0, .ref h0), (1, .int x1)] := hl
  have hA : ∀ q, aT h0 h1 q → aT h0 h1 q := fun _ h => h
  refine lv_iload_n hx hb d_T_number_0 rfl (lv_at hl 1 rfl) ?_
  refine lv_if_ge (tgt := 10) hx hb d_T_number_1 (by decide) (fun c_1 => ?_) (fun c_1 => ?_)
  · refine lv_aload_n hx hb d_T_number_10 rfl (lv_at hl 0 rfl) ?_
    refine lv_iload_n hx hb d_T_number_11 rfl (lv_at hl 1 rfl) ?_
    refine va_mabs hx hb (by rw [hml]; exact hl.1.symm) hown (hT _ m_517) (hT _ m_518) (hT _ m_62) (hT _ m_519) (Nat.le_of_ble_eq_true rfl) (Nat.le_of_ble_eq_true rfl) (Nat.le_of_ble_eq_true rfl) (Nat.le_of_ble_eq_true rfl) d_T_number_12 ?_
    refine lv_i2l (v := (absI x1).toInt64) hx hb d_T_number_15 rfl ?_
    refine call_T_digits S inC m_520 ⟨(Nat.le_of_ble_eq_true rfl), (Nat.le_of_ble_eq_true rfl)⟩ hl.1 (Nat.le_of_ble_eq_true rfl) d_T_number_16 ⟨(Nat.le_of_ble_eq_true rfl), (Nat.le_of_ble_eq_true rfl)⟩ hK hne hC hS hA hw (fun H locs hw hS _ => ?_)
    exact W.vret hx hb hr (fun t ht hW => ⟨⟨(), rfl, trivial, tw_at ht (tw_eq (by rw [f_T_number, if_pos c_1] <;> simp only [List.append_assoc, List.append_nil]) hw)⟩, hS.F ht⟩) hS.2.2 d_T_number_19
  · refine lv_aload_n hx hb d_T_number_4 rfl (lv_at hl 0 rfl) ?_
    refine lv_bipush (v := 45) hx hb d_T_number_5 (by decide) ?_
    refine call_T_put S inC m_455 ⟨(Nat.le_of_ble_eq_true rfl), (Nat.le_of_ble_eq_true rfl)⟩ hl.1 (Nat.le_of_ble_eq_true rfl) d_T_number_7 ⟨(Nat.le_of_ble_eq_true rfl), (Nat.le_of_ble_eq_true rfl)⟩ hK hne hC hS hA hw (by decide) (fun H locs hw hS _ => ?_)
    refine lv_aload_n hx hb d_T_number_10 rfl (lv_at hl 0 rfl) ?_
    refine lv_iload_n hx hb d_T_number_11 rfl (lv_at hl 1 rfl) ?_
    refine va_mabs hx hb (by rw [hml]; exact hl.1.symm) hown (hT _ m_517) (hT _ m_518) (hT _ m_62) (hT _ m_519) (Nat.le_of_ble_eq_true rfl) (Nat.le_of_ble_eq_true rfl) (Nat.le_of_ble_eq_true rfl) (Nat.le_of_ble_eq_true rfl) d_T_number_12 ?_
    refine lv_i2l (v := (absI x1).toInt64) hx hb d_T_number_15 rfl ?_
    refine call_T_digits S inC m_520 ⟨(Nat.le_of_ble_eq_true rfl), (Nat.le_of_ble_eq_true rfl)⟩ hl.1 (Nat.le_of_ble_eq_true rfl) d_T_number_16 ⟨(Nat.le_of_ble_eq_true rfl), (Nat.le_of_ble_eq_true rfl)⟩ hK hne hC hS hA hw (fun H locs hw hS _ => ?_)
    exact W.vret hx hb hr (fun t ht hW => ⟨⟨(), rfl, trivial, tw_at ht (tw_eq (by rw [f_T_number, if_neg c_1] <;> simp only [List.append_assoc, List.append_nil]) hw)⟩, hS.F ht⟩) hS.2.2 d_T_number_19
theorem call_T_number {p : Program} {l : Launch} {e : Env} {R : Room} {s : State} {m : MethodId} {args : Array Value} {below : List Frame} {meth : Method} {c : Code} {H : Heap} {locs : List Loc} {cells slots : Nat} {Q : State → Prop} {cc : ByteArray} {pc nL idx : Nat} {ls : Array Slot} {rest : List Value} {Ts : List Cond} {own : String} {adE adK adV : Nat → Nat} {A0 : Nat → Prop} {dC : Nat → ClassId} {dI : Nat → Nat → Nat} {cC : ClassId} {h0 h1 : Nat} {v : List Int32} {x1 : Int32} (S : CallFix p m c cc nL s args Ts own) (hTs : ∀ w ∈ WT, w ∈ Ts) (h1' : Cond.methodLink own idx y_T_number ∈ WT) (hR : 2 + 1 ≤ R.frames ∧ 8 + (2 + 11) + 45 ≤ R.locals) (hsz : ls.size = nL) (hrm : (rest.map fun v => v.category).sum ≤ 8) (hdg : decode cc pc = .ok (.invokevirtual idx, 3)) (hc : cells ≤ R.cells ∧ slots ≤ R.slots) (hK : va_K (dC, dI) classes [(cC, .char)] s) (hne : h0 ≠ h1) (hC : cx adE adK adV A0 s s.heap) (hS : va_S A0 s.heap H locs) (hA : ∀ q, aT h0 h1 q → A0 q) (hw : tw dC dI cC h0 h1 v H)  (kk : ∀ (H1 : Heap) (locs1 : List Loc), tw dC dI cC h0 h1 (v ++ f_T_number x1) H1 → va_S A0 s.heap H1 locs1 → (H.size ≤ H1.size ∧ ∀ q : Nat, q < H.size → ¬ aT h0 h1 q → H1[q]? = H[q]?) → W p l e R s m args below meth c H1 locs1 cells slots Q (F0 m (pc + 3) ls rest)) : W p l e R s m args below meth c H locs cells slots Q (F0 m pc ls (.int x1 :: .ref h0 :: rest)) :=
  va_callv (va_runV (As := [.int x1]) (rest := rest) S (c_T_number l adE adK adV dC dI cC h0 h1 v x1) (cwV 1 S.2.2.2.2 (gV hTs h1' m_515 m_6 m_51 m_516) rfl rfl rfl (by decide +kernel) hR) ⟨fun a U g mk q => ⟨q.1, q.2.blind⟩, tw_recv hK hw, fun U hU hW => ⟨rfl, twU.at hK hne hC hS hA hw hU hW⟩⟩ rfl rfl hsz rfl (lv_room hrm) hdg hc) hS (fun q _ h => hA q h) hA (fun u t H1 locs1 ht hvm hp hB hz hk hS1 => kk H1 locs1 (by rw [← ht]; exact hB) hS1 ⟨hz, hk⟩)

def f_T_offset (x1 : Int32) : List Int32 :=
  if 0 ≤ x1 then
    [46] ++ ([43] ++ ((f_T_digits ((absI x1).toInt64))))
  else
    [46] ++ ([45] ++ ((f_T_digits ((absI x1).toInt64))))
set_option maxRecDepth 100000 in
set_option maxHeartbeats 4000000 in
theorem c_T_offset (l : Launch) (adE adK adV : Nat → Nat) (dC : Nat → ClassId) (dI : Nat → Nat → Nat) (cC : ClassId) (h0 h1 : Nat) (v : List Int32) (x1 : Int32) : Met l y_T_offset (Cond.code y_T_offset b_T_offset 2 none :: WT) ({ frames := 2, cells := 0, slots := 0, locals := 45 }) (va_Pc [.ref h0, .int x1] (fun U => twU adE adK adV dC dI cC h0 h1 v U)) (va_Qv (fun _ : Unit => True) (fun _ t => tw dC dI cC h0 h1 (v ++ f_T_offset x1) t.heap) (aT h0 h1)) 0 0 (aT h0 h1) := by
  refine va_MetF (cc := b_T_offset) (maxL := 2) (ret := none) (by decide +kernel) rfl ?_
  intro p e s m args below meth c s₁ B hml hv
  obtain ⟨rfl, ⟨hK, hne, hC, hw⟩⟩ := hv
  have hx := B.exec
  have hb := B.bytes
  have hr := B.returns
  have hts := atoms_spec (ws := (Cond.code y_T_offset b_T_offset 2 none :: WT)) B.pre
  have hT : ∀ w ∈ WT, w.before _ s = true := fun w h => hts w (inC w h)
  have hown : s.vm.findClass R_T = some m.cls := findClass_of_methodNamed B.named
  have hlocks := B.notSynchronized
  have hS : va_S (aT h0 h1) s.heap s.heap [] := va_S.rf
  have S : CallFix p m c b_T_offset 2 s _ (Cond.code y_T_offset b_T_offset 2 none :: WT) R_T := ⟨hx, hb, hml, hown, hts⟩
  have hl := lv_entry ([.ref h0, .int x1]) (n := 2) (Nat.le_of_ble_eq_true rfl)
  rw [lg_entry_eq]
  generalize (lg_sl ([.ref h0, .int x1]) ++ List.replicate (2 - (lg_sl ([.ref h0, .int x1])).length) Slot.unset).toArray = ls at hl ⊢
  have hl : lv_has ls 2 [(0, .ref h0), (1, .int x1)] := hl
  have hA : ∀ q, aT h0 h1 q → aT h0 h1 q := fun _ h => h
  refine lv_aload_n hx hb d_T_offset_0 rfl (lv_at hl 0 rfl) ?_
  refine lv_bipush (v := 46) hx hb d_T_offset_1 (by decide) ?_
  refine call_T_put S inC m_455 ⟨(Nat.le_of_ble_eq_true rfl), (Nat.le_of_ble_eq_true rfl)⟩ hl.1 (Nat.le_of_ble_eq_true rfl) d_T_offset_3 ⟨(Nat.le_of_ble_eq_true rfl), (Nat.le_of_ble_eq_true rfl)⟩ hK hne hC hS hA hw (by decide) (fun H locs hw hS _ => ?_)
  refine lv_aload_n hx hb d_T_offset_6 rfl (lv_at hl 0 rfl) ?_
  refine lv_iload_n hx hb d_T_offset_7 rfl (lv_at hl 1 rfl) ?_
  refine lv_if_ge (tgt := 16) hx hb d_T_offset_8 (by decide) (fun c_1 => ?_) (fun c_1 => ?_)
  · refine lv_bipush (v := 43) hx hb d_T_offset_16 (by decide) ?_
    refine call_T_put S inC m_455 ⟨(Nat.le_of_ble_eq_true rfl), (Nat.le_of_ble_eq_true rfl)⟩ hl.1 (Nat.le_of_ble_eq_true rfl) d_T_offset_18 ⟨(Nat.le_of_ble_eq_true rfl), (Nat.le_of_ble_eq_true rfl)⟩ hK hne hC hS hA hw (by decide) (fun H locs hw hS _ => ?_)
    refine lv_aload_n hx hb d_T_offset_21 rfl (lv_at hl 0 rfl) ?_
    refine lv_iload_n hx hb d_T_offset_22 rfl (lv_at hl 1 rfl) ?_
    refine va_mabs hx hb (by rw [hml]; exact hl.1.symm) hown (hT _ m_517) (hT _ m_518) (hT _ m_62) (hT _ m_519) (Nat.le_of_ble_eq_true rfl) (Nat.le_of_ble_eq_true rfl) (Nat.le_of_ble_eq_true rfl) (Nat.le_of_ble_eq_true rfl) d_T_offset_23 ?_
    refine lv_i2l (v := (absI x1).toInt64) hx hb d_T_offset_26 rfl ?_
    refine call_T_digits S inC m_520 ⟨(Nat.le_of_ble_eq_true rfl), (Nat.le_of_ble_eq_true rfl)⟩ hl.1 (Nat.le_of_ble_eq_true rfl) d_T_offset_27 ⟨(Nat.le_of_ble_eq_true rfl), (Nat.le_of_ble_eq_true rfl)⟩ hK hne hC hS hA hw (fun H locs hw hS _ => ?_)
    exact W.vret hx hb hr (fun t ht hW => ⟨⟨(), rfl, trivial, tw_at ht (tw_eq (by rw [f_T_offset, if_pos c_1] <;> simp only [List.append_assoc, List.append_nil]) hw)⟩, hS.F ht⟩) hS.2.2 d_T_offset_30
  · refine lv_bipush (v := 45) hx hb d_T_offset_11 (by decide) ?_
    refine lv_goto (tgt := 18) hx hb d_T_offset_13 (by decide) ?_
    refine call_T_put S inC m_455 ⟨(Nat.le_of_ble_eq_true rfl), (Nat.le_of_ble_eq_true rfl)⟩ hl.1 (Nat.le_of_ble_eq_true rfl) d_T_offset_18 ⟨(Nat.le_of_ble_eq_true rfl), (Nat.le_of_ble_eq_true rfl)⟩ hK hne hC hS hA hw (by decide) (fun H locs hw hS _ => ?_)
    refine lv_aload_n hx hb d_T_offset_21 rfl (lv_at hl 0 rfl) ?_
    refine lv_iload_n hx hb d_T_offset_22 rfl (lv_at hl 1 rfl) ?_
    refine va_mabs hx hb (by rw [hml]; exact hl.1.symm) hown (hT _ m_517) (hT _ m_518) (hT _ m_62) (hT _ m_519) (Nat.le_of_ble_eq_true rfl) (Nat.le_of_ble_eq_true rfl) (Nat.le_of_ble_eq_true rfl) (Nat.le_of_ble_eq_true rfl) d_T_offset_23 ?_
    refine lv_i2l (v := (absI x1).toInt64) hx hb d_T_offset_26 rfl ?_
    refine call_T_digits S inC m_520 ⟨(Nat.le_of_ble_eq_true rfl), (Nat.le_of_ble_eq_true rfl)⟩ hl.1 (Nat.le_of_ble_eq_true rfl) d_T_offset_27 ⟨(Nat.le_of_ble_eq_true rfl), (Nat.le_of_ble_eq_true rfl)⟩ hK hne hC hS hA hw (fun H locs hw hS _ => ?_)
    exact W.vret hx hb hr (fun t ht hW => ⟨⟨(), rfl, trivial, tw_at ht (tw_eq (by rw [f_T_offset, if_neg c_1] <;> simp only [List.append_assoc, List.append_nil]) hw)⟩, hS.F ht⟩) hS.2.2 d_T_offset_30
theorem call_T_offset {p : Program} {l : Launch} {e : Env} {R : Room} {s : State} {m : MethodId} {args : Array Value} {below : List Frame} {meth : Method} {c : Code} {H : Heap} {locs : List Loc} {cells slots : Nat} {Q : State → Prop} {cc : ByteArray} {pc nL idx : Nat} {ls : Array Slot} {rest : List Value} {Ts : List Cond} {own : String} {adE adK adV : Nat → Nat} {A0 : Nat → Prop} {dC : Nat → ClassId} {dI : Nat → Nat → Nat} {cC : ClassId} {h0 h1 : Nat} {v : List Int32} {x1 : Int32} (S : CallFix p m c cc nL s args Ts own) (hTs : ∀ w ∈ WT, w ∈ Ts) (h1' : Cond.methodLink own idx y_T_offset ∈ WT) (hR : 2 + 1 ≤ R.frames ∧ 8 + (2 + 11) + 45 ≤ R.locals) (hsz : ls.size = nL) (hrm : (rest.map fun v => v.category).sum ≤ 8) (hdg : decode cc pc = .ok (.invokevirtual idx, 3)) (hc : cells ≤ R.cells ∧ slots ≤ R.slots) (hK : va_K (dC, dI) classes [(cC, .char)] s) (hne : h0 ≠ h1) (hC : cx adE adK adV A0 s s.heap) (hS : va_S A0 s.heap H locs) (hA : ∀ q, aT h0 h1 q → A0 q) (hw : tw dC dI cC h0 h1 v H)  (kk : ∀ (H1 : Heap) (locs1 : List Loc), tw dC dI cC h0 h1 (v ++ f_T_offset x1) H1 → va_S A0 s.heap H1 locs1 → (H.size ≤ H1.size ∧ ∀ q : Nat, q < H.size → ¬ aT h0 h1 q → H1[q]? = H[q]?) → W p l e R s m args below meth c H1 locs1 cells slots Q (F0 m (pc + 3) ls rest)) : W p l e R s m args below meth c H locs cells slots Q (F0 m pc ls (.int x1 :: .ref h0 :: rest)) :=
  va_callv (va_runV (As := [.int x1]) (rest := rest) S (c_T_offset l adE adK adV dC dI cC h0 h1 v x1) (cwV 1 S.2.2.2.2 (gV hTs h1' m_549 m_8 m_51 m_550) rfl rfl rfl (by decide +kernel) hR) ⟨fun a U g mk q => ⟨q.1, q.2.blind⟩, tw_recv hK hw, fun U hU hW => ⟨rfl, twU.at hK hne hC hS hA hw hU hW⟩⟩ rfl rfl hsz rfl (lv_room hrm) hdg hc) hS (fun q _ h => hA q h) hA (fun u t H1 locs1 ht hvm hp hB hz hk hS1 => kk H1 locs1 (by rw [← ht]; exact hB) hS1 ⟨hz, hk⟩)

def f_T_register (x1 : Int32) : List Int32 :=
  (sTx (f_T_registerName x1))
set_option maxRecDepth 100000 in
set_option maxHeartbeats 4000000 in
theorem c_T_register (l : Launch) (adE adK adV : Nat → Nat) (dC : Nat → ClassId) (dI : Nat → Nat → Nat) (cC : ClassId) (h0 h1 : Nat) (v : List Int32) (x1 : Int32) : Met l y_T_register (Cond.code y_T_register b_T_register 2 none :: WT) ({ frames := 5, cells := 0, slots := 0, locals := 107 }) (va_Pc [.ref h0, .int x1] (fun U => twU adE adK adV dC dI cC h0 h1 v U)) (va_Qv (fun _ : Unit => True) (fun _ t => tw dC dI cC h0 h1 (v ++ f_T_register x1) t.heap) (aT h0 h1)) 0 0 (aT h0 h1) := by
  refine va_MetF (cc := b_T_register) (maxL := 2) (ret := none) (by decide +kernel) rfl ?_
  intro p e s m args below meth c s₁ B hml hv
  obtain ⟨rfl, ⟨hK, hne, hC, hw⟩⟩ := hv
  have hx := B.exec
  have hb := B.bytes
  have hr := B.returns
  have hts := atoms_spec (ws := (Cond.code y_T_register b_T_register 2 none :: WT)) B.pre
  have hT : ∀ w ∈ WT, w.before _ s = true := fun w h => hts w (inC w h)
  have hown : s.vm.findClass R_T = some m.cls := findClass_of_methodNamed B.named
  have hlocks := B.notSynchronized
  have hS : va_S (aT h0 h1) s.heap s.heap [] := va_S.rf
  have S : CallFix p m c b_T_register 2 s _ (Cond.code y_T_register b_T_register 2 none :: WT) R_T := ⟨hx, hb, hml, hown, hts⟩
  have hl := lv_entry ([.ref h0, .int x1]) (n := 2) (Nat.le_of_ble_eq_true rfl)
  rw [lg_entry_eq]
  generalize (lg_sl ([.ref h0, .int x1]) ++ List.replicate (2 - (lg_sl ([.ref h0, .int x1])).length) Slot.unset).toArray = ls at hl ⊢
  have hl : lv_has ls 2 [(0, .ref h0), (1, .int x1)] := hl
  have hA : ∀ q, aT h0 h1 q → aT h0 h1 q := fun _ h => h
  refine lv_aload_n hx hb d_T_register_0 rfl (lv_at hl 0 rfl) ?_
  refine lv_iload_n hx hb d_T_register_1 rfl (lv_at hl 1 rfl) ?_
  refine call_T_registerName S inC m_478 ⟨(Nat.le_of_ble_eq_true rfl), (Nat.le_of_ble_eq_true rfl)⟩ hl.1 (Nat.le_of_ble_eq_true rfl) d_T_register_2 ⟨(Nat.le_of_ble_eq_true rfl), (Nat.le_of_ble_eq_true rfl)⟩ hC hS ?_
  refine call_T_word S inC m_403 ⟨(Nat.le_of_ble_eq_true rfl), (Nat.le_of_ble_eq_true rfl)⟩ hl.1 (Nat.le_of_ble_eq_true rfl) d_T_register_5 ⟨(Nat.le_of_ble_eq_true rfl), (Nat.le_of_ble_eq_true rfl)⟩ hK hne hC hS hA hw (reg_lt x1) (fun H locs hw hS _ => ?_)
  exact W.vret hx hb hr (fun t ht hW => ⟨⟨(), rfl, trivial, tw_at ht (tw_eq (by rw [f_T_register] <;> simp only [List.append_assoc, List.append_nil]) hw)⟩, hS.F ht⟩) hS.2.2 d_T_register_8
theorem call_T_register {p : Program} {l : Launch} {e : Env} {R : Room} {s : State} {m : MethodId} {args : Array Value} {below : List Frame} {meth : Method} {c : Code} {H : Heap} {locs : List Loc} {cells slots : Nat} {Q : State → Prop} {cc : ByteArray} {pc nL idx : Nat} {ls : Array Slot} {rest : List Value} {Ts : List Cond} {own : String} {adE adK adV : Nat → Nat} {A0 : Nat → Prop} {dC : Nat → ClassId} {dI : Nat → Nat → Nat} {cC : ClassId} {h0 h1 : Nat} {v : List Int32} {x1 : Int32} (S : CallFix p m c cc nL s args Ts own) (hTs : ∀ w ∈ WT, w ∈ Ts) (h1' : Cond.methodLink own idx y_T_register ∈ WT) (hR : 5 + 1 ≤ R.frames ∧ 8 + (2 + 11) + 107 ≤ R.locals) (hsz : ls.size = nL) (hrm : (rest.map fun v => v.category).sum ≤ 8) (hdg : decode cc pc = .ok (.invokevirtual idx, 3)) (hc : cells ≤ R.cells ∧ slots ≤ R.slots) (hK : va_K (dC, dI) classes [(cC, .char)] s) (hne : h0 ≠ h1) (hC : cx adE adK adV A0 s s.heap) (hS : va_S A0 s.heap H locs) (hA : ∀ q, aT h0 h1 q → A0 q) (hw : tw dC dI cC h0 h1 v H)  (kk : ∀ (H1 : Heap) (locs1 : List Loc), tw dC dI cC h0 h1 (v ++ f_T_register x1) H1 → va_S A0 s.heap H1 locs1 → (H.size ≤ H1.size ∧ ∀ q : Nat, q < H.size → ¬ aT h0 h1 q → H1[q]? = H[q]?) → W p l e R s m args below meth c H1 locs1 cells slots Q (F0 m (pc + 3) ls rest)) : W p l e R s m args below meth c H locs cells slots Q (F0 m pc ls (.int x1 :: .ref h0 :: rest)) :=
  va_callv (va_runV (As := [.int x1]) (rest := rest) S (c_T_register l adE adK adV dC dI cC h0 h1 v x1) (cwV 1 S.2.2.2.2 (gV hTs h1' m_476 m_5 m_51 m_477) rfl rfl rfl (by decide +kernel) hR) ⟨fun a U g mk q => ⟨q.1, q.2.blind⟩, tw_recv hK hw, fun U hU hW => ⟨rfl, twU.at hK hne hC hS hA hw hU hW⟩⟩ rfl rfl hsz rfl (lv_room hrm) hdg hc) hS (fun q _ h => hA q h) hA (fun u t H1 locs1 ht hvm hp hB hz hk hS1 => kk H1 locs1 (by rw [← ht]; exact hB) hS1 ⟨hz, hk⟩)

def f_T_order (x1 : Int32) : List Int32 :=
  if x1 = 1 then
    (sTx 0)
  else
    if x1 = 2 then
      (sTx 1)
    else
      if x1 = 3 then
        (sTx 2)
      else
        []
set_option maxRecDepth 100000 in
set_option maxHeartbeats 4000000 in
theorem c_T_order (l : Launch) (adE adK adV : Nat → Nat) (dC : Nat → ClassId) (dI : Nat → Nat → Nat) (cC : ClassId) (h0 h1 : Nat) (v : List Int32) (x1 : Int32) : Met l y_T_order (Cond.code y_T_order b_T_order 2 none :: WT) ({ frames := 5, cells := 0, slots := 0, locals := 107 }) (va_Pc [.ref h0, .int x1] (fun U => twU adE adK adV dC dI cC h0 h1 v U)) (va_Qv (fun _ : Unit => True) (fun _ t => tw dC dI cC h0 h1 (v ++ f_T_order x1) t.heap) (aT h0 h1)) 0 0 (aT h0 h1) := by
  refine va_MetF (cc := b_T_order) (maxL := 2) (ret := none) (by decide +kernel) rfl ?_
  intro p e s m args below meth c s₁ B hml hv
  obtain ⟨rfl, ⟨hK, hne, hC, hw⟩⟩ := hv
  have hx := B.exec
  have hb := B.bytes
  have hr := B.returns
  have hts := atoms_spec (ws := (Cond.code y_T_order b_T_order 2 none :: WT)) B.pre
  have hT : ∀ w ∈ WT, w.before _ s = true := fun w h => hts w (inC w h)
  have hown : s.vm.findClass R_T = some m.cls := findClass_of_methodNamed B.named
  have hlocks := B.notSynchronized
  have hS : va_S (aT h0 h1) s.heap s.heap [] := va_S.rf
  have S : CallFix p m c b_T_order 2 s _ (Cond.code y_T_order b_T_order 2 none :: WT) R_T := ⟨hx, hb, hml, hown, hts⟩
  have hl := lv_entry ([.ref h0, .int x1]) (n := 2) (Nat.le_of_ble_eq_true rfl)
  rw [lg_entry_eq]
  generalize (lg_sl ([.ref h0, .int x1]) ++ List.replicate (2 - (lg_sl ([.ref h0, .int x1])).length) Slot.unset).toArray = ls at hl ⊢
  have hl : lv_has ls 2 [(0, .ref h0), (1, .int x1)] := hl
  have hA : ∀ q, aT h0 h1 q → aT h0 h1 q := fun _ h => h
  refine lv_iload_n hx hb d_T_order_0 rfl (lv_at hl 1 rfl) ?_
  by_cases c_1 : x1 = 1
  · refine lv_tableIn (off := 27) (tgt := 28) hx hb d_T_order_1 (by rw [c_1]; decide) (by rw [c_1]; decide) (by rw [c_1]; decide) (by decide) ?_
    refine lv_aload_n hx hb d_T_order_28 rfl (lv_at hl 0 rfl) ?_
    refine va_ldcS hx hb hown (hC.2.2.1 0 (by decide)) d_T_order_29 ?_
    refine call_T_word S inC m_403 ⟨(Nat.le_of_ble_eq_true rfl), (Nat.le_of_ble_eq_true rfl)⟩ hl.1 (Nat.le_of_ble_eq_true rfl) d_T_order_31 ⟨(Nat.le_of_ble_eq_true rfl), (Nat.le_of_ble_eq_true rfl)⟩ hK hne hC hS hA hw (by decide) (fun H locs hw hS _ => ?_)
    refine lv_goto (tgt := 55) hx hb d_T_order_34 (by decide) ?_
    exact W.vret hx hb hr (fun t ht hW => ⟨⟨(), rfl, trivial, tw_at ht (tw_eq (by rw [f_T_order, if_pos c_1] <;> simp only [List.append_assoc, List.append_nil]) hw)⟩, hS.F ht⟩) hS.2.2 d_T_order_55
  · by_cases c_2 : x1 = 2
    · refine lv_tableIn (off := 36) (tgt := 37) hx hb d_T_order_1 (by rw [c_2]; decide) (by rw [c_2]; decide) (by rw [c_2]; decide) (by decide) ?_
      refine lv_aload_n hx hb d_T_order_37 rfl (lv_at hl 0 rfl) ?_
      refine va_ldcS hx hb hown (hC.2.2.1 1 (by decide)) d_T_order_38 ?_
      refine call_T_word S inC m_403 ⟨(Nat.le_of_ble_eq_true rfl), (Nat.le_of_ble_eq_true rfl)⟩ hl.1 (Nat.le_of_ble_eq_true rfl) d_T_order_40 ⟨(Nat.le_of_ble_eq_true rfl), (Nat.le_of_ble_eq_true rfl)⟩ hK hne hC hS hA hw (by decide) (fun H locs hw hS _ => ?_)
      refine lv_goto (tgt := 55) hx hb d_T_order_43 (by decide) ?_
      exact W.vret hx hb hr (fun t ht hW => ⟨⟨(), rfl, trivial, tw_at ht (tw_eq (by rw [f_T_order, if_neg c_1, if_pos c_2] <;> simp only [List.append_assoc, List.append_nil]) hw)⟩, hS.F ht⟩) hS.2.2 d_T_order_55
    · by_cases c_3 : x1 = 3
      · refine lv_tableIn (off := 45) (tgt := 46) hx hb d_T_order_1 (by rw [c_3]; decide) (by rw [c_3]; decide) (by rw [c_3]; decide) (by decide) ?_
        refine lv_aload_n hx hb d_T_order_46 rfl (lv_at hl 0 rfl) ?_
        refine va_ldcS hx hb hown (hC.2.2.1 2 (by decide)) d_T_order_47 ?_
        refine call_T_word S inC m_403 ⟨(Nat.le_of_ble_eq_true rfl), (Nat.le_of_ble_eq_true rfl)⟩ hl.1 (Nat.le_of_ble_eq_true rfl) d_T_order_49 ⟨(Nat.le_of_ble_eq_true rfl), (Nat.le_of_ble_eq_true rfl)⟩ hK hne hC hS hA hw (by decide) (fun H locs hw hS _ => ?_)
        refine lv_goto (tgt := 55) hx hb d_T_order_52 (by decide) ?_
        exact W.vret hx hb hr (fun t ht hW => ⟨⟨(), rfl, trivial, tw_at ht (tw_eq (by rw [f_T_order, if_neg c_1, if_neg c_2, if_pos c_3] <;> simp only [List.append_assoc, List.append_nil]) hw)⟩, hS.F ht⟩) hS.2.2 d_T_order_55
      · refine lv_tableOut (tgt := 55) hx hb d_T_order_1 (by have n0 := lv_neT c_1 (show (1 : Int32).toInt = 1 by decide); have n1 := lv_neT c_2 (show (2 : Int32).toInt = 2 by decide); have n2 := lv_neT c_3 (show (3 : Int32).toInt = 3 by decide); omega) (by decide) ?_
        exact W.vret hx hb hr (fun t ht hW => ⟨⟨(), rfl, trivial, tw_at ht (tw_eq (by rw [f_T_order, if_neg c_1, if_neg c_2, if_neg c_3] <;> simp only [List.append_assoc, List.append_nil]) hw)⟩, hS.F ht⟩) hS.2.2 d_T_order_55
theorem call_T_order {p : Program} {l : Launch} {e : Env} {R : Room} {s : State} {m : MethodId} {args : Array Value} {below : List Frame} {meth : Method} {c : Code} {H : Heap} {locs : List Loc} {cells slots : Nat} {Q : State → Prop} {cc : ByteArray} {pc nL idx : Nat} {ls : Array Slot} {rest : List Value} {Ts : List Cond} {own : String} {adE adK adV : Nat → Nat} {A0 : Nat → Prop} {dC : Nat → ClassId} {dI : Nat → Nat → Nat} {cC : ClassId} {h0 h1 : Nat} {v : List Int32} {x1 : Int32} (S : CallFix p m c cc nL s args Ts own) (hTs : ∀ w ∈ WT, w ∈ Ts) (h1' : Cond.methodLink own idx y_T_order ∈ WT) (hR : 5 + 1 ≤ R.frames ∧ 8 + (2 + 11) + 107 ≤ R.locals) (hsz : ls.size = nL) (hrm : (rest.map fun v => v.category).sum ≤ 8) (hdg : decode cc pc = .ok (.invokevirtual idx, 3)) (hc : cells ≤ R.cells ∧ slots ≤ R.slots) (hK : va_K (dC, dI) classes [(cC, .char)] s) (hne : h0 ≠ h1) (hC : cx adE adK adV A0 s s.heap) (hS : va_S A0 s.heap H locs) (hA : ∀ q, aT h0 h1 q → A0 q) (hw : tw dC dI cC h0 h1 v H)  (kk : ∀ (H1 : Heap) (locs1 : List Loc), tw dC dI cC h0 h1 (v ++ f_T_order x1) H1 → va_S A0 s.heap H1 locs1 → (H.size ≤ H1.size ∧ ∀ q : Nat, q < H.size → ¬ aT h0 h1 q → H1[q]? = H[q]?) → W p l e R s m args below meth c H1 locs1 cells slots Q (F0 m (pc + 3) ls rest)) : W p l e R s m args below meth c H locs cells slots Q (F0 m pc ls (.int x1 :: .ref h0 :: rest)) :=
  va_callv (va_runV (As := [.int x1]) (rest := rest) S (c_T_order l adE adK adV dC dI cC h0 h1 v x1) (cwV 1 S.2.2.2.2 (gV hTs h1' m_461 m_3 m_51 m_462) rfl rfl rfl (by decide +kernel) hR) ⟨fun a U g mk q => ⟨q.1, q.2.blind⟩, tw_recv hK hw, fun U hU hW => ⟨rfl, twU.at hK hne hC hS hA hw hU hW⟩⟩ rfl rfl hsz rfl (lv_room hrm) hdg hc) hS (fun q _ h => hA q h) hA (fun u t H1 locs1 ht hvm hp hB hz hk hS1 => kk H1 locs1 (by rw [← ht]; exact hB) hS1 ⟨hz, hk⟩)

def f_T_operand (x1 x2 : Int32) : List Int32 :=
  if x1 = 66 then
    (f_T_offset (f_F_branch x2))
  else
    if x1 = 67 then
      (f_T_offset (f_F_shortJump x2))
    else
      if x1 = 74 then
        (f_T_offset (f_F_jump x2))
      else
        if x1 = 90 then
          (f_T_offset (f_F_shortBranch x2))
        else
          if x1 = 97 then
            (f_T_register ((x2 >>> ((15 : Int32) &&& 31)) &&& 31))
          else
            if x1 = 98 then
              (f_T_register ((x2 >>> ((20 : Int32) &&& 31)) &&& 31))
            else
              if x1 = 100 then
                (f_T_register ((x2 >>> ((7 : Int32) &&& 31)) &&& 31))
              else
                if x1 = 102 then
                  (f_T_number (f_F_times4 x2))
                else
                  if x1 = 104 then
                    (f_T_number ((x2 >>> ((20 : Int32) &&& 31)) &&& 31))
                  else
                    if x1 = 105 then
                      (f_T_number (x2 >>> ((20 : Int32) &&& 31)))
                    else
                      if x1 = 107 then
                        (f_T_number (f_F_stackStore x2))
                      else
                        if x1 = 108 then
                          (f_T_number (f_F_stackLoad x2))
                        else
                          if x1 = 109 then
                            (f_T_number ((x2 >>> ((2 : Int32) &&& 31)) &&& 31))
                          else
                            if x1 = 110 then
                              (f_T_number (f_F_six x2))
                            else
                              if x1 = 112 then
                                (f_T_number (f_F_times16 x2))
                              else
                                if x1 = 114 then
                                  (f_T_register ((x2 >>> ((2 : Int32) &&& 31)) &&& 31))
                                else
                                  if x1 = 115 then
                                    (f_T_number (f_F_store x2))
                                  else
                                    if x1 = 117 then
                                      (f_T_number (ushr x2 12))
                                    else
                                      if x1 = 118 then
                                        (f_T_digits (x2.toInt64 &&& 4294967295))
                                      else
                                        if x1 = 119 then
                                          (f_T_number (f_F_shortWord x2))
                                        else
                                          if x1 = 120 then
                                            (f_T_register ((8 : Int32) + ((x2 >>> ((7 : Int32) &&& 31)) &&& 7)))
                                          else
                                            if x1 = 121 then
                                              (f_T_register ((8 : Int32) + ((x2 >>> ((2 : Int32) &&& 31)) &&& 7)))
                                            else
                                              [x1]
set_option maxRecDepth 100000 in
set_option maxHeartbeats 4000000 in
theorem c_T_operand (l : Launch) (adE adK adV : Nat → Nat) (dC : Nat → ClassId) (dI : Nat → Nat → Nat) (cC : ClassId) (h0 h1 : Nat) (v : List Int32) (x1 x2 : Int32) : Met l y_T_operand (Cond.code y_T_operand b_T_operand 3 none :: WT) ({ frames := 6, cells := 0, slots := 0, locals := 128 }) (va_Pc [.ref h0, .int x1, .int x2] (fun U => twU adE adK adV dC dI cC h0 h1 v U ∧ vp_nar .char x1 = x1)) (va_Qv (fun _ : Unit => True) (fun _ t => tw dC dI cC h0 h1 (v ++ f_T_operand x1 x2) t.heap) (aT h0 h1)) 0 0 (aT h0 h1) := by
  refine va_MetF (cc := b_T_operand) (maxL := 3) (ret := none) (by decide +kernel) rfl ?_
  intro p e s m args below meth c s₁ B hml hv
  obtain ⟨rfl, ⟨hK, hne, hC, hw⟩, hcc⟩ := hv
  have hx := B.exec
  have hb := B.bytes
  have hr := B.returns
  have hts := atoms_spec (ws := (Cond.code y_T_operand b_T_operand 3 none :: WT)) B.pre
  have hT : ∀ w ∈ WT, w.before _ s = true := fun w h => hts w (inC w h)
  have hown : s.vm.findClass R_T = some m.cls := findClass_of_methodNamed B.named
  have hlocks := B.notSynchronized
  have hS : va_S (aT h0 h1) s.heap s.heap [] := va_S.rf
  have S : CallFix p m c b_T_operand 3 s _ (Cond.code y_T_operand b_T_operand 3 none :: WT) R_T := ⟨hx, hb, hml, hown, hts⟩
  have hl := lv_entry ([.ref h0, .int x1, .int x2]) (n := 3) (Nat.le_of_ble_eq_true rfl)
  rw [lg_entry_eq]
  generalize (lg_sl ([.ref h0, .int x1, .int x2]) ++ List.replicate (3 - (lg_sl ([.ref h0, .int x1, .int x2])).length) Slot.unset).toArray = ls at hl ⊢
  have hl : lv_has ls 3 [(0, .ref h0), (1, .int x1), (2, .int x2)] := hl
  have hA : ∀ q, aT h0 h1 q → aT h0 h1 q := fun _ h => h
  refine lv_iload_n hx hb d_T_operand_0 rfl (lv_at hl 1 rfl) ?_
  by_cases c_1 : x1 = 66
  · refine lv_tableIn (off := 453) (tgt := 454) hx hb d_T_operand_1 (by rw [c_1]; decide) (by rw [c_1]; decide) (by rw [c_1]; decide) (by decide) ?_
    refine lv_aload_n hx hb d_T_operand_454 rfl (lv_at hl 0 rfl) ?_
    refine lv_iload_n hx hb d_T_operand_455 rfl (lv_at hl 2 rfl) ?_
    refine call_F_branch S inC m_544 ⟨(Nat.le_of_ble_eq_true rfl), (Nat.le_of_ble_eq_true rfl)⟩ hl.1 (Nat.le_of_ble_eq_true rfl) d_T_operand_456 ⟨(Nat.le_of_ble_eq_true rfl), (Nat.le_of_ble_eq_true rfl)⟩ ?_
    refine call_T_offset S inC m_547 ⟨(Nat.le_of_ble_eq_true rfl), (Nat.le_of_ble_eq_true rfl)⟩ hl.1 (Nat.le_of_ble_eq_true rfl) d_T_operand_459 ⟨(Nat.le_of_ble_eq_true rfl), (Nat.le_of_ble_eq_true rfl)⟩ hK hne hC hS hA hw (fun H locs hw hS _ => ?_)
    refine lv_goto (tgt := 516) hx hb d_T_operand_462 (by decide) ?_
    exact W.vret hx hb hr (fun t ht hW => ⟨⟨(), rfl, trivial, tw_at ht (tw_eq (by rw [f_T_operand, if_pos c_1] <;> simp only [List.append_assoc, List.append_nil]) hw)⟩, hS.F ht⟩) hS.2.2 d_T_operand_516
  · by_cases c_2 : x1 = 67
    · refine lv_tableIn (off := 475) (tgt := 476) hx hb d_T_operand_1 (by rw [c_2]; decide) (by rw [c_2]; decide) (by rw [c_2]; decide) (by decide) ?_
      refine lv_aload_n hx hb d_T_operand_476 rfl (lv_at hl 0 rfl) ?_
      refine lv_iload_n hx hb d_T_operand_477 rfl (lv_at hl 2 rfl) ?_
      refine call_F_shortJump S inC m_554 ⟨(Nat.le_of_ble_eq_true rfl), (Nat.le_of_ble_eq_true rfl)⟩ hl.1 (Nat.le_of_ble_eq_true rfl) d_T_operand_478 ⟨(Nat.le_of_ble_eq_true rfl), (Nat.le_of_ble_eq_true rfl)⟩ ?_
      refine call_T_offset S inC m_547 ⟨(Nat.le_of_ble_eq_true rfl), (Nat.le_of_ble_eq_true rfl)⟩ hl.1 (Nat.le_of_ble_eq_true rfl) d_T_operand_481 ⟨(Nat.le_of_ble_eq_true rfl), (Nat.le_of_ble_eq_true rfl)⟩ hK hne hC hS hA hw (fun H locs hw hS _ => ?_)
      refine lv_goto (tgt := 516) hx hb d_T_operand_484 (by decide) ?_
      exact W.vret hx hb hr (fun t ht hW => ⟨⟨(), rfl, trivial, tw_at ht (tw_eq (by rw [f_T_operand, if_neg c_1, if_pos c_2] <;> simp only [List.append_assoc, List.append_nil]) hw)⟩, hS.F ht⟩) hS.2.2 d_T_operand_516
    · by_cases c_3 : x1 = 74
      · refine lv_tableIn (off := 464) (tgt := 465) hx hb d_T_operand_1 (by rw [c_3]; decide) (by rw [c_3]; decide) (by rw [c_3]; decide) (by decide) ?_
        refine lv_aload_n hx hb d_T_operand_465 rfl (lv_at hl 0 rfl) ?_
        refine lv_iload_n hx hb d_T_operand_466 rfl (lv_at hl 2 rfl) ?_
        refine call_F_jump S inC m_551 ⟨(Nat.le_of_ble_eq_true rfl), (Nat.le_of_ble_eq_true rfl)⟩ hl.1 (Nat.le_of_ble_eq_true rfl) d_T_operand_467 ⟨(Nat.le_of_ble_eq_true rfl), (Nat.le_of_ble_eq_true rfl)⟩ ?_
        refine call_T_offset S inC m_547 ⟨(Nat.le_of_ble_eq_true rfl), (Nat.le_of_ble_eq_true rfl)⟩ hl.1 (Nat.le_of_ble_eq_true rfl) d_T_operand_470 ⟨(Nat.le_of_ble_eq_true rfl), (Nat.le_of_ble_eq_true rfl)⟩ hK hne hC hS hA hw (fun H locs hw hS _ => ?_)
        refine lv_goto (tgt := 516) hx hb d_T_operand_473 (by decide) ?_
        exact W.vret hx hb hr (fun t ht hW => ⟨⟨(), rfl, trivial, tw_at ht (tw_eq (by rw [f_T_operand, if_neg c_1, if_neg c_2, if_pos c_3] <;> simp only [List.append_assoc, List.append_nil]) hw)⟩, hS.F ht⟩) hS.2.2 d_T_operand_516
      · by_cases c_4 : x1 = 90
        · refine lv_tableIn (off := 486) (tgt := 487) hx hb d_T_operand_1 (by rw [c_4]; decide) (by rw [c_4]; decide) (by rw [c_4]; decide) (by decide) ?_
          refine lv_aload_n hx hb d_T_operand_487 rfl (lv_at hl 0 rfl) ?_
          refine lv_iload_n hx hb d_T_operand_488 rfl (lv_at hl 2 rfl) ?_
          refine call_F_shortBranch S inC m_557 ⟨(Nat.le_of_ble_eq_true rfl), (Nat.le_of_ble_eq_true rfl)⟩ hl.1 (Nat.le_of_ble_eq_true rfl) d_T_operand_489 ⟨(Nat.le_of_ble_eq_true rfl), (Nat.le_of_ble_eq_true rfl)⟩ ?_
          refine call_T_offset S inC m_547 ⟨(Nat.le_of_ble_eq_true rfl), (Nat.le_of_ble_eq_true rfl)⟩ hl.1 (Nat.le_of_ble_eq_true rfl) d_T_operand_492 ⟨(Nat.le_of_ble_eq_true rfl), (Nat.le_of_ble_eq_true rfl)⟩ hK hne hC hS hA hw (fun H locs hw hS _ => ?_)
          refine lv_goto (tgt := 516) hx hb d_T_operand_495 (by decide) ?_
          exact W.vret hx hb hr (fun t ht hW => ⟨⟨(), rfl, trivial, tw_at ht (tw_eq (by rw [f_T_operand, if_neg c_1, if_neg c_2, if_neg c_3, if_pos c_4] <;> simp only [List.append_assoc, List.append_nil]) hw)⟩, hS.F ht⟩) hS.2.2 d_T_operand_516
        · by_cases c_5 : x1 = 97
          · refine lv_tableIn (off := 253) (tgt := 254) hx hb d_T_operand_1 (by rw [c_5]; decide) (by rw [c_5]; decide) (by rw [c_5]; decide) (by decide) ?_
            refine lv_aload_n hx hb d_T_operand_254 rfl (lv_at hl 0 rfl) ?_
            refine lv_iload_n hx hb d_T_operand_255 rfl (lv_at hl 2 rfl) ?_
            refine lv_bipush (v := 15) hx hb d_T_operand_256 (by decide) ?_
            refine lv_ishr hx hb d_T_operand_258 ?_
            refine lv_bipush (v := 31) hx hb d_T_operand_259 (by decide) ?_
            refine lv_iand hx hb d_T_operand_261 ?_
            refine call_T_register S inC m_474 ⟨(Nat.le_of_ble_eq_true rfl), (Nat.le_of_ble_eq_true rfl)⟩ hl.1 (Nat.le_of_ble_eq_true rfl) d_T_operand_262 ⟨(Nat.le_of_ble_eq_true rfl), (Nat.le_of_ble_eq_true rfl)⟩ hK hne hC hS hA hw (fun H locs hw hS _ => ?_)
            refine lv_goto (tgt := 516) hx hb d_T_operand_265 (by decide) ?_
            exact W.vret hx hb hr (fun t ht hW => ⟨⟨(), rfl, trivial, tw_at ht (tw_eq (by rw [f_T_operand, if_neg c_1, if_neg c_2, if_neg c_3, if_neg c_4, if_pos c_5] <;> simp only [List.append_assoc, List.append_nil]) hw)⟩, hS.F ht⟩) hS.2.2 d_T_operand_516
          · by_cases c_6 : x1 = 98
            · refine lv_tableIn (off := 267) (tgt := 268) hx hb d_T_operand_1 (by rw [c_6]; decide) (by rw [c_6]; decide) (by rw [c_6]; decide) (by decide) ?_
              refine lv_aload_n hx hb d_T_operand_268 rfl (lv_at hl 0 rfl) ?_
              refine lv_iload_n hx hb d_T_operand_269 rfl (lv_at hl 2 rfl) ?_
              refine lv_bipush (v := 20) hx hb d_T_operand_270 (by decide) ?_
              refine lv_ishr hx hb d_T_operand_272 ?_
              refine lv_bipush (v := 31) hx hb d_T_operand_273 (by decide) ?_
              refine lv_iand hx hb d_T_operand_275 ?_
              refine call_T_register S inC m_474 ⟨(Nat.le_of_ble_eq_true rfl), (Nat.le_of_ble_eq_true rfl)⟩ hl.1 (Nat.le_of_ble_eq_true rfl) d_T_operand_276 ⟨(Nat.le_of_ble_eq_true rfl), (Nat.le_of_ble_eq_true rfl)⟩ hK hne hC hS hA hw (fun H locs hw hS _ => ?_)
              refine lv_goto (tgt := 516) hx hb d_T_operand_279 (by decide) ?_
              exact W.vret hx hb hr (fun t ht hW => ⟨⟨(), rfl, trivial, tw_at ht (tw_eq (by rw [f_T_operand, if_neg c_1, if_neg c_2, if_neg c_3, if_neg c_4, if_neg c_5, if_pos c_6] <;> simp only [List.append_assoc, List.append_nil]) hw)⟩, hS.F ht⟩) hS.2.2 d_T_operand_516
            · by_cases c_7 : x1 = 100
              · refine lv_tableIn (off := 239) (tgt := 240) hx hb d_T_operand_1 (by rw [c_7]; decide) (by rw [c_7]; decide) (by rw [c_7]; decide) (by decide) ?_
                refine lv_aload_n hx hb d_T_operand_240 rfl (lv_at hl 0 rfl) ?_
                refine lv_iload_n hx hb d_T_operand_241 rfl (lv_at hl 2 rfl) ?_
                refine lv_bipush (v := 7) hx hb d_T_operand_242 (by decide) ?_
                refine lv_ishr hx hb d_T_operand_244 ?_
                refine lv_bipush (v := 31) hx hb d_T_operand_245 (by decide) ?_
                refine lv_iand hx hb d_T_operand_247 ?_
                refine call_T_register S inC m_474 ⟨(Nat.le_of_ble_eq_true rfl), (Nat.le_of_ble_eq_true rfl)⟩ hl.1 (Nat.le_of_ble_eq_true rfl) d_T_operand_248 ⟨(Nat.le_of_ble_eq_true rfl), (Nat.le_of_ble_eq_true rfl)⟩ hK hne hC hS hA hw (fun H locs hw hS _ => ?_)
                refine lv_goto (tgt := 516) hx hb d_T_operand_251 (by decide) ?_
                exact W.vret hx hb hr (fun t ht hW => ⟨⟨(), rfl, trivial, tw_at ht (tw_eq (by rw [f_T_operand, if_neg c_1, if_neg c_2, if_neg c_3, if_neg c_4, if_neg c_5, if_neg c_6, if_pos c_7] <;> simp only [List.append_assoc, List.append_nil]) hw)⟩, hS.F ht⟩) hS.2.2 d_T_operand_516
              · by_cases c_8 : x1 = 102
                · refine lv_tableIn (off := 398) (tgt := 399) hx hb d_T_operand_1 (by rw [c_8]; decide) (by rw [c_8]; decide) (by rw [c_8]; decide) (by decide) ?_
                  refine lv_aload_n hx hb d_T_operand_399 rfl (lv_at hl 0 rfl) ?_
                  refine lv_iload_n hx hb d_T_operand_400 rfl (lv_at hl 2 rfl) ?_
                  refine call_F_times4 S inC m_531 ⟨(Nat.le_of_ble_eq_true rfl), (Nat.le_of_ble_eq_true rfl)⟩ hl.1 (Nat.le_of_ble_eq_true rfl) d_T_operand_401 ⟨(Nat.le_of_ble_eq_true rfl), (Nat.le_of_ble_eq_true rfl)⟩ ?_
                  refine call_T_number S inC m_513 ⟨(Nat.le_of_ble_eq_true rfl), (Nat.le_of_ble_eq_true rfl)⟩ hl.1 (Nat.le_of_ble_eq_true rfl) d_T_operand_404 ⟨(Nat.le_of_ble_eq_true rfl), (Nat.le_of_ble_eq_true rfl)⟩ hK hne hC hS hA hw (fun H locs hw hS _ => ?_)
                  refine lv_goto (tgt := 516) hx hb d_T_operand_407 (by decide) ?_
                  exact W.vret hx hb hr (fun t ht hW => ⟨⟨(), rfl, trivial, tw_at ht (tw_eq (by rw [f_T_operand, if_neg c_1, if_neg c_2, if_neg c_3, if_neg c_4, if_neg c_5, if_neg c_6, if_neg c_7, if_pos c_8] <;> simp only [List.append_assoc, List.append_nil]) hw)⟩, hS.F ht⟩) hS.2.2 d_T_operand_516
                · by_cases c_9 : x1 = 104
                  · refine lv_tableIn (off := 338) (tgt := 339) hx hb d_T_operand_1 (by rw [c_9]; decide) (by rw [c_9]; decide) (by rw [c_9]; decide) (by decide) ?_
                    refine lv_aload_n hx hb d_T_operand_339 rfl (lv_at hl 0 rfl) ?_
                    refine lv_iload_n hx hb d_T_operand_340 rfl (lv_at hl 2 rfl) ?_
                    refine lv_bipush (v := 20) hx hb d_T_operand_341 (by decide) ?_
                    refine lv_ishr hx hb d_T_operand_343 ?_
                    refine lv_bipush (v := 31) hx hb d_T_operand_344 (by decide) ?_
                    refine lv_iand hx hb d_T_operand_346 ?_
                    refine call_T_number S inC m_513 ⟨(Nat.le_of_ble_eq_true rfl), (Nat.le_of_ble_eq_true rfl)⟩ hl.1 (Nat.le_of_ble_eq_true rfl) d_T_operand_347 ⟨(Nat.le_of_ble_eq_true rfl), (Nat.le_of_ble_eq_true rfl)⟩ hK hne hC hS hA hw (fun H locs hw hS _ => ?_)
                    refine lv_goto (tgt := 516) hx hb d_T_operand_350 (by decide) ?_
                    exact W.vret hx hb hr (fun t ht hW => ⟨⟨(), rfl, trivial, tw_at ht (tw_eq (by rw [f_T_operand, if_neg c_1, if_neg c_2, if_neg c_3, if_neg c_4, if_neg c_5, if_neg c_6, if_neg c_7, if_neg c_8, if_pos c_9] <;> simp only [List.append_assoc, List.append_nil]) hw)⟩, hS.F ht⟩) hS.2.2 d_T_operand_516
                  · by_cases c_10 : x1 = 105
                    · refine lv_tableIn (off := 327) (tgt := 328) hx hb d_T_operand_1 (by rw [c_10]; decide) (by rw [c_10]; decide) (by rw [c_10]; decide) (by decide) ?_
                      refine lv_aload_n hx hb d_T_operand_328 rfl (lv_at hl 0 rfl) ?_
                      refine lv_iload_n hx hb d_T_operand_329 rfl (lv_at hl 2 rfl) ?_
                      refine lv_bipush (v := 20) hx hb d_T_operand_330 (by decide) ?_
                      refine lv_ishr hx hb d_T_operand_332 ?_
                      refine call_T_number S inC m_513 ⟨(Nat.le_of_ble_eq_true rfl), (Nat.le_of_ble_eq_true rfl)⟩ hl.1 (Nat.le_of_ble_eq_true rfl) d_T_operand_333 ⟨(Nat.le_of_ble_eq_true rfl), (Nat.le_of_ble_eq_true rfl)⟩ hK hne hC hS hA hw (fun H locs hw hS _ => ?_)
                      refine lv_goto (tgt := 516) hx hb d_T_operand_336 (by decide) ?_
                      exact W.vret hx hb hr (fun t ht hW => ⟨⟨(), rfl, trivial, tw_at ht (tw_eq (by rw [f_T_operand, if_neg c_1, if_neg c_2, if_neg c_3, if_neg c_4, if_neg c_5, if_neg c_6, if_neg c_7, if_neg c_8, if_neg c_9, if_pos c_10] <;> simp only [List.append_assoc, List.append_nil]) hw)⟩, hS.F ht⟩) hS.2.2 d_T_operand_516
                    · by_cases c_11 : x1 = 107
                      · refine lv_tableIn (off := 442) (tgt := 443) hx hb d_T_operand_1 (by rw [c_11]; decide) (by rw [c_11]; decide) (by rw [c_11]; decide) (by decide) ?_
                        refine lv_aload_n hx hb d_T_operand_443 rfl (lv_at hl 0 rfl) ?_
                        refine lv_iload_n hx hb d_T_operand_444 rfl (lv_at hl 2 rfl) ?_
                        refine call_F_stackStore S inC m_541 ⟨(Nat.le_of_ble_eq_true rfl), (Nat.le_of_ble_eq_true rfl)⟩ hl.1 (Nat.le_of_ble_eq_true rfl) d_T_operand_445 ⟨(Nat.le_of_ble_eq_true rfl), (Nat.le_of_ble_eq_true rfl)⟩ ?_
                        refine call_T_number S inC m_513 ⟨(Nat.le_of_ble_eq_true rfl), (Nat.le_of_ble_eq_true rfl)⟩ hl.1 (Nat.le_of_ble_eq_true rfl) d_T_operand_448 ⟨(Nat.le_of_ble_eq_true rfl), (Nat.le_of_ble_eq_true rfl)⟩ hK hne hC hS hA hw (fun H locs hw hS _ => ?_)
                        refine lv_goto (tgt := 516) hx hb d_T_operand_451 (by decide) ?_
                        exact W.vret hx hb hr (fun t ht hW => ⟨⟨(), rfl, trivial, tw_at ht (tw_eq (by rw [f_T_operand, if_neg c_1, if_neg c_2, if_neg c_3, if_neg c_4, if_neg c_5, if_neg c_6, if_neg c_7, if_neg c_8, if_neg c_9, if_neg c_10, if_pos c_11] <;> simp only [List.append_assoc, List.append_nil]) hw)⟩, hS.F ht⟩) hS.2.2 d_T_operand_516
                      · by_cases c_12 : x1 = 108
                        · refine lv_tableIn (off := 431) (tgt := 432) hx hb d_T_operand_1 (by rw [c_12]; decide) (by rw [c_12]; decide) (by rw [c_12]; decide) (by decide) ?_
                          refine lv_aload_n hx hb d_T_operand_432 rfl (lv_at hl 0 rfl) ?_
                          refine lv_iload_n hx hb d_T_operand_433 rfl (lv_at hl 2 rfl) ?_
                          refine call_F_stackLoad S inC m_538 ⟨(Nat.le_of_ble_eq_true rfl), (Nat.le_of_ble_eq_true rfl)⟩ hl.1 (Nat.le_of_ble_eq_true rfl) d_T_operand_434 ⟨(Nat.le_of_ble_eq_true rfl), (Nat.le_of_ble_eq_true rfl)⟩ ?_
                          refine call_T_number S inC m_513 ⟨(Nat.le_of_ble_eq_true rfl), (Nat.le_of_ble_eq_true rfl)⟩ hl.1 (Nat.le_of_ble_eq_true rfl) d_T_operand_437 ⟨(Nat.le_of_ble_eq_true rfl), (Nat.le_of_ble_eq_true rfl)⟩ hK hne hC hS hA hw (fun H locs hw hS _ => ?_)
                          refine lv_goto (tgt := 516) hx hb d_T_operand_440 (by decide) ?_
                          exact W.vret hx hb hr (fun t ht hW => ⟨⟨(), rfl, trivial, tw_at ht (tw_eq (by rw [f_T_operand, if_neg c_1, if_neg c_2, if_neg c_3, if_neg c_4, if_neg c_5, if_neg c_6, if_neg c_7, if_neg c_8, if_neg c_9, if_neg c_10, if_neg c_11, if_pos c_12] <;> simp only [List.append_assoc, List.append_nil]) hw)⟩, hS.F ht⟩) hS.2.2 d_T_operand_516
                        · by_cases c_13 : x1 = 109
                          · refine lv_tableIn (off := 385) (tgt := 386) hx hb d_T_operand_1 (by rw [c_13]; decide) (by rw [c_13]; decide) (by rw [c_13]; decide) (by decide) ?_
                            refine lv_aload_n hx hb d_T_operand_386 rfl (lv_at hl 0 rfl) ?_
                            refine lv_iload_n hx hb d_T_operand_387 rfl (lv_at hl 2 rfl) ?_
                            refine lv_iconst (v := 2) hx hb d_T_operand_388 (by decide) ?_
                            refine lv_ishr hx hb d_T_operand_389 ?_
                            refine lv_bipush (v := 31) hx hb d_T_operand_390 (by decide) ?_
                            refine lv_iand hx hb d_T_operand_392 ?_
                            refine call_T_number S inC m_513 ⟨(Nat.le_of_ble_eq_true rfl), (Nat.le_of_ble_eq_true rfl)⟩ hl.1 (Nat.le_of_ble_eq_true rfl) d_T_operand_393 ⟨(Nat.le_of_ble_eq_true rfl), (Nat.le_of_ble_eq_true rfl)⟩ hK hne hC hS hA hw (fun H locs hw hS _ => ?_)
                            refine lv_goto (tgt := 516) hx hb d_T_operand_396 (by decide) ?_
                            exact W.vret hx hb hr (fun t ht hW => ⟨⟨(), rfl, trivial, tw_at ht (tw_eq (by rw [f_T_operand, if_neg c_1, if_neg c_2, if_neg c_3, if_neg c_4, if_neg c_5, if_neg c_6, if_neg c_7, if_neg c_8, if_neg c_9, if_neg c_10, if_neg c_11, if_neg c_12, if_pos c_13] <;> simp only [List.append_assoc, List.append_nil]) hw)⟩, hS.F ht⟩) hS.2.2 d_T_operand_516
                          · by_cases c_14 : x1 = 110
                            · refine lv_tableIn (off := 374) (tgt := 375) hx hb d_T_operand_1 (by rw [c_14]; decide) (by rw [c_14]; decide) (by rw [c_14]; decide) (by decide) ?_
                              refine lv_aload_n hx hb d_T_operand_375 rfl (lv_at hl 0 rfl) ?_
                              refine lv_iload_n hx hb d_T_operand_376 rfl (lv_at hl 2 rfl) ?_
                              refine call_F_six S inC m_530 ⟨(Nat.le_of_ble_eq_true rfl), (Nat.le_of_ble_eq_true rfl)⟩ hl.1 (Nat.le_of_ble_eq_true rfl) d_T_operand_377 ⟨(Nat.le_of_ble_eq_true rfl), (Nat.le_of_ble_eq_true rfl)⟩ ?_
                              refine call_T_number S inC m_513 ⟨(Nat.le_of_ble_eq_true rfl), (Nat.le_of_ble_eq_true rfl)⟩ hl.1 (Nat.le_of_ble_eq_true rfl) d_T_operand_380 ⟨(Nat.le_of_ble_eq_true rfl), (Nat.le_of_ble_eq_true rfl)⟩ hK hne hC hS hA hw (fun H locs hw hS _ => ?_)
                              refine lv_goto (tgt := 516) hx hb d_T_operand_383 (by decide) ?_
                              exact W.vret hx hb hr (fun t ht hW => ⟨⟨(), rfl, trivial, tw_at ht (tw_eq (by rw [f_T_operand, if_neg c_1, if_neg c_2, if_neg c_3, if_neg c_4, if_neg c_5, if_neg c_6, if_neg c_7, if_neg c_8, if_neg c_9, if_neg c_10, if_neg c_11, if_neg c_12, if_neg c_13, if_pos c_14] <;> simp only [List.append_assoc, List.append_nil]) hw)⟩, hS.F ht⟩) hS.2.2 d_T_operand_516
                            · by_cases c_15 : x1 = 112
                              · refine lv_tableIn (off := 409) (tgt := 410) hx hb d_T_operand_1 (by rw [c_15]; decide) (by rw [c_15]; decide) (by rw [c_15]; decide) (by decide) ?_
                                refine lv_aload_n hx hb d_T_operand_410 rfl (lv_at hl 0 rfl) ?_
                                refine lv_iload_n hx hb d_T_operand_411 rfl (lv_at hl 2 rfl) ?_
                                refine call_F_times16 S inC m_532 ⟨(Nat.le_of_ble_eq_true rfl), (Nat.le_of_ble_eq_true rfl)⟩ hl.1 (Nat.le_of_ble_eq_true rfl) d_T_operand_412 ⟨(Nat.le_of_ble_eq_true rfl), (Nat.le_of_ble_eq_true rfl)⟩ ?_
                                refine call_T_number S inC m_513 ⟨(Nat.le_of_ble_eq_true rfl), (Nat.le_of_ble_eq_true rfl)⟩ hl.1 (Nat.le_of_ble_eq_true rfl) d_T_operand_415 ⟨(Nat.le_of_ble_eq_true rfl), (Nat.le_of_ble_eq_true rfl)⟩ hK hne hC hS hA hw (fun H locs hw hS _ => ?_)
                                refine lv_goto (tgt := 516) hx hb d_T_operand_418 (by decide) ?_
                                exact W.vret hx hb hr (fun t ht hW => ⟨⟨(), rfl, trivial, tw_at ht (tw_eq (by rw [f_T_operand, if_neg c_1, if_neg c_2, if_neg c_3, if_neg c_4, if_neg c_5, if_neg c_6, if_neg c_7, if_neg c_8, if_neg c_9, if_neg c_10, if_neg c_11, if_neg c_12, if_neg c_13, if_neg c_14, if_pos c_15] <;> simp only [List.append_assoc, List.append_nil]) hw)⟩, hS.F ht⟩) hS.2.2 d_T_operand_516
                              · by_cases c_16 : x1 = 114
                                · refine lv_tableIn (off := 281) (tgt := 282) hx hb d_T_operand_1 (by rw [c_16]; decide) (by rw [c_16]; decide) (by rw [c_16]; decide) (by decide) ?_
                                  refine lv_aload_n hx hb d_T_operand_282 rfl (lv_at hl 0 rfl) ?_
                                  refine lv_iload_n hx hb d_T_operand_283 rfl (lv_at hl 2 rfl) ?_
                                  refine lv_iconst (v := 2) hx hb d_T_operand_284 (by decide) ?_
                                  refine lv_ishr hx hb d_T_operand_285 ?_
                                  refine lv_bipush (v := 31) hx hb d_T_operand_286 (by decide) ?_
                                  refine lv_iand hx hb d_T_operand_288 ?_
                                  refine call_T_register S inC m_474 ⟨(Nat.le_of_ble_eq_true rfl), (Nat.le_of_ble_eq_true rfl)⟩ hl.1 (Nat.le_of_ble_eq_true rfl) d_T_operand_289 ⟨(Nat.le_of_ble_eq_true rfl), (Nat.le_of_ble_eq_true rfl)⟩ hK hne hC hS hA hw (fun H locs hw hS _ => ?_)
                                  refine lv_goto (tgt := 516) hx hb d_T_operand_292 (by decide) ?_
                                  exact W.vret hx hb hr (fun t ht hW => ⟨⟨(), rfl, trivial, tw_at ht (tw_eq (by rw [f_T_operand, if_neg c_1, if_neg c_2, if_neg c_3, if_neg c_4, if_neg c_5, if_neg c_6, if_neg c_7, if_neg c_8, if_neg c_9, if_neg c_10, if_neg c_11, if_neg c_12, if_neg c_13, if_neg c_14, if_neg c_15, if_pos c_16] <;> simp only [List.append_assoc, List.append_nil]) hw)⟩, hS.F ht⟩) hS.2.2 d_T_operand_516
                                · by_cases c_17 : x1 = 115
                                  · refine lv_tableIn (off := 352) (tgt := 353) hx hb d_T_operand_1 (by rw [c_17]; decide) (by rw [c_17]; decide) (by rw [c_17]; decide) (by decide) ?_
                                    refine lv_aload_n hx hb d_T_operand_353 rfl (lv_at hl 0 rfl) ?_
                                    refine lv_iload_n hx hb d_T_operand_354 rfl (lv_at hl 2 rfl) ?_
                                    refine call_F_store S inC m_527 ⟨(Nat.le_of_ble_eq_true rfl), (Nat.le_of_ble_eq_true rfl)⟩ hl.1 (Nat.le_of_ble_eq_true rfl) d_T_operand_355 ⟨(Nat.le_of_ble_eq_true rfl), (Nat.le_of_ble_eq_true rfl)⟩ ?_
                                    refine call_T_number S inC m_513 ⟨(Nat.le_of_ble_eq_true rfl), (Nat.le_of_ble_eq_true rfl)⟩ hl.1 (Nat.le_of_ble_eq_true rfl) d_T_operand_358 ⟨(Nat.le_of_ble_eq_true rfl), (Nat.le_of_ble_eq_true rfl)⟩ hK hne hC hS hA hw (fun H locs hw hS _ => ?_)
                                    refine lv_goto (tgt := 516) hx hb d_T_operand_361 (by decide) ?_
                                    exact W.vret hx hb hr (fun t ht hW => ⟨⟨(), rfl, trivial, tw_at ht (tw_eq (by rw [f_T_operand, if_neg c_1, if_neg c_2, if_neg c_3, if_neg c_4, if_neg c_5, if_neg c_6, if_neg c_7, if_neg c_8, if_neg c_9, if_neg c_10, if_neg c_11, if_neg c_12, if_neg c_13, if_neg c_14, if_neg c_15, if_neg c_16, if_pos c_17] <;> simp only [List.append_assoc, List.append_nil]) hw)⟩, hS.F ht⟩) hS.2.2 d_T_operand_516
                                  · by_cases c_18 : x1 = 117
                                    · refine lv_tableIn (off := 363) (tgt := 364) hx hb d_T_operand_1 (by rw [c_18]; decide) (by rw [c_18]; decide) (by rw [c_18]; decide) (by decide) ?_
                                      refine lv_aload_n hx hb d_T_operand_364 rfl (lv_at hl 0 rfl) ?_
                                      refine lv_iload_n hx hb d_T_operand_365 rfl (lv_at hl 2 rfl) ?_
                                      refine lv_bipush (v := 12) hx hb d_T_operand_366 (by decide) ?_
                                      refine lv_iushr (v := ushr x2 12) hx hb d_T_operand_368 rfl ?_
                                      refine call_T_number S inC m_513 ⟨(Nat.le_of_ble_eq_true rfl), (Nat.le_of_ble_eq_true rfl)⟩ hl.1 (Nat.le_of_ble_eq_true rfl) d_T_operand_369 ⟨(Nat.le_of_ble_eq_true rfl), (Nat.le_of_ble_eq_true rfl)⟩ hK hne hC hS hA hw (fun H locs hw hS _ => ?_)
                                      refine lv_goto (tgt := 516) hx hb d_T_operand_372 (by decide) ?_
                                      exact W.vret hx hb hr (fun t ht hW => ⟨⟨(), rfl, trivial, tw_at ht (tw_eq (by rw [f_T_operand, if_neg c_1, if_neg c_2, if_neg c_3, if_neg c_4, if_neg c_5, if_neg c_6, if_neg c_7, if_neg c_8, if_neg c_9, if_neg c_10, if_neg c_11, if_neg c_12, if_neg c_13, if_neg c_14, if_neg c_15, if_neg c_16, if_neg c_17, if_pos c_18] <;> simp only [List.append_assoc, List.append_nil]) hw)⟩, hS.F ht⟩) hS.2.2 d_T_operand_516
                                    · by_cases c_19 : x1 = 118
                                      · refine lv_tableIn (off := 497) (tgt := 498) hx hb d_T_operand_1 (by rw [c_19]; decide) (by rw [c_19]; decide) (by rw [c_19]; decide) (by decide) ?_
                                        refine lv_aload_n hx hb d_T_operand_498 rfl (lv_at hl 0 rfl) ?_
                                        refine lv_iload_n hx hb d_T_operand_499 rfl (lv_at hl 2 rfl) ?_
                                        refine lv_i2l (v := x2.toInt64) hx hb d_T_operand_500 rfl ?_
                                        refine lv_ldc2 (v := 4294967295) hx hb hown (hT _ m_560) d_T_operand_501 ?_
                                        refine lv_land hx hb d_T_operand_504 ?_
                                        refine call_T_digits S inC m_520 ⟨(Nat.le_of_ble_eq_true rfl), (Nat.le_of_ble_eq_true rfl)⟩ hl.1 (Nat.le_of_ble_eq_true rfl) d_T_operand_505 ⟨(Nat.le_of_ble_eq_true rfl), (Nat.le_of_ble_eq_true rfl)⟩ hK hne hC hS hA hw (fun H locs hw hS _ => ?_)
                                        refine lv_goto (tgt := 516) hx hb d_T_operand_508 (by decide) ?_
                                        exact W.vret hx hb hr (fun t ht hW => ⟨⟨(), rfl, trivial, tw_at ht (tw_eq (by rw [f_T_operand, if_neg c_1, if_neg c_2, if_neg c_3, if_neg c_4, if_neg c_5, if_neg c_6, if_neg c_7, if_neg c_8, if_neg c_9, if_neg c_10, if_neg c_11, if_neg c_12, if_neg c_13, if_neg c_14, if_neg c_15, if_neg c_16, if_neg c_17, if_neg c_18, if_pos c_19] <;> simp only [List.append_assoc, List.append_nil]) hw)⟩, hS.F ht⟩) hS.2.2 d_T_operand_516
                                      · by_cases c_20 : x1 = 119
                                        · refine lv_tableIn (off := 420) (tgt := 421) hx hb d_T_operand_1 (by rw [c_20]; decide) (by rw [c_20]; decide) (by rw [c_20]; decide) (by decide) ?_
                                          refine lv_aload_n hx hb d_T_operand_421 rfl (lv_at hl 0 rfl) ?_
                                          refine lv_iload_n hx hb d_T_operand_422 rfl (lv_at hl 2 rfl) ?_
                                          refine call_F_shortWord S inC m_535 ⟨(Nat.le_of_ble_eq_true rfl), (Nat.le_of_ble_eq_true rfl)⟩ hl.1 (Nat.le_of_ble_eq_true rfl) d_T_operand_423 ⟨(Nat.le_of_ble_eq_true rfl), (Nat.le_of_ble_eq_true rfl)⟩ ?_
                                          refine call_T_number S inC m_513 ⟨(Nat.le_of_ble_eq_true rfl), (Nat.le_of_ble_eq_true rfl)⟩ hl.1 (Nat.le_of_ble_eq_true rfl) d_T_operand_426 ⟨(Nat.le_of_ble_eq_true rfl), (Nat.le_of_ble_eq_true rfl)⟩ hK hne hC hS hA hw (fun H locs hw hS _ => ?_)
                                          refine lv_goto (tgt := 516) hx hb d_T_operand_429 (by decide) ?_
                                          exact W.vret hx hb hr (fun t ht hW => ⟨⟨(), rfl, trivial, tw_at ht (tw_eq (by rw [f_T_operand, if_neg c_1, if_neg c_2, if_neg c_3, if_neg c_4, if_neg c_5, if_neg c_6, if_neg c_7, if_neg c_8, if_neg c_9, if_neg c_10, if_neg c_11, if_neg c_12, if_neg c_13, if_neg c_14, if_neg c_15, if_neg c_16, if_neg c_17, if_neg c_18, if_neg c_19, if_pos c_20] <;> simp only [List.append_assoc, List.append_nil]) hw)⟩, hS.F ht⟩) hS.2.2 d_T_operand_516
                                        · by_cases c_21 : x1 = 120
                                          · refine lv_tableIn (off := 294) (tgt := 295) hx hb d_T_operand_1 (by rw [c_21]; decide) (by rw [c_21]; decide) (by rw [c_21]; decide) (by decide) ?_
                                            refine lv_aload_n hx hb d_T_operand_295 rfl (lv_at hl 0 rfl) ?_
                                            refine lv_bipush (v := 8) hx hb d_T_operand_296 (by decide) ?_
                                            refine lv_iload_n hx hb d_T_operand_298 rfl (lv_at hl 2 rfl) ?_
                                            refine lv_bipush (v := 7) hx hb d_T_operand_299 (by decide) ?_
                                            refine lv_ishr hx hb d_T_operand_301 ?_
                                            refine lv_bipush (v := 7) hx hb d_T_operand_302 (by decide) ?_
                                            refine lv_iand hx hb d_T_operand_304 ?_
                                            refine lv_iadd hx hb d_T_operand_305 ?_
                                            refine call_T_register S inC m_474 ⟨(Nat.le_of_ble_eq_true rfl), (Nat.le_of_ble_eq_true rfl)⟩ hl.1 (Nat.le_of_ble_eq_true rfl) d_T_operand_306 ⟨(Nat.le_of_ble_eq_true rfl), (Nat.le_of_ble_eq_true rfl)⟩ hK hne hC hS hA hw (fun H locs hw hS _ => ?_)
                                            refine lv_goto (tgt := 516) hx hb d_T_operand_309 (by decide) ?_
                                            exact W.vret hx hb hr (fun t ht hW => ⟨⟨(), rfl, trivial, tw_at ht (tw_eq (by rw [f_T_operand, if_neg c_1, if_neg c_2, if_neg c_3, if_neg c_4, if_neg c_5, if_neg c_6, if_neg c_7, if_neg c_8, if_neg c_9, if_neg c_10, if_neg c_11, if_neg c_12, if_neg c_13, if_neg c_14, if_neg c_15, if_neg c_16, if_neg c_17, if_neg c_18, if_neg c_19, if_neg c_20, if_pos c_21] <;> simp only [List.append_assoc, List.append_nil]) hw)⟩, hS.F ht⟩) hS.2.2 d_T_operand_516
                                          · by_cases c_22 : x1 = 121
                                            · refine lv_tableIn (off := 311) (tgt := 312) hx hb d_T_operand_1 (by rw [c_22]; decide) (by rw [c_22]; decide) (by rw [c_22]; decide) (by decide) ?_
                                              refine lv_aload_n hx hb d_T_operand_312 rfl (lv_at hl 0 rfl) ?_
                                              refine lv_bipush (v := 8) hx hb d_T_operand_313 (by decide) ?_
                                              refine lv_iload_n hx hb d_T_operand_315 rfl (lv_at hl 2 rfl) ?_
                                              refine lv_iconst (v := 2) hx hb d_T_operand_316 (by decide) ?_
                                              refine lv_ishr hx hb d_T_operand_317 ?_
                                              refine lv_bipush (v := 7) hx hb d_T_operand_318 (by decide) ?_
                                              refine lv_iand hx hb d_T_operand_320 ?_
                                              refine lv_iadd hx hb d_T_operand_321 ?_
                                              refine call_T_register S inC m_474 ⟨(Nat.le_of_ble_eq_true rfl), (Nat.le_of_ble_eq_true rfl)⟩ hl.1 (Nat.le_of_ble_eq_true rfl) d_T_operand_322 ⟨(Nat.le_of_ble_eq_true rfl), (Nat.le_of_ble_eq_true rfl)⟩ hK hne hC hS hA hw (fun H locs hw hS _ => ?_)
                                              refine lv_goto (tgt := 516) hx hb d_T_operand_325 (by decide) ?_
                                              exact W.vret hx hb hr (fun t ht hW => ⟨⟨(), rfl, trivial, tw_at ht (tw_eq (by rw [f_T_operand, if_neg c_1, if_neg c_2, if_neg c_3, if_neg c_4, if_neg c_5, if_neg c_6, if_neg c_7, if_neg c_8, if_neg c_9, if_neg c_10, if_neg c_11, if_neg c_12, if_neg c_13, if_neg c_14, if_neg c_15, if_neg c_16, if_neg c_17, if_neg c_18, if_neg c_19, if_neg c_20, if_neg c_21, if_pos c_22] <;> simp only [List.append_assoc, List.append_nil]) hw)⟩, hS.F ht⟩) hS.2.2 d_T_operand_516
                                            · refine tb_out (tgt := 511) hx hb d_T_operand_1 (by have n0 := lv_neT c_1 (show (66 : Int32).toInt = 66 from (by decide)); have n1 := lv_neT c_2 (show (67 : Int32).toInt = 67 from (by decide)); have n2 := lv_neT c_3 (show (74 : Int32).toInt = 74 from (by decide)); have n3 := lv_neT c_4 (show (90 : Int32).toInt = 90 from (by decide)); have n4 := lv_neT c_5 (show (97 : Int32).toInt = 97 from (by decide)); have n5 := lv_neT c_6 (show (98 : Int32).toInt = 98 from (by decide)); have n6 := lv_neT c_7 (show (100 : Int32).toInt = 100 from (by decide)); have n7 := lv_neT c_8 (show (102 : Int32).toInt = 102 from (by decide)); have n8 := lv_neT c_9 (show (104 : Int32).toInt = 104 from (by decide)); have n9 := lv_neT c_10 (show (105 : Int32).toInt = 105 from (by decide)); have n10 := lv_neT c_11 (show (107 : Int32).toInt = 107 from (by decide)); have n11 := lv_neT c_12 (show (108 : Int32).toInt = 108 from (by decide)); have n12 := lv_neT c_13 (show (109 : Int32).toInt = 109 from (by decide)); have n13 := lv_neT c_14 (show (110 : Int32).toInt = 110 from (by decide)); have n14 := lv_neT c_15 (show (112 : Int32).toInt = 112 from (by decide)); have n15 := lv_neT c_16 (show (114 : Int32).toInt = 114 from (by decide)); have n16 := lv_neT c_17 (show (115 : Int32).toInt = 115 from (by decide)); have n17 := lv_neT c_18 (show (117 : Int32).toInt = 117 from (by decide)); have n18 := lv_neT c_19 (show (118 : Int32).toInt = 118 from (by decide)); have n19 := lv_neT c_20 (show (119 : Int32).toInt = 119 from (by decide)); have n20 := lv_neT c_21 (show (120 : Int32).toInt = 120 from (by decide)); have n21 := lv_neT c_22 (show (121 : Int32).toInt = 121 from (by decide)); intro j hj hi; have key : ∀ j : Nat, j < 56 → j ∈ ([0, 1, 8, 24, 31, 32, 34, 36, 38, 39, 41, 42, 43, 44, 46, 48, 49, 51, 52, 53, 54, 55] : List Nat) ∨ (#[453, 475, 510, 510, 510, 510, 510, 510, 464, 510, 510, 510, 510, 510, 510, 510, 510, 510, 510, 510, 510, 510, 510, 510, 486, 510, 510, 510, 510, 510, 510, 253, 267, 510, 239, 510, 398, 510, 338, 327, 510, 442, 431, 385, 374, 510, 409, 510, 281, 352, 510, 363, 497, 420, 294, 311] : Array Int)[j]? = some 510 := (by decide); exact (key j (by omega)).elim (fun h => absurd h (by simp only [List.mem_cons, List.not_mem_nil, or_false]; omega)) id) (by decide) ?_
                                              refine lv_aload_n hx hb d_T_operand_511 rfl (lv_at hl 0 rfl) ?_
                                              refine lv_iload_n hx hb d_T_operand_512 rfl (lv_at hl 1 rfl) ?_
                                              refine call_T_put S inC m_455 ⟨(Nat.le_of_ble_eq_true rfl), (Nat.le_of_ble_eq_true rfl)⟩ hl.1 (Nat.le_of_ble_eq_true rfl) d_T_operand_513 ⟨(Nat.le_of_ble_eq_true rfl), (Nat.le_of_ble_eq_true rfl)⟩ hK hne hC hS hA hw hcc (fun H locs hw hS _ => ?_)
                                              exact W.vret hx hb hr (fun t ht hW => ⟨⟨(), rfl, trivial, tw_at ht (tw_eq (by rw [f_T_operand, if_neg c_1, if_neg c_2, if_neg c_3, if_neg c_4, if_neg c_5, if_neg c_6, if_neg c_7, if_neg c_8, if_neg c_9, if_neg c_10, if_neg c_11, if_neg c_12, if_neg c_13, if_neg c_14, if_neg c_15, if_neg c_16, if_neg c_17, if_neg c_18, if_neg c_19, if_neg c_20, if_neg c_21, if_neg c_22] <;> simp only [List.append_assoc, List.append_nil]) hw)⟩, hS.F ht⟩) hS.2.2 d_T_operand_516
theorem call_T_operand {p : Program} {l : Launch} {e : Env} {R : Room} {s : State} {m : MethodId} {args : Array Value} {below : List Frame} {meth : Method} {c : Code} {H : Heap} {locs : List Loc} {cells slots : Nat} {Q : State → Prop} {cc : ByteArray} {pc nL idx : Nat} {ls : Array Slot} {rest : List Value} {Ts : List Cond} {own : String} {adE adK adV : Nat → Nat} {A0 : Nat → Prop} {dC : Nat → ClassId} {dI : Nat → Nat → Nat} {cC : ClassId} {h0 h1 : Nat} {v : List Int32} {x1 x2 : Int32} (S : CallFix p m c cc nL s args Ts own) (hTs : ∀ w ∈ WT, w ∈ Ts) (h1' : Cond.methodLink own idx y_T_operand ∈ WT) (hR : 6 + 1 ≤ R.frames ∧ 8 + (3 + 11) + 128 ≤ R.locals) (hsz : ls.size = nL) (hrm : (rest.map fun v => v.category).sum ≤ 8) (hdg : decode cc pc = .ok (.invokevirtual idx, 3)) (hc : cells ≤ R.cells ∧ slots ≤ R.slots) (hK : va_K (dC, dI) classes [(cC, .char)] s) (hne : h0 ≠ h1) (hC : cx adE adK adV A0 s s.heap) (hS : va_S A0 s.heap H locs) (hA : ∀ q, aT h0 h1 q → A0 q) (hw : tw dC dI cC h0 h1 v H) (hcc : vp_nar .char x1 = x1) (kk : ∀ (H1 : Heap) (locs1 : List Loc), tw dC dI cC h0 h1 (v ++ f_T_operand x1 x2) H1 → va_S A0 s.heap H1 locs1 → (H.size ≤ H1.size ∧ ∀ q : Nat, q < H.size → ¬ aT h0 h1 q → H1[q]? = H[q]?) → W p l e R s m args below meth c H1 locs1 cells slots Q (F0 m (pc + 3) ls rest)) : W p l e R s m args below meth c H locs cells slots Q (F0 m pc ls (.int x2 :: .int x1 :: .ref h0 :: rest)) :=
  va_callv (va_runV (As := [.int x1, .int x2]) (rest := rest) S (c_T_operand l adE adK adV dC dI cC h0 h1 v x1 x2) (cwV 2 S.2.2.2.2 (gV hTs h1' m_472 m_4 m_51 m_473) rfl rfl rfl (by decide +kernel) hR) ⟨fun a U g mk q => ⟨q.1, ⟨q.2.1.blind, q.2.2⟩⟩, tw_recv hK hw, fun U hU hW => ⟨rfl, ⟨twU.at hK hne hC hS hA hw hU hW, hcc⟩⟩⟩ rfl rfl hsz rfl (lv_room hrm) hdg hc) hS (fun q _ h => hA q h) hA (fun u t H1 locs1 ht hvm hp hB hz hk hS1 => kk H1 locs1 (by rw [← ht]; exact hB) hS1 ⟨hz, hk⟩)
