theorem sTx_lt : ∀ k, k < 159 → (sTx k).length < 40 := by decide +kernel
theorem sTx_ch : ∀ k, k < 159 → ∀ j, j < (sTx k).length → (((sTx k).getD j 0 &&& 255).toUInt32 % 65536).toInt32 = (sTx k).getD j 0 := by decide +kernel
theorem sTx_na : ∀ k, k < 159 → ∀ j, j < (sTx k).length → narrow .char (.int ((sTx k).getD j 0)) = .int ((sTx k).getD j 0) := by decide +kernel
theorem cx_recvK {adE adK adV : Nat → Nat} {A : Nat → Prop} {s : State} {H : Heap} {locs : List Loc} {k : Nat} (h : cx adE adK adV A s s.heap) (hS : va_S A s.heap H locs) (hk : k < 159) : ∃ cell : Cell, H[adK k]? = some cell ∧ cell.vm.isStatics = false ∧ s.vm.findClass R_JS = some cell.cls := by
  obtain ⟨cell, h1, h2, h3, -⟩ := (h.2.1 k hk).1.kept hS.2.1
  exact ⟨cell, h1, h2, h3⟩
theorem cx_recvE {adE adK adV : Nat → Nat} {A : Nat → Prop} {s : State} {H : Heap} {locs : List Loc} {i : Nat} (h : cx adE adK adV A s s.heap) (hS : va_S A s.heap H locs) (hi : i < 95) : ∃ cell : Cell, H[adE i]? = some cell ∧ cell.vm.isStatics = false ∧ s.vm.findClass R_K = some cell.cls := by
  obtain ⟨cell, h1, h2, h3, -⟩ := (h.1 i hi).2.1.kept hS.2.1
  exact ⟨cell, h1, h2, h3⟩

set_option maxRecDepth 100000 in
set_option maxHeartbeats 4000000 in
theorem c_JS_coder (l : Launch) (adE adK adV : Nat → Nat) (k : Nat) : Met l y_JS_coder (Cond.code y_JS_coder b_JS_coder 1 (some .byte) :: WT) ({ frames := 0, cells := 0, slots := 0, locals := 0 }) (va_Pc [.ref (adK k)] (fun U => cx adE adK adV no U U.heap ∧ k < 159)) (vp_Si (fun r => r = 0)) 0 0 no := by
  refine va_MetF (cc := b_JS_coder) (maxL := 1) (ret := (some .byte)) (by decide +kernel) rfl ?_
  intro p e s m args below meth c s₁ B hml hv
  obtain ⟨rfl, hC, hk⟩ := hv
  have hx := B.exec
  have hb := B.bytes
  have hr := B.returns
  have hts := atoms_spec (ws := (Cond.code y_JS_coder b_JS_coder 1 (some .byte) :: WT)) B.pre
  have hT : ∀ w ∈ WT, w.before _ s = true := fun w h => hts w (inC w h)
  have hown : s.vm.findClass R_JS = some m.cls := findClass_of_methodNamed B.named
  have hlocks := B.notSynchronized
  have hS : va_S no s.heap s.heap [] := va_S.rf
  have S : CallFix p m c b_JS_coder 1 s _ (Cond.code y_JS_coder b_JS_coder 1 (some .byte) :: WT) R_JS := ⟨hx, hb, hml, hown, hts⟩
  have hl := lv_entry ([.ref (adK k)]) (n := 1) (Nat.le_of_ble_eq_true rfl)
  rw [lg_entry_eq]
  generalize (lg_sl ([.ref (adK k)]) ++ List.replicate (1 - (lg_sl ([.ref (adK k)])).length) Slot.unset).toArray = ls at hl ⊢
  have hl : lv_has ls 1 [(0, .ref (adK k))] := hl
  refine va_gets (v := .int 1) hx hb hC.2.2.2.2.1 hS hown (hT _ m_415) (fun _ h => h) d_JS_coder_0 ?_
  refine lv_if_eq (tgt := 13) hx hb d_JS_coder_3 (by decide) (fun h => absurd h (by decide)) (fun _ => ?_)
  refine lv_aload_n hx hb d_JS_coder_6 rfl (lv_at hl 0 rfl) ?_
  refine vk_getf hx hb (hC.2.1 k hk).2.1 hS hown (hT _ m_1072) (fun _ h => h) d_JS_coder_7 ?_
  refine lv_goto (tgt := 14) hx hb d_JS_coder_10 (by decide) ?_
  exact W.zret (v := 0) hx hb hr rfl (fun t ht hW => ⟨0, rfl, rfl, ht⟩) (fun _ h => by cases h) d_JS_coder_14

theorem call_JS_coder {p : Program} {l : Launch} {e : Env} {R : Room} {s : State} {m : MethodId} {args : Array Value} {below : List Frame} {meth : Method} {c : Code} {H : Heap} {locs : List Loc} {cells slots : Nat} {Q : State → Prop} {cc : ByteArray} {pc nL idx : Nat} {ls : Array Slot} {rest : List Value} {Ts : List Cond} {own : String} {adE adK adV : Nat → Nat} {A0 : Nat → Prop} {k : Nat} (S : CallFix p m c cc nL s args Ts own) (hTs : ∀ w ∈ WT, w ∈ Ts) (hlk : Cond.methodLink own idx y_JS_coder ∈ WT) (hR : 0 + 1 ≤ R.frames ∧ 8 + (1 + 11) + 0 ≤ R.locals) (hsz : ls.size = nL) (hrm : (rest.map fun v => v.category).sum ≤ 8) (hdg : decode cc pc = .ok (.invokevirtual idx, 3)) (hc : cells ≤ R.cells ∧ slots ≤ R.slots) (hC : cx adE adK adV A0 s s.heap) (hS : va_S A0 s.heap H locs) (hk : k < 159) (kk : W p l e R s m args below meth c H locs cells slots Q (F0 m (pc + 3) ls (.int 0 :: rest))) : W p l e R s m args below meth c H locs cells slots Q (F0 m pc ls (.ref (adK k) :: rest)) :=
  vp_callSi (va_Run.run (va_runV (As := []) (rest := rest) S (c_JS_coder l adE adK adV k) (cwV 0 S.2.2.2.2 (gV hTs hlk m_412 m_413 m_58 m_414) rfl rfl rfl (by decide +kernel) hR) ⟨fun a U g mk q => ⟨q.1, q.2.1.blind, q.2.2⟩, cx_recvK hC hS hk, fun U hU hW => ⟨rfl, hC.at hS no_in hU hW, hk⟩⟩ rfl rfl hsz rfl (lv_room hrm) hdg hc)) (fun r e => by subst e; exact kk)

set_option maxRecDepth 100000 in
set_option maxHeartbeats 4000000 in
theorem c_JS_isLatin1 (l : Launch) (adE adK adV : Nat → Nat) (k : Nat) : Met l y_JS_isLatin1 (Cond.code y_JS_isLatin1 b_JS_isLatin1 1 (some .boolean) :: WT) ({ frames := 0, cells := 0, slots := 0, locals := 0 }) (va_Pc [.ref (adK k)] (fun U => cx adE adK adV no U U.heap ∧ k < 159)) (vp_Si (fun r => r = 1)) 0 0 no := by
  refine va_MetF (cc := b_JS_isLatin1) (maxL := 1) (ret := (some .boolean)) (by decide +kernel) rfl ?_
  intro p e s m args below meth c s₁ B hml hv
  obtain ⟨rfl, hC, hk⟩ := hv
  have hx := B.exec
  have hb := B.bytes
  have hr := B.returns
  have hts := atoms_spec (ws := (Cond.code y_JS_isLatin1 b_JS_isLatin1 1 (some .boolean) :: WT)) B.pre
  have hT : ∀ w ∈ WT, w.before _ s = true := fun w h => hts w (inC w h)
  have hown : s.vm.findClass R_JS = some m.cls := findClass_of_methodNamed B.named
  have hlocks := B.notSynchronized
  have hS : va_S no s.heap s.heap [] := va_S.rf
  have S : CallFix p m c b_JS_isLatin1 1 s _ (Cond.code y_JS_isLatin1 b_JS_isLatin1 1 (some .boolean) :: WT) R_JS := ⟨hx, hb, hml, hown, hts⟩
  have hl := lv_entry ([.ref (adK k)]) (n := 1) (Nat.le_of_ble_eq_true rfl)
  rw [lg_entry_eq]
  generalize (lg_sl ([.ref (adK k)]) ++ List.replicate (1 - (lg_sl ([.ref (adK k)])).length) Slot.unset).toArray = ls at hl ⊢
  have hl : lv_has ls 1 [(0, .ref (adK k))] := hl
  refine va_gets (v := .int 1) hx hb hC.2.2.2.2.1 hS hown (hT _ m_415) (fun _ h => h) d_JS_isLatin1_0 ?_
  refine lv_if_eq (tgt := 17) hx hb d_JS_isLatin1_3 (by decide) (fun h => absurd h (by decide)) (fun _ => ?_)
  refine lv_aload_n hx hb d_JS_isLatin1_6 rfl (lv_at hl 0 rfl) ?_
  refine vk_getf hx hb (hC.2.1 k hk).2.1 hS hown (hT _ m_1072) (fun _ h => h) d_JS_isLatin1_7 ?_
  refine lv_if_ne (tgt := 17) hx hb d_JS_isLatin1_10 (by decide) (fun h => absurd rfl h) (fun _ => ?_)
  refine lv_iconst (v := 1) hx hb d_JS_isLatin1_13 (by decide) ?_
  refine lv_goto (tgt := 18) hx hb d_JS_isLatin1_14 (by decide) ?_
  exact W.zret (v := 1) hx hb hr rfl (fun t ht hW => ⟨1, rfl, rfl, ht⟩) (fun _ h => by cases h) d_JS_isLatin1_18

theorem call_JS_isLatin1 {p : Program} {l : Launch} {e : Env} {R : Room} {s : State} {m : MethodId} {args : Array Value} {below : List Frame} {meth : Method} {c : Code} {H : Heap} {locs : List Loc} {cells slots : Nat} {Q : State → Prop} {cc : ByteArray} {pc nL idx : Nat} {ls : Array Slot} {rest : List Value} {Ts : List Cond} {own : String} {adE adK adV : Nat → Nat} {A0 : Nat → Prop} {k : Nat} (S : CallFix p m c cc nL s args Ts own) (hTs : ∀ w ∈ WT, w ∈ Ts) (hlk : Cond.methodLink own idx y_JS_isLatin1 ∈ WT) (hR : 0 + 1 ≤ R.frames ∧ 8 + (1 + 11) + 0 ≤ R.locals) (hsz : ls.size = nL) (hrm : (rest.map fun v => v.category).sum ≤ 8) (hdg : decode cc pc = .ok (.invokevirtual idx, 3)) (hc : cells ≤ R.cells ∧ slots ≤ R.slots) (hC : cx adE adK adV A0 s s.heap) (hS : va_S A0 s.heap H locs) (hk : k < 159) (kk : W p l e R s m args below meth c H locs cells slots Q (F0 m (pc + 3) ls (.int 1 :: rest))) : W p l e R s m args below meth c H locs cells slots Q (F0 m pc ls (.ref (adK k) :: rest)) :=
  vp_callSi (va_Run.run (va_runV (As := []) (rest := rest) S (c_JS_isLatin1 l adE adK adV k) (cwV 0 S.2.2.2.2 (gV hTs hlk m_422 m_423 m_58 m_424) rfl rfl rfl (by decide +kernel) hR) ⟨fun a U g mk q => ⟨q.1, q.2.1.blind, q.2.2⟩, cx_recvK hC hS hk, fun U hU hW => ⟨rfl, hC.at hS no_in hU hW, hk⟩⟩ rfl rfl hsz rfl (lv_room hrm) hdg hc)) (fun r e => by subst e; exact kk)

def f_JS_isEmpty (k : Nat) : Int32 := if nI (sTx k).length = 0 then 1 else 0
set_option maxRecDepth 100000 in
set_option maxHeartbeats 4000000 in
theorem c_JS_isEmpty (l : Launch) (adE adK adV : Nat → Nat) (k : Nat) : Met l y_JS_isEmpty (Cond.code y_JS_isEmpty b_JS_isEmpty 1 (some .boolean) :: WT) ({ frames := 0, cells := 0, slots := 0, locals := 0 }) (va_Pc [.ref (adK k)] (fun U => cx adE adK adV no U U.heap ∧ k < 159)) (vp_Si (fun r => r = f_JS_isEmpty k)) 0 0 no := by
  refine va_MetF (cc := b_JS_isEmpty) (maxL := 1) (ret := (some .boolean)) (by decide +kernel) rfl ?_
  intro p e s m args below meth c s₁ B hml hv
  obtain ⟨rfl, hC, hk⟩ := hv
  have hx := B.exec
  have hb := B.bytes
  have hr := B.returns
  have hts := atoms_spec (ws := (Cond.code y_JS_isEmpty b_JS_isEmpty 1 (some .boolean) :: WT)) B.pre
  have hT : ∀ w ∈ WT, w.before _ s = true := fun w h => hts w (inC w h)
  have hown : s.vm.findClass R_JS = some m.cls := findClass_of_methodNamed B.named
  have hlocks := B.notSynchronized
  have hS : va_S no s.heap s.heap [] := va_S.rf
  have S : CallFix p m c b_JS_isEmpty 1 s _ (Cond.code y_JS_isEmpty b_JS_isEmpty 1 (some .boolean) :: WT) R_JS := ⟨hx, hb, hml, hown, hts⟩
  have hl := lv_entry ([.ref (adK k)]) (n := 1) (Nat.le_of_ble_eq_true rfl)
  rw [lg_entry_eq]
  generalize (lg_sl ([.ref (adK k)]) ++ List.replicate (1 - (lg_sl ([.ref (adK k)])).length) Slot.unset).toArray = ls at hl ⊢
  have hl : lv_has ls 1 [(0, .ref (adK k))] := hl
  refine lv_aload_n hx hb d_JS_isEmpty_0 rfl (lv_at hl 0 rfl) ?_
  refine vk_getf hx hb (hC.2.1 k hk).2.2.1 hS hown (hT _ m_1071) (fun _ h => h) d_JS_isEmpty_1 ?_
  refine va_tlen (v := nI (sTx k).length) hx hb (hC.2.1 k hk).2.2.2 hS rfl d_JS_isEmpty_4 ?_
  refine lv_if_ne (tgt := 12) hx hb d_JS_isEmpty_5 (by decide) (fun h => ?_) (fun h => ?_)
  · refine lv_iconst (v := 0) hx hb d_JS_isEmpty_12 (by decide) ?_
    exact W.zret (v := 0) hx hb hr rfl (fun t ht hW => ⟨0, rfl, by rw [f_JS_isEmpty, if_neg h], ht⟩) (fun _ h => by cases h) d_JS_isEmpty_13
  · refine lv_iconst (v := 1) hx hb d_JS_isEmpty_8 (by decide) ?_
    refine lv_goto (tgt := 13) hx hb d_JS_isEmpty_9 (by decide) ?_
    exact W.zret (v := 1) hx hb hr rfl (fun t ht hW => ⟨1, rfl, by rw [f_JS_isEmpty, if_pos h], ht⟩) (fun _ h => by cases h) d_JS_isEmpty_13

theorem call_JS_isEmpty {p : Program} {l : Launch} {e : Env} {R : Room} {s : State} {m : MethodId} {args : Array Value} {below : List Frame} {meth : Method} {c : Code} {H : Heap} {locs : List Loc} {cells slots : Nat} {Q : State → Prop} {cc : ByteArray} {pc nL idx : Nat} {ls : Array Slot} {rest : List Value} {Ts : List Cond} {own : String} {adE adK adV : Nat → Nat} {A0 : Nat → Prop} {k : Nat} (S : CallFix p m c cc nL s args Ts own) (hTs : ∀ w ∈ WT, w ∈ Ts) (hlk : Cond.methodLink own idx y_JS_isEmpty ∈ WT) (hR : 0 + 1 ≤ R.frames ∧ 8 + (1 + 11) + 0 ≤ R.locals) (hsz : ls.size = nL) (hrm : (rest.map fun v => v.category).sum ≤ 8) (hdg : decode cc pc = .ok (.invokevirtual idx, 3)) (hc : cells ≤ R.cells ∧ slots ≤ R.slots) (hC : cx adE adK adV A0 s s.heap) (hS : va_S A0 s.heap H locs) (hk : k < 159) (kk : W p l e R s m args below meth c H locs cells slots Q (F0 m (pc + 3) ls (.int (f_JS_isEmpty k) :: rest))) : W p l e R s m args below meth c H locs cells slots Q (F0 m pc ls (.ref (adK k) :: rest)) :=
  vp_callSi (va_Run.run (va_runV (As := []) (rest := rest) S (c_JS_isEmpty l adE adK adV k) (cwV 0 S.2.2.2.2 (gV hTs hlk m_467 m_468 m_58 m_469) rfl rfl rfl (by decide +kernel) hR) ⟨fun a U g mk q => ⟨q.1, q.2.1.blind, q.2.2⟩, cx_recvK hC hS hk, fun U hU hW => ⟨rfl, hC.at hS no_in hU hW, hk⟩⟩ rfl rfl hsz rfl (lv_room hrm) hdg hc)) (fun r e => by subst e; exact kk)

set_option maxRecDepth 100000 in
set_option maxHeartbeats 4000000 in
theorem c_JS_length (l : Launch) (adE adK adV : Nat → Nat) (k : Nat) : Met l y_JS_length (Cond.code y_JS_length b_JS_length 1 (some .int) :: WT) ({ frames := 1, cells := 0, slots := 0, locals := 20 }) (va_Pc [.ref (adK k)] (fun U => cx adE adK adV no U U.heap ∧ k < 159)) (vp_Si (fun r => r = nI (sTx k).length)) 0 0 no := by
  refine va_MetF (cc := b_JS_length) (maxL := 1) (ret := (some .int)) (by decide +kernel) rfl ?_
  intro p e s m args below meth c s₁ B hml hv
  obtain ⟨rfl, hC, hk⟩ := hv
  have hx := B.exec
  have hb := B.bytes
  have hr := B.returns
  have hts := atoms_spec (ws := (Cond.code y_JS_length b_JS_length 1 (some .int) :: WT)) B.pre
  have hT : ∀ w ∈ WT, w.before _ s = true := fun w h => hts w (inC w h)
  have hown : s.vm.findClass R_JS = some m.cls := findClass_of_methodNamed B.named
  have hlocks := B.notSynchronized
  have hS : va_S no s.heap s.heap [] := va_S.rf
  have S : CallFix p m c b_JS_length 1 s _ (Cond.code y_JS_length b_JS_length 1 (some .int) :: WT) R_JS := ⟨hx, hb, hml, hown, hts⟩
  have hl := lv_entry ([.ref (adK k)]) (n := 1) (Nat.le_of_ble_eq_true rfl)
  rw [lg_entry_eq]
  generalize (lg_sl ([.ref (adK k)]) ++ List.replicate (1 - (lg_sl ([.ref (adK k)])).length) Slot.unset).toArray = ls at hl ⊢
  have hl : lv_has ls 1 [(0, .ref (adK k))] := hl
  refine lv_aload_n hx hb d_JS_length_0 rfl (lv_at hl 0 rfl) ?_
  refine vk_getf hx hb (hC.2.1 k hk).2.2.1 hS hown (hT _ m_1071) (fun _ h => h) d_JS_length_1 ?_
  refine va_tlen (v := nI (sTx k).length) hx hb (hC.2.1 k hk).2.2.2 hS rfl d_JS_length_4 ?_
  refine lv_aload_n hx hb d_JS_length_5 rfl (lv_at hl 0 rfl) ?_
  refine call_JS_coder S inC m_411 ⟨(Nat.le_of_ble_eq_true rfl), (Nat.le_of_ble_eq_true rfl)⟩ hl.1 (Nat.le_of_ble_eq_true rfl) d_JS_length_6 ⟨(Nat.le_of_ble_eq_true rfl), (Nat.le_of_ble_eq_true rfl)⟩ hC hS hk ?_
  refine lv_ishr hx hb d_JS_length_9 ?_
  exact W.iret (v := nI (sTx k).length >>> ((0 : Int32) &&& 31)) hx hb hr (fun t ht hW => ⟨_, rfl, sb_shr0 _, ht⟩) (fun _ h => by cases h) d_JS_length_10

theorem call_JS_length {p : Program} {l : Launch} {e : Env} {R : Room} {s : State} {m : MethodId} {args : Array Value} {below : List Frame} {meth : Method} {c : Code} {H : Heap} {locs : List Loc} {cells slots : Nat} {Q : State → Prop} {cc : ByteArray} {pc nL idx : Nat} {ls : Array Slot} {rest : List Value} {Ts : List Cond} {own : String} {adE adK adV : Nat → Nat} {A0 : Nat → Prop} {k : Nat} (S : CallFix p m c cc nL s args Ts own) (hTs : ∀ w ∈ WT, w ∈ Ts) (hlk : Cond.methodLink own idx y_JS_length ∈ WT) (hR : 1 + 1 ≤ R.frames ∧ 8 + (1 + 11) + 20 ≤ R.locals) (hsz : ls.size = nL) (hrm : (rest.map fun v => v.category).sum ≤ 8) (hdg : decode cc pc = .ok (.invokevirtual idx, 3)) (hc : cells ≤ R.cells ∧ slots ≤ R.slots) (hC : cx adE adK adV A0 s s.heap) (hS : va_S A0 s.heap H locs) (hk : k < 159) (kk : W p l e R s m args below meth c H locs cells slots Q (F0 m (pc + 3) ls (.int (nI (sTx k).length) :: rest))) : W p l e R s m args below meth c H locs cells slots Q (F0 m pc ls (.ref (adK k) :: rest)) :=
  vp_callSi (va_Run.run (va_runV (As := []) (rest := rest) S (c_JS_length l adE adK adV k) (cwV 0 S.2.2.2.2 (gV hTs hlk m_408 m_409 m_58 m_410) rfl rfl rfl (by decide +kernel) hR) ⟨fun a U g mk q => ⟨q.1, q.2.1.blind, q.2.2⟩, cx_recvK hC hS hk, fun U hU hW => ⟨rfl, hC.at hS no_in hU hW, hk⟩⟩ rfl rfl hsz rfl (lv_room hrm) hdg hc)) (fun r e => by subst e; exact kk)

set_option maxRecDepth 100000 in
set_option maxHeartbeats 4000000 in
theorem c_JP_checkIndexN (l : Launch) (adE adK adV : Nat → Nat) (i n : Nat) : Met l y_JP_checkIndex (Cond.code y_JP_checkIndex b_JP_checkIndex 3 (some .int) :: WT) ({ frames := 0, cells := 0, slots := 0, locals := 0 }) (va_Pc [.int (nI i), .int (nI n), .null] (fun U => i < n ∧ n < 2 ^ 31)) (vp_Si (fun r => r = nI i)) 0 0 no := by
  refine va_MetF (cc := b_JP_checkIndex) (maxL := 3) (ret := (some .int)) (by decide +kernel) rfl ?_
  intro p e s m args below meth c s₁ B hml hv
  obtain ⟨rfl, hi, hn⟩ := hv
  have hx := B.exec
  have hb := B.bytes
  have hr := B.returns
  have hts := atoms_spec (ws := (Cond.code y_JP_checkIndex b_JP_checkIndex 3 (some .int) :: WT)) B.pre
  have hT : ∀ w ∈ WT, w.before _ s = true := fun w h => hts w (inC w h)
  have hown : s.vm.findClass R_JP = some m.cls := findClass_of_methodNamed B.named
  have hlocks := B.notSynchronized
  have hS : va_S no s.heap s.heap [] := va_S.rf
  have S : CallFix p m c b_JP_checkIndex 3 s _ (Cond.code y_JP_checkIndex b_JP_checkIndex 3 (some .int) :: WT) R_JP := ⟨hx, hb, hml, hown, hts⟩
  have hl := lv_entry ([.int (nI i), .int (nI n), .null]) (n := 3) (Nat.le_of_ble_eq_true rfl)
  rw [lg_entry_eq]
  generalize (lg_sl ([.int (nI i), .int (nI n), .null]) ++ List.replicate (3 - (lg_sl ([.int (nI i), .int (nI n), .null])).length) Slot.unset).toArray = ls at hl ⊢
  have hl : lv_has ls 3 [(0, .int (nI i)), (1, .int (nI n)), (2, .null)] := hl
  refine lv_iload_n hx hb d_JP_checkIndex_0 rfl (lv_at hl 0 rfl) ?_
  refine lv_if_lt (tgt := 9) hx hb d_JP_checkIndex_1 (by decide) (fun h => absurd h (nI_pos (by omega))) (fun _ => ?_)
  refine lv_iload_n hx hb d_JP_checkIndex_4 rfl (lv_at hl 0 rfl) ?_
  refine lv_iload_n hx hb d_JP_checkIndex_5 rfl (lv_at hl 1 rfl) ?_
  refine lv_icmp_lt (tgt := 16) hx hb d_JP_checkIndex_6 (by decide) (fun _ => ?_) (fun h => absurd (nI_lt hi hn) h)
  refine lv_iload_n hx hb d_JP_checkIndex_16 rfl (lv_at hl 0 rfl) ?_
  exact W.iret (v := nI i) hx hb hr (fun t ht hW => ⟨_, rfl, rfl, ht⟩) (fun _ h => by cases h) d_JP_checkIndex_17

theorem call_JP_checkIndexN {p : Program} {l : Launch} {e : Env} {R : Room} {s : State} {m : MethodId} {args : Array Value} {below : List Frame} {meth : Method} {c : Code} {H : Heap} {locs : List Loc} {cells slots : Nat} {Q : State → Prop} {cc : ByteArray} {pc nL idx : Nat} {ls : Array Slot} {rest : List Value} {Ts : List Cond} {own : String} {i n : Nat} (S : CallFix p m c cc nL s args Ts own) (hTs : ∀ w ∈ WT, w ∈ Ts) (hlk : Cond.methodLink own idx y_JP_checkIndex ∈ WT) (hR : 0 + 1 ≤ R.frames ∧ 8 + (3 + 11) + 0 ≤ R.locals) (hsz : ls.size = nL) (hrm : (rest.map fun v => v.category).sum ≤ 8) (hdg : decode cc pc = .ok (.invokestatic idx, 3)) (hc : cells ≤ R.cells ∧ slots ≤ R.slots) (hi : i < n) (hn : n < 2 ^ 31) (kk : W p l e R s m args below meth c H locs cells slots Q (F0 m (pc + 3) ls (.int (nI i) :: rest))) : W p l e R s m args below meth c H locs cells slots Q (F0 m pc ls (.null :: .int (nI n) :: .int (nI i) :: rest)) :=
  vp_callSi (va_Run.run (va_runS (As := [.int (nI i), .int (nI n), .null]) (rest := rest) S (c_JP_checkIndexN l (fun _ => 0) (fun _ => 0) (fun _ => 0) i n) (va_cwS 3 S.2.2.2.2 (gS hTs hlk m_434 m_60 m_435) rfl rfl rfl (by decide +kernel) hR) ⟨fun a U g mk q => q, fun U hU hW => ⟨rfl, hi, hn⟩⟩ rfl rfl hsz rfl (lv_room hrm) hdg hc)) (fun r e => by subst e; exact kk)

set_option maxRecDepth 100000 in
set_option maxHeartbeats 4000000 in
theorem c_JP_checkIndexS (l : Launch) (adE adK adV : Nat → Nat) (i n q : Nat) : Met l y_JP_checkIndex (Cond.code y_JP_checkIndex b_JP_checkIndex 3 (some .int) :: WT) ({ frames := 0, cells := 0, slots := 0, locals := 0 }) (va_Pc [.int (nI i), .int (nI n), .ref q] (fun U => i < n ∧ n < 2 ^ 31)) (vp_Si (fun r => r = nI i)) 0 0 no := by
  refine va_MetF (cc := b_JP_checkIndex) (maxL := 3) (ret := (some .int)) (by decide +kernel) rfl ?_
  intro p e s m args below meth c s₁ B hml hv
  obtain ⟨rfl, hi, hn⟩ := hv
  have hx := B.exec
  have hb := B.bytes
  have hr := B.returns
  have hts := atoms_spec (ws := (Cond.code y_JP_checkIndex b_JP_checkIndex 3 (some .int) :: WT)) B.pre
  have hT : ∀ w ∈ WT, w.before _ s = true := fun w h => hts w (inC w h)
  have hown : s.vm.findClass R_JP = some m.cls := findClass_of_methodNamed B.named
  have hlocks := B.notSynchronized
  have hS : va_S no s.heap s.heap [] := va_S.rf
  have S : CallFix p m c b_JP_checkIndex 3 s _ (Cond.code y_JP_checkIndex b_JP_checkIndex 3 (some .int) :: WT) R_JP := ⟨hx, hb, hml, hown, hts⟩
  have hl := lv_entry ([.int (nI i), .int (nI n), .ref q]) (n := 3) (Nat.le_of_ble_eq_true rfl)
  rw [lg_entry_eq]
  generalize (lg_sl ([.int (nI i), .int (nI n), .ref q]) ++ List.replicate (3 - (lg_sl ([.int (nI i), .int (nI n), .ref q])).length) Slot.unset).toArray = ls at hl ⊢
  have hl : lv_has ls 3 [(0, .int (nI i)), (1, .int (nI n)), (2, .ref q)] := hl
  refine lv_iload_n hx hb d_JP_checkIndex_0 rfl (lv_at hl 0 rfl) ?_
  refine lv_if_lt (tgt := 9) hx hb d_JP_checkIndex_1 (by decide) (fun h => absurd h (nI_pos (by omega))) (fun _ => ?_)
  refine lv_iload_n hx hb d_JP_checkIndex_4 rfl (lv_at hl 0 rfl) ?_
  refine lv_iload_n hx hb d_JP_checkIndex_5 rfl (lv_at hl 1 rfl) ?_
  refine lv_icmp_lt (tgt := 16) hx hb d_JP_checkIndex_6 (by decide) (fun _ => ?_) (fun h => absurd (nI_lt hi hn) h)
  refine lv_iload_n hx hb d_JP_checkIndex_16 rfl (lv_at hl 0 rfl) ?_
  exact W.iret (v := nI i) hx hb hr (fun t ht hW => ⟨_, rfl, rfl, ht⟩) (fun _ h => by cases h) d_JP_checkIndex_17

theorem call_JP_checkIndexS {p : Program} {l : Launch} {e : Env} {R : Room} {s : State} {m : MethodId} {args : Array Value} {below : List Frame} {meth : Method} {c : Code} {H : Heap} {locs : List Loc} {cells slots : Nat} {Q : State → Prop} {cc : ByteArray} {pc nL idx : Nat} {ls : Array Slot} {rest : List Value} {Ts : List Cond} {own : String} {i n q : Nat} (S : CallFix p m c cc nL s args Ts own) (hTs : ∀ w ∈ WT, w ∈ Ts) (hlk : Cond.methodLink own idx y_JP_checkIndex ∈ WT) (hR : 0 + 1 ≤ R.frames ∧ 8 + (3 + 11) + 0 ≤ R.locals) (hsz : ls.size = nL) (hrm : (rest.map fun v => v.category).sum ≤ 8) (hdg : decode cc pc = .ok (.invokestatic idx, 3)) (hc : cells ≤ R.cells ∧ slots ≤ R.slots) (hi : i < n) (hn : n < 2 ^ 31) (kk : W p l e R s m args below meth c H locs cells slots Q (F0 m (pc + 3) ls (.int (nI i) :: rest))) : W p l e R s m args below meth c H locs cells slots Q (F0 m pc ls (.ref q :: .int (nI n) :: .int (nI i) :: rest)) :=
  vp_callSi (va_Run.run (va_runS (As := [.int (nI i), .int (nI n), .ref q]) (rest := rest) S (c_JP_checkIndexS l (fun _ => 0) (fun _ => 0) (fun _ => 0) i n q) (va_cwS 3 S.2.2.2.2 (gS hTs hlk m_434 m_60 m_435) rfl rfl rfl (by decide +kernel) hR) ⟨fun a U g mk q => q, fun U hU hW => ⟨rfl, hi, hn⟩⟩ rfl rfl hsz rfl (lv_room hrm) hdg hc)) (fun r e => by subst e; exact kk)

set_option maxRecDepth 100000 in
set_option maxHeartbeats 4000000 in
theorem c_JS_checkIndex (l : Launch) (adE adK adV : Nat → Nat) (i n : Nat) : Met l y_JS_checkIndex (Cond.code y_JS_checkIndex b_JS_checkIndex 2 none :: WT) ({ frames := 1, cells := 0, slots := 0, locals := 22 }) (va_Pc [.int (nI i), .int (nI n)] (fun U => cx adE adK adV no U U.heap ∧ i < n ∧ n < 2 ^ 31)) (va_Sv (fun _ => True)) 0 0 no := by
  refine va_MetF (cc := b_JS_checkIndex) (maxL := 2) (ret := none) (by decide +kernel) rfl ?_
  intro p e s m args below meth c s₁ B hml hv
  obtain ⟨rfl, hC, hi, hn⟩ := hv
  have hx := B.exec
  have hb := B.bytes
  have hr := B.returns
  have hts := atoms_spec (ws := (Cond.code y_JS_checkIndex b_JS_checkIndex 2 none :: WT)) B.pre
  have hT : ∀ w ∈ WT, w.before _ s = true := fun w h => hts w (inC w h)
  have hown : s.vm.findClass R_JS = some m.cls := findClass_of_methodNamed B.named
  have hlocks := B.notSynchronized
  have hS : va_S no s.heap s.heap [] := va_S.rf
  have S : CallFix p m c b_JS_checkIndex 2 s _ (Cond.code y_JS_checkIndex b_JS_checkIndex 2 none :: WT) R_JS := ⟨hx, hb, hml, hown, hts⟩
  have hl := lv_entry ([.int (nI i), .int (nI n)]) (n := 2) (Nat.le_of_ble_eq_true rfl)
  rw [lg_entry_eq]
  generalize (lg_sl ([.int (nI i), .int (nI n)]) ++ List.replicate (2 - (lg_sl ([.int (nI i), .int (nI n)])).length) Slot.unset).toArray = ls at hl ⊢
  have hl : lv_has ls 2 [(0, .int (nI i)), (1, .int (nI n))] := hl
  rcases hC.2.2.2.2.2 with hq | ⟨q, hq⟩
  · refine lv_iload_n hx hb d_JS_checkIndex_0 rfl (lv_at hl 0 rfl) ?_
    refine lv_iload_n hx hb d_JS_checkIndex_1 rfl (lv_at hl 1 rfl) ?_
    refine va_gets (v := .null) hx hb hq hS hown (hT _ m_431) (fun _ h => h) d_JS_checkIndex_2 ?_
    refine call_JP_checkIndexN S inC m_433 ⟨(Nat.le_of_ble_eq_true rfl), (Nat.le_of_ble_eq_true rfl)⟩ hl.1 (Nat.le_of_ble_eq_true rfl) d_JS_checkIndex_5 ⟨(Nat.le_of_ble_eq_true rfl), (Nat.le_of_ble_eq_true rfl)⟩ hi hn ?_
    refine lv_pop hx hb d_JS_checkIndex_8 rfl ?_
    exact W.vret hx hb hr (fun t ht hW => ⟨rfl, trivial, ht⟩) (fun _ h => by cases h) d_JS_checkIndex_9
  · refine lv_iload_n hx hb d_JS_checkIndex_0 rfl (lv_at hl 0 rfl) ?_
    refine lv_iload_n hx hb d_JS_checkIndex_1 rfl (lv_at hl 1 rfl) ?_
    refine va_gets (v := .ref q) hx hb hq hS hown (hT _ m_431) (fun _ h => h) d_JS_checkIndex_2 ?_
    refine call_JP_checkIndexS S inC m_433 ⟨(Nat.le_of_ble_eq_true rfl), (Nat.le_of_ble_eq_true rfl)⟩ hl.1 (Nat.le_of_ble_eq_true rfl) d_JS_checkIndex_5 ⟨(Nat.le_of_ble_eq_true rfl), (Nat.le_of_ble_eq_true rfl)⟩ hi hn ?_
    refine lv_pop hx hb d_JS_checkIndex_8 rfl ?_
    exact W.vret hx hb hr (fun t ht hW => ⟨rfl, trivial, ht⟩) (fun _ h => by cases h) d_JS_checkIndex_9

theorem call_JS_checkIndex {p : Program} {l : Launch} {e : Env} {R : Room} {s : State} {m : MethodId} {args : Array Value} {below : List Frame} {meth : Method} {c : Code} {H : Heap} {locs : List Loc} {cells slots : Nat} {Q : State → Prop} {cc : ByteArray} {pc nL idx : Nat} {ls : Array Slot} {rest : List Value} {Ts : List Cond} {own : String} {adE adK adV : Nat → Nat} {A0 : Nat → Prop} {i n : Nat} (S : CallFix p m c cc nL s args Ts own) (hTs : ∀ w ∈ WT, w ∈ Ts) (hlk : Cond.methodLink own idx y_JS_checkIndex ∈ WT) (hR : 1 + 1 ≤ R.frames ∧ 8 + (2 + 11) + 22 ≤ R.locals) (hsz : ls.size = nL) (hrm : (rest.map fun v => v.category).sum ≤ 8) (hdg : decode cc pc = .ok (.invokestatic idx, 3)) (hc : cells ≤ R.cells ∧ slots ≤ R.slots) (hC : cx adE adK adV A0 s s.heap) (hS : va_S A0 s.heap H locs) (hi : i < n) (hn : n < 2 ^ 31) (kk : W p l e R s m args below meth c H locs cells slots Q (F0 m (pc + 3) ls (rest))) : W p l e R s m args below meth c H locs cells slots Q (F0 m pc ls (.int (nI n) :: .int (nI i) :: rest)) :=
  va_csv (va_Run.run (va_runS (As := [.int (nI i), .int (nI n)]) (rest := rest) S (c_JS_checkIndex l adE adK adV i n) (va_cwS 2 S.2.2.2.2 (gS hTs hlk m_429 m_58 m_430) rfl rfl rfl (by decide +kernel) hR) ⟨fun a U g mk q => ⟨q.1, q.2.1.blind, q.2.2⟩, fun U hU hW => ⟨rfl, hC.at hS no_in hU hW, hi, hn⟩⟩ rfl rfl hsz rfl (lv_room hrm) hdg hc)) (fun _ => kk)

set_option maxRecDepth 100000 in
set_option maxHeartbeats 4000000 in
theorem c_JL_charAt (l : Launch) (adE adK adV : Nat → Nat) (k j : Nat) : Met l y_JL_charAt (Cond.code y_JL_charAt b_JL_charAt 2 (some .char) :: WT) ({ frames := 2, cells := 0, slots := 0, locals := 43 }) (va_Pc [.ref (adV k), .int (nI j)] (fun U => cx adE adK adV no U U.heap ∧ k < 159 ∧ j < (sTx k).length)) (vp_Si (fun r => r = (sTx k).getD j 0)) 0 0 no := by
  refine va_MetF (cc := b_JL_charAt) (maxL := 2) (ret := (some .char)) (by decide +kernel) rfl ?_
  intro p e s m args below meth c s₁ B hml hv
  obtain ⟨rfl, hC, hk, hj⟩ := hv
  have hx := B.exec
  have hb := B.bytes
  have hr := B.returns
  have hts := atoms_spec (ws := (Cond.code y_JL_charAt b_JL_charAt 2 (some .char) :: WT)) B.pre
  have hT : ∀ w ∈ WT, w.before _ s = true := fun w h => hts w (inC w h)
  have hown : s.vm.findClass R_JL = some m.cls := findClass_of_methodNamed B.named
  have hlocks := B.notSynchronized
  have hS : va_S no s.heap s.heap [] := va_S.rf
  have S : CallFix p m c b_JL_charAt 2 s _ (Cond.code y_JL_charAt b_JL_charAt 2 (some .char) :: WT) R_JL := ⟨hx, hb, hml, hown, hts⟩
  have hl := lv_entry ([.ref (adV k), .int (nI j)]) (n := 2) (Nat.le_of_ble_eq_true rfl)
  rw [lg_entry_eq]
  generalize (lg_sl ([.ref (adV k), .int (nI j)]) ++ List.replicate (2 - (lg_sl ([.ref (adV k), .int (nI j)])).length) Slot.unset).toArray = ls at hl ⊢
  have hl : lv_has ls 2 [(0, .ref (adV k)), (1, .int (nI j))] := hl
  have hlt := sTx_lt k hk
  refine lv_iload_n hx hb d_JL_charAt_0 rfl (lv_at hl 1 rfl) ?_
  refine lv_aload_n hx hb d_JL_charAt_1 rfl (lv_at hl 0 rfl) ?_
  refine va_tlen (v := nI (sTx k).length) hx hb (hC.2.1 k hk).2.2.2 hS rfl d_JL_charAt_2 ?_
  refine call_JS_checkIndex S inC m_428 ⟨(Nat.le_of_ble_eq_true rfl), (Nat.le_of_ble_eq_true rfl)⟩ hl.1 (Nat.le_of_ble_eq_true rfl) d_JL_charAt_3 ⟨(Nat.le_of_ble_eq_true rfl), (Nat.le_of_ble_eq_true rfl)⟩ hC hS hj (by omega) ?_
  refine lv_aload_n hx hb d_JL_charAt_6 rfl (lv_at hl 0 rfl) ?_
  refine lv_iload_n hx hb d_JL_charAt_7 rfl (lv_at hl 1 rfl) ?_
  refine va_tb (v := .int ((sTx k).getD j 0)) hx hb (hC.2.1 k hk).2.2.2 hS (vp_in_nI hj (by omega)) (by rw [nI_clamp (by omega)]) d_JL_charAt_8 ?_
  refine lv_sipush (v := 255) hx hb d_JL_charAt_9 (by decide) ?_
  refine lv_iand hx hb d_JL_charAt_12 ?_
  refine lv_i2c (v := (sTx k).getD j 0) hx hb d_JL_charAt_13 (sTx_ch k hk j hj) ?_
  exact W.zret (v := (sTx k).getD j 0) hx hb hr (sTx_na k hk j hj) (fun t ht hW => ⟨_, rfl, rfl, ht⟩) (fun _ h => by cases h) d_JL_charAt_14

theorem call_JL_charAt {p : Program} {l : Launch} {e : Env} {R : Room} {s : State} {m : MethodId} {args : Array Value} {below : List Frame} {meth : Method} {c : Code} {H : Heap} {locs : List Loc} {cells slots : Nat} {Q : State → Prop} {cc : ByteArray} {pc nL idx : Nat} {ls : Array Slot} {rest : List Value} {Ts : List Cond} {own : String} {adE adK adV : Nat → Nat} {A0 : Nat → Prop} {k j : Nat} (S : CallFix p m c cc nL s args Ts own) (hTs : ∀ w ∈ WT, w ∈ Ts) (hlk : Cond.methodLink own idx y_JL_charAt ∈ WT) (hR : 2 + 1 ≤ R.frames ∧ 8 + (2 + 11) + 43 ≤ R.locals) (hsz : ls.size = nL) (hrm : (rest.map fun v => v.category).sum ≤ 8) (hdg : decode cc pc = .ok (.invokestatic idx, 3)) (hc : cells ≤ R.cells ∧ slots ≤ R.slots) (hC : cx adE adK adV A0 s s.heap) (hS : va_S A0 s.heap H locs) (hk : k < 159) (hj : j < (sTx k).length) (kk : W p l e R s m args below meth c H locs cells slots Q (F0 m (pc + 3) ls (.int ((sTx k).getD j 0) :: rest))) : W p l e R s m args below meth c H locs cells slots Q (F0 m pc ls (.int (nI j) :: .ref (adV k) :: rest)) :=
  vp_callSi (va_Run.run (va_runS (As := [.ref (adV k), .int (nI j)]) (rest := rest) S (c_JL_charAt l adE adK adV k j) (va_cwS 2 S.2.2.2.2 (gS hTs hlk m_426 m_59 m_427) rfl rfl rfl (by decide +kernel) hR) ⟨fun a U g mk q => ⟨q.1, q.2.1.blind, q.2.2⟩, fun U hU hW => ⟨rfl, hC.at hS no_in hU hW, hk, hj⟩⟩ rfl rfl hsz rfl (lv_room hrm) hdg hc)) (fun r e => by subst e; exact kk)

set_option maxRecDepth 100000 in
set_option maxHeartbeats 4000000 in
theorem c_JS_charAt (l : Launch) (adE adK adV : Nat → Nat) (k j : Nat) : Met l y_JS_charAt (Cond.code y_JS_charAt b_JS_charAt 2 (some .char) :: WT) ({ frames := 3, cells := 0, slots := 0, locals := 64 }) (va_Pc [.ref (adK k), .int (nI j)] (fun U => cx adE adK adV no U U.heap ∧ k < 159 ∧ j < (sTx k).length)) (vp_Si (fun r => r = (sTx k).getD j 0)) 0 0 no := by
  refine va_MetF (cc := b_JS_charAt) (maxL := 2) (ret := (some .char)) (by decide +kernel) rfl ?_
  intro p e s m args below meth c s₁ B hml hv
  obtain ⟨rfl, hC, hk, hj⟩ := hv
  have hx := B.exec
  have hb := B.bytes
  have hr := B.returns
  have hts := atoms_spec (ws := (Cond.code y_JS_charAt b_JS_charAt 2 (some .char) :: WT)) B.pre
  have hT : ∀ w ∈ WT, w.before _ s = true := fun w h => hts w (inC w h)
  have hown : s.vm.findClass R_JS = some m.cls := findClass_of_methodNamed B.named
  have hlocks := B.notSynchronized
  have hS : va_S no s.heap s.heap [] := va_S.rf
  have S : CallFix p m c b_JS_charAt 2 s _ (Cond.code y_JS_charAt b_JS_charAt 2 (some .char) :: WT) R_JS := ⟨hx, hb, hml, hown, hts⟩
  have hl := lv_entry ([.ref (adK k), .int (nI j)]) (n := 2) (Nat.le_of_ble_eq_true rfl)
  rw [lg_entry_eq]
  generalize (lg_sl ([.ref (adK k), .int (nI j)]) ++ List.replicate (2 - (lg_sl ([.ref (adK k), .int (nI j)])).length) Slot.unset).toArray = ls at hl ⊢
  have hl : lv_has ls 2 [(0, .ref (adK k)), (1, .int (nI j))] := hl
  refine lv_aload_n hx hb d_JS_charAt_0 rfl (lv_at hl 0 rfl) ?_
  refine call_JS_isLatin1 S inC m_421 ⟨(Nat.le_of_ble_eq_true rfl), (Nat.le_of_ble_eq_true rfl)⟩ hl.1 (Nat.le_of_ble_eq_true rfl) d_JS_charAt_1 ⟨(Nat.le_of_ble_eq_true rfl), (Nat.le_of_ble_eq_true rfl)⟩ hC hS hk ?_
  refine lv_if_eq (tgt := 16) hx hb d_JS_charAt_4 (by decide) (fun h => absurd h (by decide)) (fun _ => ?_)
  refine lv_aload_n hx hb d_JS_charAt_7 rfl (lv_at hl 0 rfl) ?_
  refine vk_getf hx hb (hC.2.1 k hk).2.2.1 hS hown (hT _ m_1071) (fun _ h => h) d_JS_charAt_8 ?_
  refine lv_iload_n hx hb d_JS_charAt_11 rfl (lv_at hl 1 rfl) ?_
  refine call_JL_charAt S inC m_425 ⟨(Nat.le_of_ble_eq_true rfl), (Nat.le_of_ble_eq_true rfl)⟩ hl.1 (Nat.le_of_ble_eq_true rfl) d_JS_charAt_12 ⟨(Nat.le_of_ble_eq_true rfl), (Nat.le_of_ble_eq_true rfl)⟩ hC hS hk hj ?_
  exact W.zret (v := (sTx k).getD j 0) hx hb hr (sTx_na k hk j hj) (fun t ht hW => ⟨_, rfl, rfl, ht⟩) (fun _ h => by cases h) d_JS_charAt_15

theorem call_JS_charAt {p : Program} {l : Launch} {e : Env} {R : Room} {s : State} {m : MethodId} {args : Array Value} {below : List Frame} {meth : Method} {c : Code} {H : Heap} {locs : List Loc} {cells slots : Nat} {Q : State → Prop} {cc : ByteArray} {pc nL idx : Nat} {ls : Array Slot} {rest : List Value} {Ts : List Cond} {own : String} {adE adK adV : Nat → Nat} {A0 : Nat → Prop} {k j : Nat} (S : CallFix p m c cc nL s args Ts own) (hTs : ∀ w ∈ WT, w ∈ Ts) (hlk : Cond.methodLink own idx y_JS_charAt ∈ WT) (hR : 3 + 1 ≤ R.frames ∧ 8 + (2 + 11) + 64 ≤ R.locals) (hsz : ls.size = nL) (hrm : (rest.map fun v => v.category).sum ≤ 8) (hdg : decode cc pc = .ok (.invokevirtual idx, 3)) (hc : cells ≤ R.cells ∧ slots ≤ R.slots) (hC : cx adE adK adV A0 s s.heap) (hS : va_S A0 s.heap H locs) (hk : k < 159) (hj : j < (sTx k).length) (kk : W p l e R s m args below meth c H locs cells slots Q (F0 m (pc + 3) ls (.int ((sTx k).getD j 0) :: rest))) : W p l e R s m args below meth c H locs cells slots Q (F0 m pc ls (.int (nI j) :: .ref (adK k) :: rest)) :=
  vp_callSi (va_Run.run (va_runV (As := [.int (nI j)]) (rest := rest) S (c_JS_charAt l adE adK adV k j) (cwV 1 S.2.2.2.2 (gV hTs hlk m_418 m_419 m_58 m_420) rfl rfl rfl (by decide +kernel) hR) ⟨fun a U g mk q => ⟨q.1, q.2.1.blind, q.2.2⟩, cx_recvK hC hS hk, fun U hU hW => ⟨rfl, hC.at hS no_in hU hW, hk, hj⟩⟩ rfl rfl hsz rfl (lv_room hrm) hdg hc)) (fun r e => by subst e; exact kk)
