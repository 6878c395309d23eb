def f_K_isInstruction (i : Nat) : Int32 := if i = 0 then 0 else if i = 1 then 0 else 1
set_option maxRecDepth 100000 in
set_option maxHeartbeats 4000000 in
theorem c_K_isInstruction (l : Launch) (adE adK adV : Nat → Nat) (i : Nat) : Met l y_K_isInstruction (Cond.code y_K_isInstruction b_K_isInstruction 1 (some .boolean) :: WT) ({ frames := 0, cells := 0, slots := 0, locals := 0 }) (va_Pc [.ref (adE i)] (fun U => cx adE adK adV no U U.heap ∧ i < 95)) (vp_Si (fun r => r = f_K_isInstruction i)) 0 0 no := by
  refine va_MetF (cc := b_K_isInstruction) (maxL := 1) (ret := (some .boolean)) (by decide +kernel) rfl ?_
  intro p e s m args below meth c s₁ B hml hv
  obtain ⟨rfl, hC, hi⟩ := hv
  have hx := B.exec
  have hb := B.bytes
  have hr := B.returns
  have hts := atoms_spec (ws := (Cond.code y_K_isInstruction b_K_isInstruction 1 (some .boolean) :: WT)) B.pre
  have hT : ∀ w ∈ WT, w.before _ s = true := fun w h => hts w (inC w h)
  have hown : s.vm.findClass R_K = some m.cls := findClass_of_methodNamed B.named
  have hlocks := B.notSynchronized
  have hS : va_S no s.heap s.heap [] := va_S.rf
  have S : CallFix p m c b_K_isInstruction 1 s _ (Cond.code y_K_isInstruction b_K_isInstruction 1 (some .boolean) :: WT) R_K := ⟨hx, hb, hml, hown, hts⟩
  have hl := lv_entry ([.ref (adE i)]) (n := 1) (Nat.le_of_ble_eq_true rfl)
  rw [lg_entry_eq]
  generalize (lg_sl ([.ref (adE i)]) ++ List.replicate (1 - (lg_sl ([.ref (adE i)])).length) Slot.unset).toArray = ls at hl ⊢
  have hl : lv_has ls 1 [(0, .ref (adE i))] := hl
  refine lv_aload_n hx hb d_K_isInstruction_0 rfl (lv_at hl 0 rfl) ?_
  refine va_gets (v := .ref (adE 0)) hx hb (z_WORD hC) hS hown (hT _ m_565) (fun _ h => h) d_K_isInstruction_1 ?_
  refine lv_acmp_eq (rx := some (adE i)) (ry := some (adE 0)) (tgt := 18) hx hb d_K_isInstruction_4 (by decide) (fun h => ?_) (fun h0 => ?_)
  · refine lv_iconst (v := 0) hx hb d_K_isInstruction_18 (by decide) ?_
    exact W.zret (v := 0) hx hb hr rfl (fun t ht hW => ⟨0, rfl, by rw [f_K_isInstruction, if_pos (hC.2.2.2.1 i 0 hi (by decide) (Option.some.inj h))], ht⟩) (fun _ h => by cases h) d_K_isInstruction_19
  · have n0 : ¬ i = 0 := fun q => h0 (by rw [q])
    refine lv_aload_n hx hb d_K_isInstruction_7 rfl (lv_at hl 0 rfl) ?_
    refine va_gets (v := .ref (adE 1)) hx hb (z_HALF hC) hS hown (hT _ m_566) (fun _ h => h) d_K_isInstruction_8 ?_
    refine lv_acmp_eq (rx := some (adE i)) (ry := some (adE 1)) (tgt := 18) hx hb d_K_isInstruction_11 (by decide) (fun h => ?_) (fun h1 => ?_)
    · refine lv_iconst (v := 0) hx hb d_K_isInstruction_18 (by decide) ?_
      exact W.zret (v := 0) hx hb hr rfl (fun t ht hW => ⟨0, rfl, by rw [f_K_isInstruction, if_neg n0, if_pos (hC.2.2.2.1 i 1 hi (by decide) (Option.some.inj h))], ht⟩) (fun _ h => by cases h) d_K_isInstruction_19
    · have n1 : ¬ i = 1 := fun q => h1 (by rw [q])
      refine lv_iconst (v := 1) hx hb d_K_isInstruction_14 (by decide) ?_
      refine lv_goto (tgt := 19) hx hb d_K_isInstruction_15 (by decide) ?_
      exact W.zret (v := 1) hx hb hr rfl (fun t ht hW => ⟨1, rfl, by rw [f_K_isInstruction, if_neg n0, if_neg n1], ht⟩) (fun _ h => by cases h) d_K_isInstruction_19

theorem call_K_isInstruction {p : Program} {l : Launch} {e : Env} {R : Room} {s : State} {m : MethodId} {args : Array Value} {below : List Frame} {meth : Method} {c : Code} {H : Heap} {locs : List Loc} {cells slots : Nat} {Q : State → Prop} {cc : ByteArray} {pc nL idx : Nat} {ls : Array Slot} {rest : List Value} {Ts : List Cond} {own : String} {adE adK adV : Nat → Nat} {A0 : Nat → Prop} {i : Nat} (S : CallFix p m c cc nL s args Ts own) (hTs : ∀ w ∈ WT, w ∈ Ts) (hlk : Cond.methodLink own idx y_K_isInstruction ∈ WT) (hR : 0 + 1 ≤ R.frames ∧ 8 + (1 + 11) + 0 ≤ R.locals) (hsz : ls.size = nL) (hrm : (rest.map fun v => v.category).sum ≤ 8) (hdg : decode cc pc = .ok (.invokevirtual idx, 3)) (hc : cells ≤ R.cells ∧ slots ≤ R.slots) (hC : cx adE adK adV A0 s s.heap) (hS : va_S A0 s.heap H locs) (hi : i < 95) (kk : W p l e R s m args below meth c H locs cells slots Q (F0 m (pc + 3) ls (.int (f_K_isInstruction i) :: rest))) : W p l e R s m args below meth c H locs cells slots Q (F0 m pc ls (.ref (adE i) :: rest)) :=
  vp_callSi (va_Run.run (va_runV (As := []) (rest := rest) S (c_K_isInstruction l adE adK adV i) (cwV 0 S.2.2.2.2 (gV hTs hlk m_562 m_563 m_55 m_564) rfl rfl rfl (by decide +kernel) hR) ⟨fun a U g mk q => ⟨q.1, q.2.1.blind, q.2.2⟩, cx_recvE hC hS hi, fun U hU hW => ⟨rfl, hC.at hS no_in hU hW, hi⟩⟩ rfl rfl hsz rfl (lv_room hrm) hdg hc)) (fun r e => by subst e; exact kk)

def cm (l : List Int32) : Nat := l.countP (fun c => decide (c = 44))
def f_K_operandCount (i : Nat) : Int32 := if f_JS_isEmpty (kO.getD i 0) = 0 then nI (1 + cm (sTx (kO.getD i 0))) else 0
theorem cm_le (l : List Int32) : cm l ≤ l.length := List.countP_le_length
theorem cm_succ {l : List Int32} {i : Nat} (h : i < l.length) : cm (l.take (i + 1)) = cm (l.take i) + if l.getD i 0 = 44 then 1 else 0 := by
  rw [tk_succ h, cm, List.countP_append, cm, List.countP_cons, List.countP_nil]
  by_cases q : l.getD i 0 = 44
  · simp [q]
  · simp [q]

set_option maxRecDepth 100000 in
set_option maxHeartbeats 4000000 in
theorem lp_K_operandCount {p : Program} {l : Launch} {e : Env} {R : Room} {s : State} {m : MethodId} {args : Array Value} {below : List Frame} {meth : Method} {c : Code} {cells slots : Nat} {Q : State → Prop} {Ts : List Cond} {adE adK adV : Nat → Nat} {A0 : Nat → Prop} {H : Heap} {locs : List Loc} {i : Nat} (S : CallFix p m c b_K_operandCount 3 s args Ts R_K) (hTs : ∀ w ∈ WT, w ∈ Ts) (hT : ∀ w ∈ WT, w.before args s = true) (hfr : 4 ≤ R.frames) (hlo : 85 ≤ R.locals) (hc : cells ≤ R.cells ∧ slots ≤ R.slots) (hC : cx adE adK adV A0 s s.heap) (hS : va_S A0 s.heap H locs) (hi : i < 95)
    (kk : ∀ (ls : Array Slot), lv_has ls 3 [(1, .int (nI (1 + cm (sTx (kO.getD i 0)))))] → W p l e R s m args below meth c H locs cells slots Q (F0 m 49 ls [])) :
    ∀ (n j : Nat), j + n = (sTx (kO.getD i 0)).length → ∀ (ls : Array Slot), lv_has ls 3 [(2, .int (nI j)), (1, .int (nI (1 + cm ((sTx (kO.getD i 0)).take j)))), (0, .ref (adE i))] → W p l e R s m args below meth c H locs cells slots Q (F0 m 16 ls []) := by
  have hk := (kWO_lt i hi).2
  have hlt := sTx_lt _ hk
  have hx := S.1
  have hb := S.2.1
  have hown := S.2.2.2.1
  intro n
  induction n with
  | zero =>
    intro j hj ls hl
    refine lv_iload_n hx hb d_K_operandCount_16 rfl (lv_at hl 0 rfl) ?_
    refine lv_aload_n hx hb d_K_operandCount_17 rfl (lv_at hl 2 rfl) ?_
    refine vk_getf hx hb (hC.1 i hi).2.2.2.2 hS hown (hT _ m_1075) (fun _ h => h) d_K_operandCount_18 ?_
    refine call_JS_length S hTs m_572 ⟨by omega, by omega⟩ hl.1 (Nat.le_of_ble_eq_true rfl) d_K_operandCount_21 hc hC hS hk ?_
    refine lv_icmp_ge (tgt := 49) hx hb d_K_operandCount_24 (by decide) (fun _ => ?_) (fun h => absurd (nI_le (by omega) (by omega)) h)
    rw [List.take_of_length_le (by omega)] at hl
    exact kk ls (lv_sub hl [1] rfl)
  | succ n ih =>
    intro j hj ls hl
    have hin : j < (sTx (kO.getD i 0)).length := by omega
    have hcl := cm_le ((sTx (kO.getD i 0)).take j)
    refine lv_iload_n hx hb d_K_operandCount_16 rfl (lv_at hl 0 rfl) ?_
    refine lv_aload_n hx hb d_K_operandCount_17 rfl (lv_at hl 2 rfl) ?_
    refine vk_getf hx hb (hC.1 i hi).2.2.2.2 hS hown (hT _ m_1075) (fun _ h => h) d_K_operandCount_18 ?_
    refine call_JS_length S hTs m_572 ⟨by omega, by omega⟩ hl.1 (Nat.le_of_ble_eq_true rfl) d_K_operandCount_21 hc hC hS hk ?_
    refine lv_icmp_ge (tgt := 49) hx hb d_K_operandCount_24 (by decide) (fun h => absurd h (nI_ge (by omega) (by omega))) (fun _ => ?_)
    refine lv_aload_n hx hb d_K_operandCount_27 rfl (lv_at hl 2 rfl) ?_
    refine vk_getf hx hb (hC.1 i hi).2.2.2.2 hS hown (hT _ m_1075) (fun _ h => h) d_K_operandCount_28 ?_
    refine lv_iload_n hx hb d_K_operandCount_31 rfl (lv_at hl 0 rfl) ?_
    refine call_JS_charAt S hTs m_573 ⟨by omega, by omega⟩ hl.1 (Nat.le_of_ble_eq_true rfl) d_K_operandCount_32 hc hC hS hk hin ?_
    refine lv_bipush (v := 44) hx hb d_K_operandCount_35 (by decide) ?_
    refine lv_icmp_ne (tgt := 43) hx hb d_K_operandCount_37 (by decide) (fun h => ?_) (fun h => ?_)
    · refine lv_iinc (v := nI (j + 1)) (lv' := [(2, .int (nI (j + 1))), (1, .int (nI (1 + cm ((sTx (kO.getD i 0)).take j)))), (0, .ref (adE i))]) hx hb d_K_operandCount_43 hl (k := 0) rfl (nI_inc j) (by decide) rfl (fun ls hl => ?_)
      refine lv_goto (tgt := 16) hx hb d_K_operandCount_46 (by decide) ?_
      have e : cm ((sTx (kO.getD i 0)).take (j + 1)) = cm ((sTx (kO.getD i 0)).take j) := by rw [cm_succ hin, if_neg h]; rfl
      rw [← e] at hl
      exact ih (j + 1) (by omega) ls hl
    · have e : cm ((sTx (kO.getD i 0)).take (j + 1)) = cm ((sTx (kO.getD i 0)).take j) + 1 := by rw [cm_succ hin, if_pos h]
      refine lv_iinc (v := nI (1 + cm ((sTx (kO.getD i 0)).take (j + 1)))) (lv' := [(1, .int (nI (1 + cm ((sTx (kO.getD i 0)).take (j + 1))))), (2, .int (nI j)), (0, .ref (adE i))]) hx hb d_K_operandCount_40 hl (k := 1) rfl (by rw [e]; exact nI_inc _) (by decide) rfl (fun ls hl => ?_)
      refine lv_iinc (v := nI (j + 1)) (lv' := [(2, .int (nI (j + 1))), (1, .int (nI (1 + cm ((sTx (kO.getD i 0)).take (j + 1))))), (0, .ref (adE i))]) hx hb d_K_operandCount_43 hl (k := 1) rfl (nI_inc j) (by decide) rfl (fun ls hl => ?_)
      refine lv_goto (tgt := 16) hx hb d_K_operandCount_46 (by decide) ?_
      exact ih (j + 1) (by omega) ls hl

set_option maxRecDepth 100000 in
set_option maxHeartbeats 4000000 in
theorem c_K_operandCount (l : Launch) (adE adK adV : Nat → Nat) (i : Nat) : Met l y_K_operandCount (Cond.code y_K_operandCount b_K_operandCount 3 (some .int) :: WT) ({ frames := 4, cells := 0, slots := 0, locals := 85 }) (va_Pc [.ref (adE i)] (fun U => cx adE adK adV no U U.heap ∧ i < 95)) (vp_Si (fun r => r = f_K_operandCount i)) 0 0 no := by
  refine va_MetF (cc := b_K_operandCount) (maxL := 3) (ret := (some .int)) (by decide +kernel) rfl ?_
  intro p e s m args below meth c s₁ B hml hv
  obtain ⟨rfl, hC, hi⟩ := hv
  have hx := B.exec
  have hb := B.bytes
  have hr := B.returns
  have hts := atoms_spec (ws := (Cond.code y_K_operandCount b_K_operandCount 3 (some .int) :: WT)) B.pre
  have hT : ∀ w ∈ WT, w.before _ s = true := fun w h => hts w (inC w h)
  have hown : s.vm.findClass R_K = some m.cls := findClass_of_methodNamed B.named
  have hlocks := B.notSynchronized
  have hS : va_S no s.heap s.heap [] := va_S.rf
  have S : CallFix p m c b_K_operandCount 3 s _ (Cond.code y_K_operandCount b_K_operandCount 3 (some .int) :: WT) R_K := ⟨hx, hb, hml, hown, hts⟩
  have hl := lv_entry ([.ref (adE i)]) (n := 3) (Nat.le_of_ble_eq_true rfl)
  rw [lg_entry_eq]
  generalize (lg_sl ([.ref (adE i)]) ++ List.replicate (3 - (lg_sl ([.ref (adE i)])).length) Slot.unset).toArray = ls at hl ⊢
  have hl : lv_has ls 3 [(0, .ref (adE i))] := hl
  have hk := (kWO_lt i hi).2
  refine lv_aload_n hx hb d_K_operandCount_0 rfl (lv_at hl 0 rfl) ?_
  refine vk_getf hx hb (hC.1 i hi).2.2.2.2 hS hown (hT _ m_1075) (fun _ h => h) d_K_operandCount_1 ?_
  refine call_JS_isEmpty S inC m_571 ⟨(Nat.le_of_ble_eq_true rfl), (Nat.le_of_ble_eq_true rfl)⟩ hl.1 (Nat.le_of_ble_eq_true rfl) d_K_operandCount_4 ⟨(Nat.le_of_ble_eq_true rfl), (Nat.le_of_ble_eq_true rfl)⟩ hC hS hk ?_
  refine lv_if_eq (tgt := 12) hx hb d_K_operandCount_7 (by decide) (fun h => ?_) (fun h => ?_)
  · refine lv_iconst (v := 1) hx hb d_K_operandCount_12 (by decide) ?_
    refine lv_istore_n (lv' := [(1, .int 1), (0, .ref (adE i))]) hx hb d_K_operandCount_13 rfl hl (by decide) rfl (fun ls hl => ?_)
    refine lv_iconst (v := 0) hx hb d_K_operandCount_14 (by decide) ?_
    refine lv_istore_n (lv' := [(2, .int 0), (1, .int 1), (0, .ref (adE i))]) hx hb d_K_operandCount_15 rfl hl (by decide) rfl (fun ls hl => ?_)
    refine lp_K_operandCount S inC hT (Nat.le_of_ble_eq_true rfl) (Nat.le_of_ble_eq_true rfl) ⟨(Nat.le_of_ble_eq_true rfl), (Nat.le_of_ble_eq_true rfl)⟩ hC hS hi (fun ls hl => ?_) (sTx (kO.getD i 0)).length 0 (by omega) ls hl
    refine lv_iload_n hx hb d_K_operandCount_49 rfl (lv_at hl 0 rfl) ?_
    exact W.iret (v := nI (1 + cm (sTx (kO.getD i 0)))) hx hb hr (fun t ht hW => ⟨_, rfl, by rw [f_K_operandCount, if_pos h], ht⟩) (fun _ h => by cases h) d_K_operandCount_50
  · refine lv_iconst (v := 0) hx hb d_K_operandCount_10 (by decide) ?_
    exact W.iret (v := 0) hx hb hr (fun t ht hW => ⟨0, rfl, by rw [f_K_operandCount, if_neg h], ht⟩) (fun _ h => by cases h) d_K_operandCount_11

theorem call_K_operandCount {p : Program} {l : Launch} {e : Env} {R : Room} {s : State} {m : MethodId} {args : Array Value} {below : List Frame} {meth : Method} {c : Code} {H : Heap} {locs : List Loc} {cells slots : Nat} {Q : State → Prop} {cc : ByteArray} {pc nL idx : Nat} {ls : Array Slot} {rest : List Value} {Ts : List Cond} {own : String} {adE adK adV : Nat → Nat} {A0 : Nat → Prop} {i : Nat} (S : CallFix p m c cc nL s args Ts own) (hTs : ∀ w ∈ WT, w ∈ Ts) (hlk : Cond.methodLink own idx y_K_operandCount ∈ WT) (hR : 4 + 1 ≤ R.frames ∧ 8 + (3 + 11) + 85 ≤ R.locals) (hsz : ls.size = nL) (hrm : (rest.map fun v => v.category).sum ≤ 8) (hdg : decode cc pc = .ok (.invokevirtual idx, 3)) (hc : cells ≤ R.cells ∧ slots ≤ R.slots) (hC : cx adE adK adV A0 s s.heap) (hS : va_S A0 s.heap H locs) (hi : i < 95) (kk : W p l e R s m args below meth c H locs cells slots Q (F0 m (pc + 3) ls (.int (f_K_operandCount i) :: rest))) : W p l e R s m args below meth c H locs cells slots Q (F0 m pc ls (.ref (adE i) :: rest)) :=
  vp_callSi (va_Run.run (va_runV (As := []) (rest := rest) S (c_K_operandCount l adE adK adV i) (cwV 0 S.2.2.2.2 (gV hTs hlk m_568 m_569 m_55 m_570) rfl rfl rfl (by decide +kernel) hR) ⟨fun a U g mk q => ⟨q.1, q.2.1.blind, q.2.2⟩, cx_recvE hC hS hi, fun U hU hW => ⟨rfl, hC.at hS no_in hU hW, hi⟩⟩ rfl rfl hsz rfl (lv_room hrm) hdg hc)) (fun r e => by subst e; exact kk)
