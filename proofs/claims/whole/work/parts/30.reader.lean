abbrev wR (r0 r1 r2 r3 : Nat) (cI cC : ClassId) (str : Nat → Int32) (tb ti tp : Int32) (f : Nat → Int32) (n : Int32) : va_W := [(r0, .inr (1, [.ref r1, .ref r2, .int tb, .int ti, .int tp])), (r1, .inl (cI, 256, .inl str)), (r2, .inr (0, [.ref r3, .int n])), (r3, .inl (cC, 40, .inl f))]
def rwd (dC : Nat → ClassId) (dI : Nat → Nat → Nat) (cI cC : ClassId) (r0 r1 r2 r3 : Nat) (str : Nat → Int32) (tb ti tp : Int32) (v : List Int32) (H : Heap) : Prop := ∃ (f : Nat → Int32) (n : Int32), tx f n v ∧ va_P (dC, dI) classes (wR r0 r1 r2 r3 cI cC str tb ti tp f n) H
abbrev rK (dC : Nat → ClassId) (dI : Nat → Nat → Nat) (cI cC : ClassId) (U : State) : Prop := va_K (dC, dI) classes [(cI, .int), (cC, .char)] U
theorem rwd.tw {dC : Nat → ClassId} {dI : Nat → Nat → Nat} {cI cC : ClassId} {r0 r1 r2 r3 : Nat} {str : Nat → Int32} {tb ti tp : Int32} {v : List Int32} {H : Heap} (h : rwd dC dI cI cC r0 r1 r2 r3 str tb ti tp v H) : tw dC dI cC r2 r3 v H := by
  obtain ⟨f, n, ht, hP⟩ := h
  exact ⟨f, n, ht, hP.sub [2, 3] rfl⟩
theorem rwd.recv {dC : Nat → ClassId} {dI : Nat → Nat → Nat} {cI cC : ClassId} {r0 r1 r2 r3 : Nat} {str : Nat → Int32} {tb ti tp : Int32} {v : List Int32} {s : State} {H : Heap} (hK : rK dC dI cI cC s) (h : rwd dC dI cI cC r0 r1 r2 r3 str tb ti tp v H) : ∃ cell : Cell, H[r0]? = some cell ∧ cell.vm.isStatics = false ∧ s.vm.findClass R_R = some cell.cls := by
  obtain ⟨f, n, ht, hP⟩ := h
  exact va_recv hK hP (ci := 1) (q0 := 0) rfl rfl
theorem rK.t {dC : Nat → ClassId} {dI : Nat → Nat → Nat} {cI cC : ClassId} {s : State} (hK : rK dC dI cI cC s) : va_K (dC, dI) classes [(cC, .char)] s := hK.sub [1] rfl
theorem nz_f_R_isLong (x : Int32) : narrow .boolean (.int (f_R_isLong x)) = .int (f_R_isLong x) := by
  rw [f_R_isLong]
  by_cases h : x &&& 3 = 3
  · rw [if_pos h]; rfl
  · rw [if_neg h]; rfl
theorem adr_in {x : Int32} (h : ¬ f_R_isAddress x = 0) : vp_in x 256 := by
  rw [f_R_isAddress] at h
  by_cases h1 : x < 0
  · rw [if_pos h1] at h; exact absurd rfl h
  · rw [if_neg h1] at h
    by_cases h2 : 256 ≤ x
    · rw [if_pos h2] at h; exact absurd rfl h
    · obtain ⟨j, hj, rfl⟩ := nI_of h1
      have : ¬ nI 256 ≤ nI j := h2
      have := mt (nI_leI (a := 256) (b := j) (by omega) hj).mpr this
      exact vp_in_nI (by omega) (by omega)

def f_R_byteAt (str : Nat → Int32) (x1 : Int32) : Int32 :=
  if (f_R_isAddress x1) = 0 then
    0
  else
    str x1.toNatClampNeg
set_option maxRecDepth 100000 in
set_option maxHeartbeats 4000000 in
theorem c_R_byteAt (l : Launch) (adE adK adV : Nat → Nat) (dC : Nat → ClassId) (dI : Nat → Nat → Nat) (cI cC : ClassId) (r0 r1 r2 r3 : Nat) (str : Nat → Int32) (tb ti tp : Int32) (v : List Int32) (x1 : Int32) : Met l y_R_byteAt (Cond.code y_R_byteAt b_R_byteAt 2 (some .int) :: WT) ({ frames := 1, cells := 0, slots := 0, locals := 20 }) (va_Pc [.ref r0, .int x1] (fun U => rK dC dI cI cC U ∧ cx adE adK adV no U U.heap ∧ rwd dC dI cI cC r0 r1 r2 r3 str tb ti tp v U.heap)) (vp_Si (fun r => r = f_R_byteAt str x1)) 0 0 no := by
  refine va_MetF (cc := b_R_byteAt) (maxL := 2) (ret := (some .int)) (by decide +kernel) rfl ?_
  intro p e s m args below meth c s₁ B hml hv
  obtain ⟨rfl, hK, hC, hw⟩ := hv
  have hx := B.exec
  have hb := B.bytes
  have hr := B.returns
  have hts := atoms_spec (ws := (Cond.code y_R_byteAt b_R_byteAt 2 (some .int) :: WT)) B.pre
  have hT : ∀ w ∈ WT, w.before _ s = true := fun w h => hts w (inC w h)
  have hown : s.vm.findClass R_R = some m.cls := findClass_of_methodNamed B.named
  have hlocks := B.notSynchronized
  have hS : va_S no s.heap s.heap [] := va_S.rf
  have S : CallFix p m c b_R_byteAt 2 s _ (Cond.code y_R_byteAt b_R_byteAt 2 (some .int) :: WT) R_R := ⟨hx, hb, hml, hown, hts⟩
  have hl := lv_entry ([.ref r0, .int x1]) (n := 2) (Nat.le_of_ble_eq_true rfl)
  rw [lg_entry_eq]
  generalize (lg_sl ([.ref r0, .int x1]) ++ List.replicate (2 - (lg_sl ([.ref r0, .int x1])).length) Slot.unset).toArray = ls at hl ⊢
  have hl : lv_has ls 2 [(0, .ref r0), (1, .int x1)] := hl
  obtain ⟨f, n, ht0, hP⟩ := id hw
  refine lv_iload_n hx hb d_R_byteAt_0 rfl (lv_at hl 1 rfl) ?_
  refine call_R_isAddress S inC m_671 ⟨(Nat.le_of_ble_eq_true rfl), (Nat.le_of_ble_eq_true rfl)⟩ hl.1 (Nat.le_of_ble_eq_true rfl) d_R_byteAt_1 ⟨(Nat.le_of_ble_eq_true rfl), (Nat.le_of_ble_eq_true rfl)⟩ ?_
  refine lv_if_eq (tgt := 16) hx hb d_R_byteAt_4 (by decide) (fun c_1 => ?_) (fun c_1 => ?_)
  · refine lv_iconst (v := 0) hx hb d_R_byteAt_16 (by decide) ?_
    exact W.iret (v := 0) hx hb hr (fun t ht hW => ⟨0, rfl, by rw [f_R_byteAt, if_pos c_1], ht⟩) (fun _ h => by cases h) d_R_byteAt_17
  · refine lv_aload_n hx hb d_R_byteAt_7 rfl (lv_at hl 0 rfl) ?_
    refine va_get (D := (dC, dI)) (ci := 1) (v := .ref r1) (C := R_R) (T := F_R) (N := 5) hx hb hT i_R hown hK hP 0 rfl rfl 0 (by decide) (hT _ m_91) (fun _ h9 => h9) rfl d_R_byteAt_8 ?_
    refine lv_iload_n hx hb d_R_byteAt_11 rfl (lv_at hl 1 rfl) ?_
    refine va_iald (D := (dC, dI)) hx hb hK hP 1 0 rfl rfl (adr_in c_1) d_R_byteAt_12 ?_
    refine lv_goto (tgt := 17) hx hb d_R_byteAt_13 (by decide) ?_
    exact W.iret (v := str x1.toNatClampNeg) hx hb hr (fun t ht hW => ⟨str x1.toNatClampNeg, rfl, by rw [f_R_byteAt, if_neg c_1], ht⟩) (fun _ h => by cases h) d_R_byteAt_17
theorem call_R_byteAt {p : Program} {l : Launch} {e : Env} {R : Room} {s : State} {m : MethodId} {args : Array Value} {below : List Frame} {meth : Method} {c : Code} {H : Heap} {locs : List Loc} {cells slots : Nat} {Q : State → Prop} {cc : ByteArray} {pc nL idx : Nat} {ls : Array Slot} {rest : List Value} {Ts : List Cond} {own : String} {adE adK adV : Nat → Nat} {A0 : Nat → Prop} {dC : Nat → ClassId} {dI : Nat → Nat → Nat} {cI cC : ClassId} {r0 r1 r2 r3 : Nat} {str : Nat → Int32} {tb ti tp : Int32} {v : List Int32} {x1 : Int32} (S : CallFix p m c cc nL s args Ts own) (hTs : ∀ w ∈ WT, w ∈ Ts) (hlk : Cond.methodLink own idx y_R_byteAt ∈ WT) (hR : 1 + 1 ≤ R.frames ∧ 8 + (2 + 11) + 20 ≤ R.locals) (hsz : ls.size = nL) (hrm : (rest.map fun v => v.category).sum ≤ 8) (hdg : decode cc pc = .ok (.invokevirtual idx, 3)) (hc : cells ≤ R.cells ∧ slots ≤ R.slots) (hK : rK dC dI cI cC s) (hC : cx adE adK adV A0 s s.heap) (hS : va_S A0 s.heap H locs) (hw : rwd dC dI cI cC r0 r1 r2 r3 str tb ti tp v H) (kk : W p l e R s m args below meth c H locs cells slots Q (F0 m (pc + 3) ls (.int (f_R_byteAt str x1) :: rest))) : W p l e R s m args below meth c H locs cells slots Q (F0 m pc ls (.int x1 :: .ref r0 :: rest)) :=
  vp_callSi (va_Run.run (va_runV (As := [.int x1]) (rest := rest) S (c_R_byteAt l adE adK adV dC dI cI cC r0 r1 r2 r3 str tb ti tp v x1) (cwV 1 S.2.2.2.2 (gV hTs hlk m_696 m_13 m_50 m_697) rfl rfl rfl (by decide +kernel) hR) ⟨fun a U g mk q => ⟨q.1, va_K.moved (u := U) (U := U.calling g mk a) (Vm.Alike.refl U.vm) q.2.1, q.2.2.1.blind, q.2.2.2⟩, rwd.recv hK hw, fun U hU hW => ⟨rfl, va_K.moved hW.alike hK, hC.at hS no_in hU hW, by rw [hU]; exact hw⟩⟩ rfl rfl hsz rfl (lv_room hrm) hdg hc)) (fun r e => by subst e; exact kk)

def f_R_halfAt (str : Nat → Int32) (x1 : Int32) : Int32 :=
  (f_R_byteAt str x1) ||| ((f_R_byteAt str (x1 + 1)) <<< ((8 : Int32) &&& 31))
set_option maxRecDepth 100000 in
set_option maxHeartbeats 4000000 in
theorem c_R_halfAt (l : Launch) (adE adK adV : Nat → Nat) (dC : Nat → ClassId) (dI : Nat → Nat → Nat) (cI cC : ClassId) (r0 r1 r2 r3 : Nat) (str : Nat → Int32) (tb ti tp : Int32) (v : List Int32) (x1 : Int32) : Met l y_R_halfAt (Cond.code y_R_halfAt b_R_halfAt 2 (some .int) :: WT) ({ frames := 2, cells := 0, slots := 0, locals := 41 }) (va_Pc [.ref r0, .int x1] (fun U => rK dC dI cI cC U ∧ cx adE adK adV no U U.heap ∧ rwd dC dI cI cC r0 r1 r2 r3 str tb ti tp v U.heap)) (vp_Si (fun r => r = f_R_halfAt str x1)) 0 0 no := by
  refine va_MetF (cc := b_R_halfAt) (maxL := 2) (ret := (some .int)) (by decide +kernel) rfl ?_
  intro p e s m args below meth c s₁ B hml hv
  obtain ⟨rfl, hK, hC, hw⟩ := hv
  have hx := B.exec
  have hb := B.bytes
  have hr := B.returns
  have hts := atoms_spec (ws := (Cond.code y_R_halfAt b_R_halfAt 2 (some .int) :: WT)) B.pre
  have hT : ∀ w ∈ WT, w.before _ s = true := fun w h => hts w (inC w h)
  have hown : s.vm.findClass R_R = some m.cls := findClass_of_methodNamed B.named
  have hlocks := B.notSynchronized
  have hS : va_S no s.heap s.heap [] := va_S.rf
  have S : CallFix p m c b_R_halfAt 2 s _ (Cond.code y_R_halfAt b_R_halfAt 2 (some .int) :: WT) R_R := ⟨hx, hb, hml, hown, hts⟩
  have hl := lv_entry ([.ref r0, .int x1]) (n := 2) (Nat.le_of_ble_eq_true rfl)
  rw [lg_entry_eq]
  generalize (lg_sl ([.ref r0, .int x1]) ++ List.replicate (2 - (lg_sl ([.ref r0, .int x1])).length) Slot.unset).toArray = ls at hl ⊢
  have hl : lv_has ls 2 [(0, .ref r0), (1, .int x1)] := hl
  obtain ⟨f, n, ht0, hP⟩ := id hw
  refine lv_aload_n hx hb d_R_halfAt_0 rfl (lv_at hl 0 rfl) ?_
  refine lv_iload_n hx hb d_R_halfAt_1 rfl (lv_at hl 1 rfl) ?_
  refine call_R_byteAt S inC m_694 ⟨(Nat.le_of_ble_eq_true rfl), (Nat.le_of_ble_eq_true rfl)⟩ hl.1 (Nat.le_of_ble_eq_true rfl) d_R_halfAt_2 ⟨(Nat.le_of_ble_eq_true rfl), (Nat.le_of_ble_eq_true rfl)⟩ hK hC hS hw ?_
  refine lv_aload_n hx hb d_R_halfAt_5 rfl (lv_at hl 0 rfl) ?_
  refine lv_iload_n hx hb d_R_halfAt_6 rfl (lv_at hl 1 rfl) ?_
  refine lv_iconst (v := 1) hx hb d_R_halfAt_7 (by decide) ?_
  refine lv_iadd hx hb d_R_halfAt_8 ?_
  refine call_R_byteAt S inC m_694 ⟨(Nat.le_of_ble_eq_true rfl), (Nat.le_of_ble_eq_true rfl)⟩ hl.1 (Nat.le_of_ble_eq_true rfl) d_R_halfAt_9 ⟨(Nat.le_of_ble_eq_true rfl), (Nat.le_of_ble_eq_true rfl)⟩ hK hC hS hw ?_
  refine lv_bipush (v := 8) hx hb d_R_halfAt_12 (by decide) ?_
  refine lv_ishl hx hb d_R_halfAt_14 ?_
  refine lv_ior hx hb d_R_halfAt_15 ?_
  exact W.iret (v := (f_R_byteAt str x1) ||| ((f_R_byteAt str (x1 + 1)) <<< ((8 : Int32) &&& 31))) hx hb hr (fun t ht hW => ⟨(f_R_byteAt str x1) ||| ((f_R_byteAt str (x1 + 1)) <<< ((8 : Int32) &&& 31)), rfl, rfl, ht⟩) (fun _ h => by cases h) d_R_halfAt_16
theorem call_R_halfAt {p : Program} {l : Launch} {e : Env} {R : Room} {s : State} {m : MethodId} {args : Array Value} {below : List Frame} {meth : Method} {c : Code} {H : Heap} {locs : List Loc} {cells slots : Nat} {Q : State → Prop} {cc : ByteArray} {pc nL idx : Nat} {ls : Array Slot} {rest : List Value} {Ts : List Cond} {own : String} {adE adK adV : Nat → Nat} {A0 : Nat → Prop} {dC : Nat → ClassId} {dI : Nat → Nat → Nat} {cI cC : ClassId} {r0 r1 r2 r3 : Nat} {str : Nat → Int32} {tb ti tp : Int32} {v : List Int32} {x1 : Int32} (S : CallFix p m c cc nL s args Ts own) (hTs : ∀ w ∈ WT, w ∈ Ts) (hlk : Cond.methodLink own idx y_R_halfAt ∈ WT) (hR : 2 + 1 ≤ R.frames ∧ 8 + (2 + 11) + 41 ≤ R.locals) (hsz : ls.size = nL) (hrm : (rest.map fun v => v.category).sum ≤ 8) (hdg : decode cc pc = .ok (.invokevirtual idx, 3)) (hc : cells ≤ R.cells ∧ slots ≤ R.slots) (hK : rK dC dI cI cC s) (hC : cx adE adK adV A0 s s.heap) (hS : va_S A0 s.heap H locs) (hw : rwd dC dI cI cC r0 r1 r2 r3 str tb ti tp v H) (kk : W p l e R s m args below meth c H locs cells slots Q (F0 m (pc + 3) ls (.int (f_R_halfAt str x1) :: rest))) : W p l e R s m args below meth c H locs cells slots Q (F0 m pc ls (.int x1 :: .ref r0 :: rest)) :=
  vp_callSi (va_Run.run (va_runV (As := [.int x1]) (rest := rest) S (c_R_halfAt l adE adK adV dC dI cI cC r0 r1 r2 r3 str tb ti tp v x1) (cwV 1 S.2.2.2.2 (gV hTs hlk m_704 m_15 m_50 m_705) rfl rfl rfl (by decide +kernel) hR) ⟨fun a U g mk q => ⟨q.1, va_K.moved (u := U) (U := U.calling g mk a) (Vm.Alike.refl U.vm) q.2.1, q.2.2.1.blind, q.2.2.2⟩, rwd.recv hK hw, fun U hU hW => ⟨rfl, va_K.moved hW.alike hK, hC.at hS no_in hU hW, by rw [hU]; exact hw⟩⟩ rfl rfl hsz rfl (lv_room hrm) hdg hc)) (fun r e => by subst e; exact kk)

def f_R_bitsAt (str : Nat → Int32) (x1 : Int32) : Int32 :=
  if (f_R_isLong (f_R_halfAt str x1)) = 0 then
    f_R_halfAt str x1
  else
    (f_R_halfAt str x1) ||| ((f_R_halfAt str (x1 + 2)) <<< ((16 : Int32) &&& 31))
set_option maxRecDepth 100000 in
set_option maxHeartbeats 4000000 in
theorem c_R_bitsAt (l : Launch) (adE adK adV : Nat → Nat) (dC : Nat → ClassId) (dI : Nat → Nat → Nat) (cI cC : ClassId) (r0 r1 r2 r3 : Nat) (str : Nat → Int32) (tb ti tp : Int32) (v : List Int32) (x1 : Int32) : Met l y_R_bitsAt (Cond.code y_R_bitsAt b_R_bitsAt 3 (some .int) :: WT) ({ frames := 3, cells := 0, slots := 0, locals := 62 }) (va_Pc [.ref r0, .int x1] (fun U => rK dC dI cI cC U ∧ cx adE adK adV no U U.heap ∧ rwd dC dI cI cC r0 r1 r2 r3 str tb ti tp v U.heap)) (vp_Si (fun r => r = f_R_bitsAt str x1)) 0 0 no := by
  refine va_MetF (cc := b_R_bitsAt) (maxL := 3) (ret := (some .int)) (by decide +kernel) rfl ?_
  intro p e s m args below meth c s₁ B hml hv
  obtain ⟨rfl, hK, hC, hw⟩ := hv
  have hx := B.exec
  have hb := B.bytes
  have hr := B.returns
  have hts := atoms_spec (ws := (Cond.code y_R_bitsAt b_R_bitsAt 3 (some .int) :: WT)) B.pre
  have hT : ∀ w ∈ WT, w.before _ s = true := fun w h => hts w (inC w h)
  have hown : s.vm.findClass R_R = some m.cls := findClass_of_methodNamed B.named
  have hlocks := B.notSynchronized
  have hS : va_S no s.heap s.heap [] := va_S.rf
  have S : CallFix p m c b_R_bitsAt 3 s _ (Cond.code y_R_bitsAt b_R_bitsAt 3 (some .int) :: WT) R_R := ⟨hx, hb, hml, hown, hts⟩
  have hl := lv_entry ([.ref r0, .int x1]) (n := 3) (Nat.le_of_ble_eq_true rfl)
  rw [lg_entry_eq]
  generalize (lg_sl ([.ref r0, .int x1]) ++ List.replicate (3 - (lg_sl ([.ref r0, .int x1])).length) Slot.unset).toArray = ls at hl ⊢
  have hl : lv_has ls 3 [(0, .ref r0), (1, .int x1)] := hl
  obtain ⟨f, n, ht0, hP⟩ := id hw
  refine lv_aload_n hx hb d_R_bitsAt_0 rfl (lv_at hl 0 rfl) ?_
  refine lv_iload_n hx hb d_R_bitsAt_1 rfl (lv_at hl 1 rfl) ?_
  refine call_R_halfAt S inC m_702 ⟨(Nat.le_of_ble_eq_true rfl), (Nat.le_of_ble_eq_true rfl)⟩ hl.1 (Nat.le_of_ble_eq_true rfl) d_R_bitsAt_2 ⟨(Nat.le_of_ble_eq_true rfl), (Nat.le_of_ble_eq_true rfl)⟩ hK hC hS hw ?_
  refine lv_istore_n (lv' := [(2, .int (f_R_halfAt str x1)), (0, .ref r0), (1, .int x1)]) hx hb d_R_bitsAt_5 rfl hl (by decide) rfl (fun ls hl => ?_)
  refine lv_iload_n hx hb d_R_bitsAt_6 rfl (lv_at hl 0 rfl) ?_
  refine call_R_isLong S inC m_111 ⟨(Nat.le_of_ble_eq_true rfl), (Nat.le_of_ble_eq_true rfl)⟩ hl.1 (Nat.le_of_ble_eq_true rfl) d_R_bitsAt_7 ⟨(Nat.le_of_ble_eq_true rfl), (Nat.le_of_ble_eq_true rfl)⟩ ?_
  refine lv_if_eq (tgt := 28) hx hb d_R_bitsAt_10 (by decide) (fun c_1 => ?_) (fun c_1 => ?_)
  · refine lv_iload_n hx hb d_R_bitsAt_28 rfl (lv_at hl 0 rfl) ?_
    exact W.iret (v := f_R_halfAt str x1) hx hb hr (fun t ht hW => ⟨f_R_halfAt str x1, rfl, by rw [f_R_bitsAt, if_pos c_1], ht⟩) (fun _ h => by cases h) d_R_bitsAt_29
  · refine lv_iload_n hx hb d_R_bitsAt_13 rfl (lv_at hl 0 rfl) ?_
    refine lv_aload_n hx hb d_R_bitsAt_14 rfl (lv_at hl 1 rfl) ?_
    refine lv_iload_n hx hb d_R_bitsAt_15 rfl (lv_at hl 2 rfl) ?_
    refine lv_iconst (v := 2) hx hb d_R_bitsAt_16 (by decide) ?_
    refine lv_iadd hx hb d_R_bitsAt_17 ?_
    refine call_R_halfAt S inC m_702 ⟨(Nat.le_of_ble_eq_true rfl), (Nat.le_of_ble_eq_true rfl)⟩ hl.1 (Nat.le_of_ble_eq_true rfl) d_R_bitsAt_18 ⟨(Nat.le_of_ble_eq_true rfl), (Nat.le_of_ble_eq_true rfl)⟩ hK hC hS hw ?_
    refine lv_bipush (v := 16) hx hb d_R_bitsAt_21 (by decide) ?_
    refine lv_ishl hx hb d_R_bitsAt_23 ?_
    refine lv_ior hx hb d_R_bitsAt_24 ?_
    refine lv_goto (tgt := 29) hx hb d_R_bitsAt_25 (by decide) ?_
    exact W.iret (v := (f_R_halfAt str x1) ||| ((f_R_halfAt str (x1 + 2)) <<< ((16 : Int32) &&& 31))) hx hb hr (fun t ht hW => ⟨(f_R_halfAt str x1) ||| ((f_R_halfAt str (x1 + 2)) <<< ((16 : Int32) &&& 31)), rfl, by rw [f_R_bitsAt, if_neg c_1], ht⟩) (fun _ h => by cases h) d_R_bitsAt_29
theorem call_R_bitsAt {p : Program} {l : Launch} {e : Env} {R : Room} {s : State} {m : MethodId} {args : Array Value} {below : List Frame} {meth : Method} {c : Code} {H : Heap} {locs : List Loc} {cells slots : Nat} {Q : State → Prop} {cc : ByteArray} {pc nL idx : Nat} {ls : Array Slot} {rest : List Value} {Ts : List Cond} {own : String} {adE adK adV : Nat → Nat} {A0 : Nat → Prop} {dC : Nat → ClassId} {dI : Nat → Nat → Nat} {cI cC : ClassId} {r0 r1 r2 r3 : Nat} {str : Nat → Int32} {tb ti tp : Int32} {v : List Int32} {x1 : Int32} (S : CallFix p m c cc nL s args Ts own) (hTs : ∀ w ∈ WT, w ∈ Ts) (hlk : Cond.methodLink own idx y_R_bitsAt ∈ WT) (hR : 3 + 1 ≤ R.frames ∧ 8 + (3 + 11) + 62 ≤ R.locals) (hsz : ls.size = nL) (hrm : (rest.map fun v => v.category).sum ≤ 8) (hdg : decode cc pc = .ok (.invokevirtual idx, 3)) (hc : cells ≤ R.cells ∧ slots ≤ R.slots) (hK : rK dC dI cI cC s) (hC : cx adE adK adV A0 s s.heap) (hS : va_S A0 s.heap H locs) (hw : rwd dC dI cI cC r0 r1 r2 r3 str tb ti tp v H) (kk : W p l e R s m args below meth c H locs cells slots Q (F0 m (pc + 3) ls (.int (f_R_bitsAt str x1) :: rest))) : W p l e R s m args below meth c H locs cells slots Q (F0 m pc ls (.int x1 :: .ref r0 :: rest)) :=
  vp_callSi (va_Run.run (va_runV (As := [.int x1]) (rest := rest) S (c_R_bitsAt l adE adK adV dC dI cI cC r0 r1 r2 r3 str tb ti tp v x1) (cwV 1 S.2.2.2.2 (gV hTs hlk m_700 m_14 m_50 m_701) rfl rfl rfl (by decide +kernel) hR) ⟨fun a U g mk q => ⟨q.1, va_K.moved (u := U) (U := U.calling g mk a) (Vm.Alike.refl U.vm) q.2.1, q.2.2.1.blind, q.2.2.2⟩, rwd.recv hK hw, fun U hU hW => ⟨rfl, va_K.moved hW.alike hK, hC.at hS no_in hU hW, by rw [hU]; exact hw⟩⟩ rfl rfl hsz rfl (lv_room hrm) hdg hc)) (fun r e => by subst e; exact kk)

def f_R_isLongAt (str : Nat → Int32) (x1 : Int32) : Int32 :=
  f_R_isLong (f_R_byteAt str x1)
set_option maxRecDepth 100000 in
set_option maxHeartbeats 4000000 in
theorem c_R_isLongAt (l : Launch) (adE adK adV : Nat → Nat) (dC : Nat → ClassId) (dI : Nat → Nat → Nat) (cI cC : ClassId) (r0 r1 r2 r3 : Nat) (str : Nat → Int32) (tb ti tp : Int32) (v : List Int32) (x1 : Int32) : Met l y_R_isLongAt (Cond.code y_R_isLongAt b_R_isLongAt 2 (some .boolean) :: WT) ({ frames := 2, cells := 0, slots := 0, locals := 41 }) (va_Pc [.ref r0, .int x1] (fun U => rK dC dI cI cC U ∧ cx adE adK adV no U U.heap ∧ rwd dC dI cI cC r0 r1 r2 r3 str tb ti tp v U.heap)) (vp_Si (fun r => r = f_R_isLongAt str x1)) 0 0 no := by
  refine va_MetF (cc := b_R_isLongAt) (maxL := 2) (ret := (some .boolean)) (by decide +kernel) rfl ?_
  intro p e s m args below meth c s₁ B hml hv
  obtain ⟨rfl, hK, hC, hw⟩ := hv
  have hx := B.exec
  have hb := B.bytes
  have hr := B.returns
  have hts := atoms_spec (ws := (Cond.code y_R_isLongAt b_R_isLongAt 2 (some .boolean) :: WT)) B.pre
  have hT : ∀ w ∈ WT, w.before _ s = true := fun w h => hts w (inC w h)
  have hown : s.vm.findClass R_R = some m.cls := findClass_of_methodNamed B.named
  have hlocks := B.notSynchronized
  have hS : va_S no s.heap s.heap [] := va_S.rf
  have S : CallFix p m c b_R_isLongAt 2 s _ (Cond.code y_R_isLongAt b_R_isLongAt 2 (some .boolean) :: WT) R_R := ⟨hx, hb, hml, hown, hts⟩
  have hl := lv_entry ([.ref r0, .int x1]) (n := 2) (Nat.le_of_ble_eq_true rfl)
  rw [lg_entry_eq]
  generalize (lg_sl ([.ref r0, .int x1]) ++ List.replicate (2 - (lg_sl ([.ref r0, .int x1])).length) Slot.unset).toArray = ls at hl ⊢
  have hl : lv_has ls 2 [(0, .ref r0), (1, .int x1)] := hl
  obtain ⟨f, n, ht0, hP⟩ := id hw
  refine lv_aload_n hx hb d_R_isLongAt_0 rfl (lv_at hl 0 rfl) ?_
  refine lv_iload_n hx hb d_R_isLongAt_1 rfl (lv_at hl 1 rfl) ?_
  refine call_R_byteAt S inC m_694 ⟨(Nat.le_of_ble_eq_true rfl), (Nat.le_of_ble_eq_true rfl)⟩ hl.1 (Nat.le_of_ble_eq_true rfl) d_R_isLongAt_2 ⟨(Nat.le_of_ble_eq_true rfl), (Nat.le_of_ble_eq_true rfl)⟩ hK hC hS hw ?_
  refine call_R_isLong S inC m_111 ⟨(Nat.le_of_ble_eq_true rfl), (Nat.le_of_ble_eq_true rfl)⟩ hl.1 (Nat.le_of_ble_eq_true rfl) d_R_isLongAt_5 ⟨(Nat.le_of_ble_eq_true rfl), (Nat.le_of_ble_eq_true rfl)⟩ ?_
  exact W.zret (v := f_R_isLong (f_R_byteAt str x1)) hx hb hr (nz_f_R_isLong (f_R_byteAt str x1)) (fun t ht hW => ⟨f_R_isLong (f_R_byteAt str x1), rfl, rfl, ht⟩) (fun _ h => by cases h) d_R_isLongAt_8
theorem call_R_isLongAt {p : Program} {l : Launch} {e : Env} {R : Room} {s : State} {m : MethodId} {args : Array Value} {below : List Frame} {meth : Method} {c : Code} {H : Heap} {locs : List Loc} {cells slots : Nat} {Q : State → Prop} {cc : ByteArray} {pc nL idx : Nat} {ls : Array Slot} {rest : List Value} {Ts : List Cond} {own : String} {adE adK adV : Nat → Nat} {A0 : Nat → Prop} {dC : Nat → ClassId} {dI : Nat → Nat → Nat} {cI cC : ClassId} {r0 r1 r2 r3 : Nat} {str : Nat → Int32} {tb ti tp : Int32} {v : List Int32} {x1 : Int32} (S : CallFix p m c cc nL s args Ts own) (hTs : ∀ w ∈ WT, w ∈ Ts) (hlk : Cond.methodLink own idx y_R_isLongAt ∈ WT) (hR : 2 + 1 ≤ R.frames ∧ 8 + (2 + 11) + 41 ≤ R.locals) (hsz : ls.size = nL) (hrm : (rest.map fun v => v.category).sum ≤ 8) (hdg : decode cc pc = .ok (.invokevirtual idx, 3)) (hc : cells ≤ R.cells ∧ slots ≤ R.slots) (hK : rK dC dI cI cC s) (hC : cx adE adK adV A0 s s.heap) (hS : va_S A0 s.heap H locs) (hw : rwd dC dI cI cC r0 r1 r2 r3 str tb ti tp v H) (kk : W p l e R s m args below meth c H locs cells slots Q (F0 m (pc + 3) ls (.int (f_R_isLongAt str x1) :: rest))) : W p l e R s m args below meth c H locs cells slots Q (F0 m pc ls (.int x1 :: .ref r0 :: rest)) :=
  vp_callSi (va_Run.run (va_runV (As := [.int x1]) (rest := rest) S (c_R_isLongAt l adE adK adV dC dI cI cC r0 r1 r2 r3 str tb ti tp v x1) (cwV 1 S.2.2.2.2 (gV hTs hlk m_692 m_12 m_50 m_693) rfl rfl rfl (by decide +kernel) hR) ⟨fun a U g mk q => ⟨q.1, va_K.moved (u := U) (U := U.calling g mk a) (Vm.Alike.refl U.vm) q.2.1, q.2.2.1.blind, q.2.2.2⟩, rwd.recv hK hw, fun U hU hW => ⟨rfl, va_K.moved hW.alike hK, hC.at hS no_in hU hW, by rw [hU]; exact hw⟩⟩ rfl rfl hsz rfl (lv_room hrm) hdg hc)) (fun r e => by subst e; exact kk)

def f_R_bytesAt (str : Nat → Int32) (x1 : Int32) : Int32 :=
  if (f_R_isLongAt str x1) = 0 then
    2
  else
    4
set_option maxRecDepth 100000 in
set_option maxHeartbeats 4000000 in
theorem c_R_bytesAt (l : Launch) (adE adK adV : Nat → Nat) (dC : Nat → ClassId) (dI : Nat → Nat → Nat) (cI cC : ClassId) (r0 r1 r2 r3 : Nat) (str : Nat → Int32) (tb ti tp : Int32) (v : List Int32) (x1 : Int32) : Met l y_R_bytesAt (Cond.code y_R_bytesAt b_R_bytesAt 2 (some .int) :: WT) ({ frames := 3, cells := 0, slots := 0, locals := 62 }) (va_Pc [.ref r0, .int x1] (fun U => rK dC dI cI cC U ∧ cx adE adK adV no U U.heap ∧ rwd dC dI cI cC r0 r1 r2 r3 str tb ti tp v U.heap)) (vp_Si (fun r => r = f_R_bytesAt str x1)) 0 0 no := by
  refine va_MetF (cc := b_R_bytesAt) (maxL := 2) (ret := (some .int)) (by decide +kernel) rfl ?_
  intro p e s m args below meth c s₁ B hml hv
  obtain ⟨rfl, hK, hC, hw⟩ := hv
  have hx := B.exec
  have hb := B.bytes
  have hr := B.returns
  have hts := atoms_spec (ws := (Cond.code y_R_bytesAt b_R_bytesAt 2 (some .int) :: WT)) B.pre
  have hT : ∀ w ∈ WT, w.before _ s = true := fun w h => hts w (inC w h)
  have hown : s.vm.findClass R_R = some m.cls := findClass_of_methodNamed B.named
  have hlocks := B.notSynchronized
  have hS : va_S no s.heap s.heap [] := va_S.rf
  have S : CallFix p m c b_R_bytesAt 2 s _ (Cond.code y_R_bytesAt b_R_bytesAt 2 (some .int) :: WT) R_R := ⟨hx, hb, hml, hown, hts⟩
  have hl := lv_entry ([.ref r0, .int x1]) (n := 2) (Nat.le_of_ble_eq_true rfl)
  rw [lg_entry_eq]
  generalize (lg_sl ([.ref r0, .int x1]) ++ List.replicate (2 - (lg_sl ([.ref r0, .int x1])).length) Slot.unset).toArray = ls at hl ⊢
  have hl : lv_has ls 2 [(0, .ref r0), (1, .int x1)] := hl
  obtain ⟨f, n, ht0, hP⟩ := id hw
  refine lv_aload_n hx hb d_R_bytesAt_0 rfl (lv_at hl 0 rfl) ?_
  refine lv_iload_n hx hb d_R_bytesAt_1 rfl (lv_at hl 1 rfl) ?_
  refine call_R_isLongAt S inC m_690 ⟨(Nat.le_of_ble_eq_true rfl), (Nat.le_of_ble_eq_true rfl)⟩ hl.1 (Nat.le_of_ble_eq_true rfl) d_R_bytesAt_2 ⟨(Nat.le_of_ble_eq_true rfl), (Nat.le_of_ble_eq_true rfl)⟩ hK hC hS hw ?_
  refine lv_if_eq (tgt := 12) hx hb d_R_bytesAt_5 (by decide) (fun c_1 => ?_) (fun c_1 => ?_)
  · refine lv_iconst (v := 2) hx hb d_R_bytesAt_12 (by decide) ?_
    exact W.iret (v := 2) hx hb hr (fun t ht hW => ⟨2, rfl, by rw [f_R_bytesAt, if_pos c_1], ht⟩) (fun _ h => by cases h) d_R_bytesAt_13
  · refine lv_iconst (v := 4) hx hb d_R_bytesAt_8 (by decide) ?_
    refine lv_goto (tgt := 13) hx hb d_R_bytesAt_9 (by decide) ?_
    exact W.iret (v := 4) hx hb hr (fun t ht hW => ⟨4, rfl, by rw [f_R_bytesAt, if_neg c_1], ht⟩) (fun _ h => by cases h) d_R_bytesAt_13
theorem call_R_bytesAt {p : Program} {l : Launch} {e : Env} {R : Room} {s : State} {m : MethodId} {args : Array Value} {below : List Frame} {meth : Method} {c : Code} {H : Heap} {locs : List Loc} {cells slots : Nat} {Q : State → Prop} {cc : ByteArray} {pc nL idx : Nat} {ls : Array Slot} {rest : List Value} {Ts : List Cond} {own : String} {adE adK adV : Nat → Nat} {A0 : Nat → Prop} {dC : Nat → ClassId} {dI : Nat → Nat → Nat} {cI cC : ClassId} {r0 r1 r2 r3 : Nat} {str : Nat → Int32} {tb ti tp : Int32} {v : List Int32} {x1 : Int32} (S : CallFix p m c cc nL s args Ts own) (hTs : ∀ w ∈ WT, w ∈ Ts) (hlk : Cond.methodLink own idx y_R_bytesAt ∈ WT) (hR : 3 + 1 ≤ R.frames ∧ 8 + (2 + 11) + 62 ≤ R.locals) (hsz : ls.size = nL) (hrm : (rest.map fun v => v.category).sum ≤ 8) (hdg : decode cc pc = .ok (.invokevirtual idx, 3)) (hc : cells ≤ R.cells ∧ slots ≤ R.slots) (hK : rK dC dI cI cC s) (hC : cx adE adK adV A0 s s.heap) (hS : va_S A0 s.heap H locs) (hw : rwd dC dI cI cC r0 r1 r2 r3 str tb ti tp v H) (kk : W p l e R s m args below meth c H locs cells slots Q (F0 m (pc + 3) ls (.int (f_R_bytesAt str x1) :: rest))) : W p l e R s m args below meth c H locs cells slots Q (F0 m pc ls (.int x1 :: .ref r0 :: rest)) :=
  vp_callSi (va_Run.run (va_runV (As := [.int x1]) (rest := rest) S (c_R_bytesAt l adE adK adV dC dI cI cC r0 r1 r2 r3 str tb ti tp v x1) (cwV 1 S.2.2.2.2 (gV hTs hlk m_688 m_11 m_50 m_689) rfl rfl rfl (by decide +kernel) hR) ⟨fun a U g mk q => ⟨q.1, va_K.moved (u := U) (U := U.calling g mk a) (Vm.Alike.refl U.vm) q.2.1, q.2.2.1.blind, q.2.2.2⟩, rwd.recv hK hw, fun U hU hW => ⟨rfl, va_K.moved hW.alike hK, hC.at hS no_in hU hW, by rw [hU]; exact hw⟩⟩ rfl rfl hsz rfl (lv_room hrm) hdg hc)) (fun r e => by subst e; exact kk)

def f_R_isWholeAt (str : Nat → Int32) (x1 : Int32) : Int32 :=
  if 256 < (x1 + (f_R_bytesAt str x1)) then
    0
  else
    1
set_option maxRecDepth 100000 in
set_option maxHeartbeats 4000000 in
theorem c_R_isWholeAt (l : Launch) (adE adK adV : Nat → Nat) (dC : Nat → ClassId) (dI : Nat → Nat → Nat) (cI cC : ClassId) (r0 r1 r2 r3 : Nat) (str : Nat → Int32) (tb ti tp : Int32) (v : List Int32) (x1 : Int32) : Met l y_R_isWholeAt (Cond.code y_R_isWholeAt b_R_isWholeAt 2 (some .boolean) :: WT) ({ frames := 4, cells := 0, slots := 0, locals := 83 }) (va_Pc [.ref r0, .int x1] (fun U => rK dC dI cI cC U ∧ cx adE adK adV no U U.heap ∧ rwd dC dI cI cC r0 r1 r2 r3 str tb ti tp v U.heap)) (vp_Si (fun r => r = f_R_isWholeAt str x1)) 0 0 no := by
  refine va_MetF (cc := b_R_isWholeAt) (maxL := 2) (ret := (some .boolean)) (by decide +kernel) rfl ?_
  intro p e s m args below meth c s₁ B hml hv
  obtain ⟨rfl, hK, hC, hw⟩ := hv
  have hx := B.exec
  have hb := B.bytes
  have hr := B.returns
  have hts := atoms_spec (ws := (Cond.code y_R_isWholeAt b_R_isWholeAt 2 (some .boolean) :: WT)) B.pre
  have hT : ∀ w ∈ WT, w.before _ s = true := fun w h => hts w (inC w h)
  have hown : s.vm.findClass R_R = some m.cls := findClass_of_methodNamed B.named
  have hlocks := B.notSynchronized
  have hS : va_S no s.heap s.heap [] := va_S.rf
  have S : CallFix p m c b_R_isWholeAt 2 s _ (Cond.code y_R_isWholeAt b_R_isWholeAt 2 (some .boolean) :: WT) R_R := ⟨hx, hb, hml, hown, hts⟩
  have hl := lv_entry ([.ref r0, .int x1]) (n := 2) (Nat.le_of_ble_eq_true rfl)
  rw [lg_entry_eq]
  generalize (lg_sl ([.ref r0, .int x1]) ++ List.replicate (2 - (lg_sl ([.ref r0, .int x1])).length) Slot.unset).toArray = ls at hl ⊢
  have hl : lv_has ls 2 [(0, .ref r0), (1, .int x1)] := hl
  obtain ⟨f, n, ht0, hP⟩ := id hw
  refine lv_iload_n hx hb d_R_isWholeAt_0 rfl (lv_at hl 1 rfl) ?_
  refine lv_aload_n hx hb d_R_isWholeAt_1 rfl (lv_at hl 0 rfl) ?_
  refine lv_iload_n hx hb d_R_isWholeAt_2 rfl (lv_at hl 1 rfl) ?_
  refine call_R_bytesAt S inC m_686 ⟨(Nat.le_of_ble_eq_true rfl), (Nat.le_of_ble_eq_true rfl)⟩ hl.1 (Nat.le_of_ble_eq_true rfl) d_R_isWholeAt_3 ⟨(Nat.le_of_ble_eq_true rfl), (Nat.le_of_ble_eq_true rfl)⟩ hK hC hS hw ?_
  refine lv_iadd hx hb d_R_isWholeAt_6 ?_
  refine lv_sipush (v := 256) hx hb d_R_isWholeAt_7 (by decide) ?_
  refine lv_icmp_gt (tgt := 17) hx hb d_R_isWholeAt_10 (by decide) (fun c_1 => ?_) (fun c_1 => ?_)
  · refine lv_iconst (v := 0) hx hb d_R_isWholeAt_17 (by decide) ?_
    exact W.zret (v := 0) hx hb hr rfl (fun t ht hW => ⟨0, rfl, by rw [f_R_isWholeAt, if_pos c_1], ht⟩) (fun _ h => by cases h) d_R_isWholeAt_18
  · refine lv_iconst (v := 1) hx hb d_R_isWholeAt_13 (by decide) ?_
    refine lv_goto (tgt := 18) hx hb d_R_isWholeAt_14 (by decide) ?_
    exact W.zret (v := 1) hx hb hr rfl (fun t ht hW => ⟨1, rfl, by rw [f_R_isWholeAt, if_neg c_1], ht⟩) (fun _ h => by cases h) d_R_isWholeAt_18
theorem call_R_isWholeAt {p : Program} {l : Launch} {e : Env} {R : Room} {s : State} {m : MethodId} {args : Array Value} {below : List Frame} {meth : Method} {c : Code} {H : Heap} {locs : List Loc} {cells slots : Nat} {Q : State → Prop} {cc : ByteArray} {pc nL idx : Nat} {ls : Array Slot} {rest : List Value} {Ts : List Cond} {own : String} {adE adK adV : Nat → Nat} {A0 : Nat → Prop} {dC : Nat → ClassId} {dI : Nat → Nat → Nat} {cI cC : ClassId} {r0 r1 r2 r3 : Nat} {str : Nat → Int32} {tb ti tp : Int32} {v : List Int32} {x1 : Int32} (S : CallFix p m c cc nL s args Ts own) (hTs : ∀ w ∈ WT, w ∈ Ts) (hlk : Cond.methodLink own idx y_R_isWholeAt ∈ WT) (hR : 4 + 1 ≤ R.frames ∧ 8 + (2 + 11) + 83 ≤ R.locals) (hsz : ls.size = nL) (hrm : (rest.map fun v => v.category).sum ≤ 8) (hdg : decode cc pc = .ok (.invokevirtual idx, 3)) (hc : cells ≤ R.cells ∧ slots ≤ R.slots) (hK : rK dC dI cI cC s) (hC : cx adE adK adV A0 s s.heap) (hS : va_S A0 s.heap H locs) (hw : rwd dC dI cI cC r0 r1 r2 r3 str tb ti tp v H) (kk : W p l e R s m args below meth c H locs cells slots Q (F0 m (pc + 3) ls (.int (f_R_isWholeAt str x1) :: rest))) : W p l e R s m args below meth c H locs cells slots Q (F0 m pc ls (.int x1 :: .ref r0 :: rest)) :=
  vp_callSi (va_Run.run (va_runV (As := [.int x1]) (rest := rest) S (c_R_isWholeAt l adE adK adV dC dI cI cC r0 r1 r2 r3 str tb ti tp v x1) (cwV 1 S.2.2.2.2 (gV hTs hlk m_684 m_10 m_50 m_685) rfl rfl rfl (by decide +kernel) hR) ⟨fun a U g mk q => ⟨q.1, va_K.moved (u := U) (U := U.calling g mk a) (Vm.Alike.refl U.vm) q.2.1, q.2.2.1.blind, q.2.2.2⟩, rwd.recv hK hw, fun U hU hW => ⟨rfl, va_K.moved hW.alike hK, hC.at hS no_in hU hW, by rw [hU]; exact hw⟩⟩ rfl rfl hsz rfl (lv_room hrm) hdg hc)) (fun r e => by subst e; exact kk)

def f_R_about (tb : Int32) (ti : Int32) (tp : Int32) (v : List Int32) (x1 : Int32) : Int32 :=
  if x1 = 0 then
    nI (min v.length 40)
  else
    if x1 = 1 then
      tb
    else
      if x1 = 2 then
        if ti = 0 then
          0
        else
          1
      else
        if x1 = 3 then
          tp
        else
          (-1)
set_option maxRecDepth 100000 in
set_option maxHeartbeats 4000000 in
theorem c_R_about (l : Launch) (adE adK adV : Nat → Nat) (dC : Nat → ClassId) (dI : Nat → Nat → Nat) (cI cC : ClassId) (r0 r1 r2 r3 : Nat) (str : Nat → Int32) (tb ti tp : Int32) (v : List Int32) (x1 : Int32) : Met l y_R_about (Cond.code y_R_about b_R_about 2 (some .int) :: WT) ({ frames := 1, cells := 0, slots := 0, locals := 20 }) (va_Pc [.ref r0, .int x1] (fun U => rK dC dI cI cC U ∧ cx adE adK adV no U U.heap ∧ rwd dC dI cI cC r0 r1 r2 r3 str tb ti tp v U.heap)) (vp_Si (fun r => r = f_R_about tb ti tp v x1)) 0 0 no := by
  refine va_MetF (cc := b_R_about) (maxL := 2) (ret := (some .int)) (by decide +kernel) rfl ?_
  intro p e s m args below meth c s₁ B hml hv
  obtain ⟨rfl, hK, hC, hw⟩ := hv
  have hx := B.exec
  have hb := B.bytes
  have hr := B.returns
  have hts := atoms_spec (ws := (Cond.code y_R_about b_R_about 2 (some .int) :: WT)) B.pre
  have hT : ∀ w ∈ WT, w.before _ s = true := fun w h => hts w (inC w h)
  have hown : s.vm.findClass R_R = some m.cls := findClass_of_methodNamed B.named
  have hlocks := B.notSynchronized
  have hS : va_S no s.heap s.heap [] := va_S.rf
  have S : CallFix p m c b_R_about 2 s _ (Cond.code y_R_about b_R_about 2 (some .int) :: WT) R_R := ⟨hx, hb, hml, hown, hts⟩
  have hl := lv_entry ([.ref r0, .int x1]) (n := 2) (Nat.le_of_ble_eq_true rfl)
  rw [lg_entry_eq]
  generalize (lg_sl ([.ref r0, .int x1]) ++ List.replicate (2 - (lg_sl ([.ref r0, .int x1])).length) Slot.unset).toArray = ls at hl ⊢
  have hl : lv_has ls 2 [(0, .ref r0), (1, .int x1)] := hl
  obtain ⟨f, n, ht0, hP⟩ := id hw
  refine lv_iload_n hx hb d_R_about_0 rfl (lv_at hl 1 rfl) ?_
  by_cases c_1 : x1 = 0
  · refine lv_tableIn (off := 31) (tgt := 32) hx hb d_R_about_1 (by rw [c_1]; decide) (by rw [c_1]; decide) (by rw [c_1]; decide) (by decide) ?_
    refine lv_aload_n hx hb d_R_about_32 rfl (lv_at hl 0 rfl) ?_
    refine va_get (D := (dC, dI)) (ci := 1) (v := .ref r2) (C := R_R) (T := F_R) (N := 5) hx hb hT i_R hown hK hP 0 rfl rfl 1 (by decide) (hT _ m_92) (fun _ h9 => h9) rfl d_R_about_33 ?_
    refine call_T_size S inC m_574 ⟨(Nat.le_of_ble_eq_true rfl), (Nat.le_of_ble_eq_true rfl)⟩ hl.1 (Nat.le_of_ble_eq_true rfl) d_R_about_36 ⟨(Nat.le_of_ble_eq_true rfl), (Nat.le_of_ble_eq_true rfl)⟩ hK.t hw.tw ?_
    exact W.iret (v := nI (min v.length 40)) hx hb hr (fun t ht hW => ⟨nI (min v.length 40), rfl, by rw [f_R_about, if_pos c_1], ht⟩) (fun _ h => by cases h) d_R_about_39
  · by_cases c_2 : x1 = 1
    · refine lv_tableIn (off := 39) (tgt := 40) hx hb d_R_about_1 (by rw [c_2]; decide) (by rw [c_2]; decide) (by rw [c_2]; decide) (by decide) ?_
      refine lv_aload_n hx hb d_R_about_40 rfl (lv_at hl 0 rfl) ?_
      refine va_get (D := (dC, dI)) (ci := 1) (v := .int tb) (C := R_R) (T := F_R) (N := 5) hx hb hT i_R hown hK hP 0 rfl rfl 2 (by decide) (hT _ m_93) (fun _ h9 => h9) rfl d_R_about_41 ?_
      exact W.iret (v := tb) hx hb hr (fun t ht hW => ⟨tb, rfl, by rw [f_R_about, if_neg c_1, if_pos c_2], ht⟩) (fun _ h => by cases h) d_R_about_44
    · by_cases c_3 : x1 = 2
      · refine lv_tableIn (off := 44) (tgt := 45) hx hb d_R_about_1 (by rw [c_3]; decide) (by rw [c_3]; decide) (by rw [c_3]; decide) (by decide) ?_
        refine lv_aload_n hx hb d_R_about_45 rfl (lv_at hl 0 rfl) ?_
        refine va_get (D := (dC, dI)) (ci := 1) (v := .int ti) (C := R_R) (T := F_R) (N := 5) hx hb hT i_R hown hK hP 0 rfl rfl 3 (by decide) (hT _ m_94) (fun _ h9 => h9) rfl d_R_about_46 ?_
        refine lv_if_eq (tgt := 56) hx hb d_R_about_49 (by decide) (fun c_4 => ?_) (fun c_4 => ?_)
        · refine lv_iconst (v := 0) hx hb d_R_about_56 (by decide) ?_
          exact W.iret (v := 0) hx hb hr (fun t ht hW => ⟨0, rfl, by rw [f_R_about, if_neg c_1, if_neg c_2, if_pos c_3, if_pos c_4], ht⟩) (fun _ h => by cases h) d_R_about_57
        · refine lv_iconst (v := 1) hx hb d_R_about_52 (by decide) ?_
          refine lv_goto (tgt := 57) hx hb d_R_about_53 (by decide) ?_
          exact W.iret (v := 1) hx hb hr (fun t ht hW => ⟨1, rfl, by rw [f_R_about, if_neg c_1, if_neg c_2, if_pos c_3, if_neg c_4], ht⟩) (fun _ h => by cases h) d_R_about_57
      · by_cases c_5 : x1 = 3
        · refine lv_tableIn (off := 57) (tgt := 58) hx hb d_R_about_1 (by rw [c_5]; decide) (by rw [c_5]; decide) (by rw [c_5]; decide) (by decide) ?_
          refine lv_aload_n hx hb d_R_about_58 rfl (lv_at hl 0 rfl) ?_
          refine va_get (D := (dC, dI)) (ci := 1) (v := .int tp) (C := R_R) (T := F_R) (N := 5) hx hb hT i_R hown hK hP 0 rfl rfl 4 (by decide) (hT _ m_95) (fun _ h9 => h9) rfl d_R_about_59 ?_
          exact W.iret (v := tp) hx hb hr (fun t ht hW => ⟨tp, rfl, by rw [f_R_about, if_neg c_1, if_neg c_2, if_neg c_3, if_pos c_5], ht⟩) (fun _ h => by cases h) d_R_about_62
        · refine lv_tableOut (tgt := 63) hx hb d_R_about_1 (by have n0 := lv_neT c_1 (show (0 : Int32).toInt = 0 by decide); have n1 := lv_neT c_2 (show (1 : Int32).toInt = 1 by decide); have n2 := lv_neT c_3 (show (2 : Int32).toInt = 2 by decide); have n3 := lv_neT c_5 (show (3 : Int32).toInt = 3 by decide); omega) (by decide) ?_
          refine lv_iconst (v := (-1)) hx hb d_R_about_63 (by decide) ?_
          exact W.iret (v := (-1)) hx hb hr (fun t ht hW => ⟨(-1), rfl, by rw [f_R_about, if_neg c_1, if_neg c_2, if_neg c_3, if_neg c_5], ht⟩) (fun _ h => by cases h) d_R_about_64
theorem call_R_about {p : Program} {l : Launch} {e : Env} {R : Room} {s : State} {m : MethodId} {args : Array Value} {below : List Frame} {meth : Method} {c : Code} {H : Heap} {locs : List Loc} {cells slots : Nat} {Q : State → Prop} {cc : ByteArray} {pc nL idx : Nat} {ls : Array Slot} {rest : List Value} {Ts : List Cond} {own : String} {adE adK adV : Nat → Nat} {A0 : Nat → Prop} {dC : Nat → ClassId} {dI : Nat → Nat → Nat} {cI cC : ClassId} {r0 r1 r2 r3 : Nat} {str : Nat → Int32} {tb ti tp : Int32} {v : List Int32} {x1 : Int32} (S : CallFix p m c cc nL s args Ts own) (hTs : ∀ w ∈ WT, w ∈ Ts) (hlk : Cond.methodLink own idx y_R_about ∈ WT) (hR : 1 + 1 ≤ R.frames ∧ 8 + (2 + 11) + 20 ≤ R.locals) (hsz : ls.size = nL) (hrm : (rest.map fun v => v.category).sum ≤ 8) (hdg : decode cc pc = .ok (.invokevirtual idx, 3)) (hc : cells ≤ R.cells ∧ slots ≤ R.slots) (hK : rK dC dI cI cC s) (hC : cx adE adK adV A0 s s.heap) (hS : va_S A0 s.heap H locs) (hw : rwd dC dI cI cC r0 r1 r2 r3 str tb ti tp v H) (kk : W p l e R s m args below meth c H locs cells slots Q (F0 m (pc + 3) ls (.int (f_R_about tb ti tp v x1) :: rest))) : W p l e R s m args below meth c H locs cells slots Q (F0 m pc ls (.int x1 :: .ref r0 :: rest)) :=
  vp_callSi (va_Run.run (va_runV (As := [.int x1]) (rest := rest) S (c_R_about l adE adK adV dC dI cI cC r0 r1 r2 r3 str tb ti tp v x1) (cwV 1 S.2.2.2.2 (gV hTs hlk m_580 m_581 m_50 m_582) rfl rfl rfl (by decide +kernel) hR) ⟨fun a U g mk q => ⟨q.1, va_K.moved (u := U) (U := U.calling g mk a) (Vm.Alike.refl U.vm) q.2.1, q.2.2.1.blind, q.2.2.2⟩, rwd.recv hK hw, fun U hU hW => ⟨rfl, va_K.moved hW.alike hK, hC.at hS no_in hU hW, by rw [hU]; exact hw⟩⟩ rfl rfl hsz rfl (lv_room hrm) hdg hc)) (fun r e => by subst e; exact kk)

set_option maxRecDepth 100000 in
set_option maxHeartbeats 4000000 in
theorem c_R_demandAddress (l : Launch) (adE adK adV : Nat → Nat) (x0 : Int32) : Met l y_R_demandAddress (Cond.code y_R_demandAddress b_R_demandAddress 1 none :: WT) ({ frames := 1, cells := 0, slots := 0, locals := 20 }) (va_Pc [.int x0] (fun U => ¬ f_R_isAddress x0 = 0)) (va_Sv (fun _ => True)) 0 0 no := by
  refine va_MetF (cc := b_R_demandAddress) (maxL := 1) (ret := none) (by decide +kernel) rfl ?_
  intro p e s m args below meth c s₁ B hml hv
  obtain ⟨rfl, ha⟩ := hv
  have hx := B.exec
  have hb := B.bytes
  have hr := B.returns
  have hts := atoms_spec (ws := (Cond.code y_R_demandAddress b_R_demandAddress 1 none :: WT)) B.pre
  have hT : ∀ w ∈ WT, w.before _ s = true := fun w h => hts w (inC w h)
  have hown : s.vm.findClass R_R = some m.cls := findClass_of_methodNamed B.named
  have hlocks := B.notSynchronized
  have hS : va_S no s.heap s.heap [] := va_S.rf
  have S : CallFix p m c b_R_demandAddress 1 s _ (Cond.code y_R_demandAddress b_R_demandAddress 1 none :: WT) R_R := ⟨hx, hb, hml, hown, hts⟩
  have hl := lv_entry ([.int x0]) (n := 1) (Nat.le_of_ble_eq_true rfl)
  rw [lg_entry_eq]
  generalize (lg_sl ([.int x0]) ++ List.replicate (1 - (lg_sl ([.int x0])).length) Slot.unset).toArray = ls at hl ⊢
  have hl : lv_has ls 1 [(0, .int x0)] := hl
  refine lv_iload_n hx hb d_R_demandAddress_0 rfl (lv_at hl 0 rfl) ?_
  refine call_R_isAddress S inC m_671 ⟨(Nat.le_of_ble_eq_true rfl), (Nat.le_of_ble_eq_true rfl)⟩ hl.1 (Nat.le_of_ble_eq_true rfl) d_R_demandAddress_1 ⟨(Nat.le_of_ble_eq_true rfl), (Nat.le_of_ble_eq_true rfl)⟩ ?_
  refine lv_if_ne (tgt := 17) hx hb d_R_demandAddress_4 (by decide) (fun _ => ?_) (fun h => absurd h ha)
  exact W.vret hx hb hr (fun t ht hW => ⟨rfl, trivial, ht⟩) (fun _ h => by cases h) d_R_demandAddress_17

theorem call_R_demandAddress {p : Program} {l : Launch} {e : Env} {R : Room} {s : State} {m : MethodId} {args : Array Value} {below : List Frame} {meth : Method} {c : Code} {H : Heap} {locs : List Loc} {cells slots : Nat} {Q : State → Prop} {cc : ByteArray} {pc nL idx : Nat} {ls : Array Slot} {rest : List Value} {Ts : List Cond} {own : String} {x0 : Int32} (S : CallFix p m c cc nL s args Ts own) (hTs : ∀ w ∈ WT, w ∈ Ts) (hlk : Cond.methodLink own idx y_R_demandAddress ∈ WT) (hR : 1 + 1 ≤ R.frames ∧ 8 + (1 + 11) + 20 ≤ R.locals) (hsz : ls.size = nL) (hrm : (rest.map fun v => v.category).sum ≤ 8) (hdg : decode cc pc = .ok (.invokestatic idx, 3)) (hc : cells ≤ R.cells ∧ slots ≤ R.slots) (ha : ¬ f_R_isAddress x0 = 0) (kk : W p l e R s m args below meth c H locs cells slots Q (F0 m (pc + 3) ls (rest))) : W p l e R s m args below meth c H locs cells slots Q (F0 m pc ls (.int x0 :: rest)) :=
  va_csv (va_Run.run (va_runS (As := [.int x0]) (rest := rest) S (c_R_demandAddress l (fun _ => 0) (fun _ => 0) (fun _ => 0) x0) (va_cwS 1 S.2.2.2.2 (gS hTs hlk m_669 m_50 m_670) rfl rfl rfl (by decide +kernel) hR) ⟨fun a U g mk q => q, fun U hU hW => ⟨rfl, ha⟩⟩ rfl rfl hsz rfl (lv_room hrm) hdg hc)) (fun _ => kk)

theorem tx_nar {f : Nat → Int32} {n : Int32} {v : List Int32} (h : tx f n v) {j : Nat} (hj : j < min v.length 40) : narrow .char (.int (v.getD j 0)) = .int (v.getD j 0) := nar_of (h.2.2 _ (getD_mem (by omega)))

set_option maxRecDepth 100000 in
set_option maxHeartbeats 4000000 in
theorem c_R_letter (l : Launch) (adE adK adV : Nat → Nat) (dC : Nat → ClassId) (dI : Nat → Nat → Nat) (cI cC : ClassId) (r0 r1 r2 r3 : Nat) (str : Nat → Int32) (tb ti tp : Int32) (v : List Int32) (j : Nat) : Met l y_R_letter (Cond.code y_R_letter b_R_letter 2 (some .char) :: WT) ({ frames := 1, cells := 0, slots := 0, locals := 21 }) (va_Pc [.ref r0, .int (nI j)] (fun U => rK dC dI cI cC U ∧ cx adE adK adV no U U.heap ∧ rwd dC dI cI cC r0 r1 r2 r3 str tb ti tp v U.heap ∧ j < min v.length 40)) (vp_Si (fun r => r = v.getD j 0)) 0 0 no := by
  refine va_MetF (cc := b_R_letter) (maxL := 2) (ret := (some .char)) (by decide +kernel) rfl ?_
  intro p e s m args below meth c s₁ B hml hv
  obtain ⟨rfl, hK, hC, hw, hj⟩ := hv
  have hx := B.exec
  have hb := B.bytes
  have hr := B.returns
  have hts := atoms_spec (ws := (Cond.code y_R_letter b_R_letter 2 (some .char) :: WT)) B.pre
  have hT : ∀ w ∈ WT, w.before _ s = true := fun w h => hts w (inC w h)
  have hown : s.vm.findClass R_R = some m.cls := findClass_of_methodNamed B.named
  have hlocks := B.notSynchronized
  have hS : va_S no s.heap s.heap [] := va_S.rf
  have S : CallFix p m c b_R_letter 2 s _ (Cond.code y_R_letter b_R_letter 2 (some .char) :: WT) R_R := ⟨hx, hb, hml, hown, hts⟩
  have hl := lv_entry ([.ref r0, .int (nI j)]) (n := 2) (Nat.le_of_ble_eq_true rfl)
  rw [lg_entry_eq]
  generalize (lg_sl ([.ref r0, .int (nI j)]) ++ List.replicate (2 - (lg_sl ([.ref r0, .int (nI j)])).length) Slot.unset).toArray = ls at hl ⊢
  have hl : lv_has ls 2 [(0, .ref r0), (1, .int (nI j))] := hl
  obtain ⟨f, n, ht0, hP⟩ := id hw
  have e : f_T_character v (nI j) = v.getD j 0 := by rw [f_T_character, if_neg (nI_pos (by omega)), if_neg (nI_ge hj (by omega)), nI_clamp (by omega)]
  refine lv_iload_n hx hb d_R_letter_0 rfl (lv_at hl 1 rfl) ?_
  refine lv_if_lt (tgt := 15) hx hb d_R_letter_1 (by decide) (fun h => absurd h (nI_pos (by omega))) (fun _ => ?_)
  refine lv_iload_n hx hb d_R_letter_4 rfl (lv_at hl 1 rfl) ?_
  refine lv_aload_n hx hb d_R_letter_5 rfl (lv_at hl 0 rfl) ?_
  refine va_get (D := (dC, dI)) (ci := 1) (v := .ref r2) (C := R_R) (T := F_R) (N := 5) hx hb hT i_R hown hK hP 0 rfl rfl 1 (by decide) (hT _ m_92) (fun _ h9 => h9) rfl d_R_letter_6 ?_
  refine call_T_size S inC m_574 ⟨(Nat.le_of_ble_eq_true rfl), (Nat.le_of_ble_eq_true rfl)⟩ hl.1 (Nat.le_of_ble_eq_true rfl) d_R_letter_9 ⟨(Nat.le_of_ble_eq_true rfl), (Nat.le_of_ble_eq_true rfl)⟩ hK.t hw.tw ?_
  refine lv_icmp_lt (tgt := 25) hx hb d_R_letter_12 (by decide) (fun _ => ?_) (fun h => absurd (nI_lt hj (by omega)) h)
  refine lv_aload_n hx hb d_R_letter_25 rfl (lv_at hl 0 rfl) ?_
  refine va_get (D := (dC, dI)) (ci := 1) (v := .ref r2) (C := R_R) (T := F_R) (N := 5) hx hb hT i_R hown hK hP 0 rfl rfl 1 (by decide) (hT _ m_92) (fun _ h9 => h9) rfl d_R_letter_26 ?_
  refine lv_iload_n hx hb d_R_letter_29 rfl (lv_at hl 1 rfl) ?_
  refine call_T_character S inC m_657 ⟨(Nat.le_of_ble_eq_true rfl), (Nat.le_of_ble_eq_true rfl)⟩ hl.1 (Nat.le_of_ble_eq_true rfl) d_R_letter_30 ⟨(Nat.le_of_ble_eq_true rfl), (Nat.le_of_ble_eq_true rfl)⟩ hK.t hw.tw ?_
  exact W.zret (v := f_T_character v (nI j)) hx hb hr (by rw [e]; exact tx_nar ht0 hj) (fun t ht hW => ⟨_, rfl, e, ht⟩) (fun _ h => by cases h) d_R_letter_33

theorem call_R_letter {p : Program} {l : Launch} {e : Env} {R : Room} {s : State} {m : MethodId} {args : Array Value} {below : List Frame} {meth : Method} {c : Code} {H : Heap} {locs : List Loc} {cells slots : Nat} {Q : State → Prop} {cc : ByteArray} {pc nL idx : Nat} {ls : Array Slot} {rest : List Value} {Ts : List Cond} {own : String} {adE adK adV : Nat → Nat} {A0 : Nat → Prop} {dC : Nat → ClassId} {dI : Nat → Nat → Nat} {cI cC : ClassId} {r0 r1 r2 r3 : Nat} {str : Nat → Int32} {tb ti tp : Int32} {v : List Int32} {j : Nat} (S : CallFix p m c cc nL s args Ts own) (hTs : ∀ w ∈ WT, w ∈ Ts) (hlk : Cond.methodLink own idx y_R_letter ∈ WT) (hR : 1 + 1 ≤ R.frames ∧ 8 + (2 + 11) + 21 ≤ R.locals) (hsz : ls.size = nL) (hrm : (rest.map fun v => v.category).sum ≤ 8) (hdg : decode cc pc = .ok (.invokevirtual idx, 3)) (hc : cells ≤ R.cells ∧ slots ≤ R.slots) (hK : rK dC dI cI cC s) (hC : cx adE adK adV A0 s s.heap) (hS : va_S A0 s.heap H locs) (hw : rwd dC dI cI cC r0 r1 r2 r3 str tb ti tp v H) (hj : j < min v.length 40) (kk : W p l e R s m args below meth c H locs cells slots Q (F0 m (pc + 3) ls (.int (v.getD j 0) :: rest))) : W p l e R s m args below meth c H locs cells slots Q (F0 m pc ls (.int (nI j) :: .ref r0 :: rest)) :=
  vp_callSi (va_Run.run (va_runV (As := [.int (nI j)]) (rest := rest) S (c_R_letter l adE adK adV dC dI cI cC r0 r1 r2 r3 str tb ti tp v j) (cwV 1 S.2.2.2.2 (gV hTs hlk m_588 m_589 m_50 m_590) rfl rfl rfl (by decide +kernel) hR) ⟨fun a U g mk q => ⟨q.1, va_K.moved (u := U) (U := U.calling g mk a) (Vm.Alike.refl U.vm) q.2.1, q.2.2.1.blind, q.2.2.2.1, q.2.2.2.2⟩, rwd.recv hK hw, fun U hU hW => ⟨rfl, va_K.moved hW.alike hK, hC.at hS no_in hU hW, by rw [hU]; exact hw, hj⟩⟩ rfl rfl hsz rfl (lv_room hrm) hdg hc)) (fun r e => by subst e; exact kk)
