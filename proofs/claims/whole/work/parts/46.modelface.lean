def mtp (dC : Nat → ClassId) (dI : Nat → Nat → Nat) (cI cC : ClassId) (m0 mt ms mr mk : Nat) (th yb : Int32) (str : Nat → Int32) (st : MT) (H : Heap) : Prop := ∃ (bi d a b f : Int32) (fk : Nat → Int32), mOk d a b ∧ mwd dC dI cI cC m0 mt ms mr mk th yb bi d a b f str fk st H
theorem mtp_at {dC : Nat → ClassId} {dI : Nat → Nat → Nat} {cI cC : ClassId} {m0 mt ms mr mk : Nat} {th yb : Int32} {str : Nat → Int32} {st : MT} {H : Heap} {t : State} (ht : t.heap = H) (h : mtp dC dI cI cC m0 mt ms mr mk th yb str st H) : mtp dC dI cI cC m0 mt ms mr mk th yb str st t.heap := by rw [ht]; exact h
def rf (x : Int32) : Int32 := if x < 0 then 1 else if x ≤ 255 then 0 else 1
theorem rf_in {h : Nat} (hh : h < 256) : rf (nI h) = 0 := by rw [rf, if_neg (nI_pos (by omega)), if_pos (show nI h ≤ (255 : Int32) from nI_le (b := 255) (by omega) (by omega))]
def tkM (str : Nat → Int32) (h : Nat) : Int32 := if nI (bt str h) = 2 then str h ||| (str (h + 1) <<< ((8 : Int32) &&& 31)) else ((str h ||| (str (h + 1) <<< ((8 : Int32) &&& 31))) ||| (str (h + 2) <<< ((16 : Int32) &&& 31))) ||| (str (h + 3) <<< ((24 : Int32) &&& 31))
def abM (v : List Int32) (yb ln op x : Int32) : Int32 := if x = 0 then nI v.length else if x = 1 then yb else if x = 2 then (if ln = 0 then 0 else 1) else if x = 3 then op else -1

set_option maxRecDepth 100000 in
set_option maxHeartbeats 4000000 in
theorem c_M_thrown (l : Launch) (adE adK adV : Nat → Nat) (dC : Nat → ClassId) (dI : Nat → Nat → Nat) (cI cC : ClassId) (m0 mt ms mr mk : Nat) (th yb bi d a b f : Int32) (str fk : Nat → Int32) (st : MT) : Met l y_M_thrown (Cond.code y_M_thrown b_M_thrown 1 (some .int) :: WT) ({ frames := 0, cells := 0, slots := 0, locals := 0 }) (va_Pc [.ref m0] (fun U => rK dC dI cI cC U ∧ mwd dC dI cI cC m0 mt ms mr mk th yb bi d a b f str fk st U.heap)) (vp_Si (fun r => r = th)) 0 0 no := by
  refine va_MetF (cc := b_M_thrown) (maxL := 1) (ret := (some .int)) (by decide +kernel) rfl ?_
  intro p e s m args below meth c s₁ B hml hv
  obtain ⟨rfl, hK, hw⟩ := hv
  have hx := B.exec
  have hb := B.bytes
  have hr := B.returns
  have hts := atoms_spec (ws := (Cond.code y_M_thrown b_M_thrown 1 (some .int) :: WT)) B.pre
  have hT : ∀ w ∈ WT, w.before _ s = true := fun w h => hts w (inC w h)
  have hown : s.vm.findClass R_M = some m.cls := findClass_of_methodNamed B.named
  have hlocks := B.notSynchronized
  have hS : va_S no s.heap s.heap [] := va_S.rf
  have S : CallFix p m c b_M_thrown 1 s _ (Cond.code y_M_thrown b_M_thrown 1 (some .int) :: WT) R_M := ⟨hx, hb, hml, hown, hts⟩
  have hl := lv_entry ([.ref m0]) (n := 1) (Nat.le_of_ble_eq_true rfl)
  rw [lg_entry_eq]
  generalize (lg_sl ([.ref m0]) ++ List.replicate (1 - (lg_sl ([.ref m0])).length) Slot.unset).toArray = ls at hl ⊢
  have hl : lv_has ls 1 [(0, .ref m0)] := hl
  obtain ⟨rg, ft, h1, h2, hP⟩ := hw
  refine lv_aload_n hx hb d_M_thrown_0 rfl (lv_at hl 0 rfl) ?_
  refine va_get (D := (dC, dI)) (ci := 2) (v := .int th) (C := R_M) (T := F_M) (N := 14) hx hb hT i_M hown hK hP 0 rfl rfl 0 (by decide) (hT _ m_753) (fun _ h9 => h9) rfl d_M_thrown_1 ?_
  exact W.iret (v := th) hx hb hr (fun t ht hW => ⟨_, rfl, rfl, ht⟩) (fun _ h => by cases h) d_M_thrown_4

theorem call_M_thrown {p : Program} {l : Launch} {e : Env} {R : Room} {s : State} {m : MethodId} {args : Array Value} {below : List Frame} {meth : Method} {c : Code} {H : Heap} {locs : List Loc} {cells slots : Nat} {Q : State → Prop} {cc : ByteArray} {pc nL idx : Nat} {ls : Array Slot} {rest : List Value} {Ts : List Cond} {own : String} {dC : Nat → ClassId} {dI : Nat → Nat → Nat} {cI cC : ClassId} {m0 mt ms mr mk : Nat} {th yb bi d a b f : Int32} {str fk : Nat → Int32} {st : MT} (S : CallFix p m c cc nL s args Ts own) (hTs : ∀ w ∈ WT, w ∈ Ts) (hlk : Cond.methodLink own idx y_M_thrown ∈ WT) (hR : 0 + 1 ≤ R.frames ∧ 8 + (1 + 11) + 0 ≤ R.locals) (hsz : ls.size = nL) (hrm : (rest.map fun v => v.category).sum ≤ 8) (hdg : decode cc pc = .ok (.invokevirtual idx, 3)) (hc : cells ≤ R.cells ∧ slots ≤ R.slots) (hK : rK dC dI cI cC s) (hw : mwd dC dI cI cC m0 mt ms mr mk th yb bi d a b f str fk st H) (kk : W p l e R s m args below meth c H locs cells slots Q (F0 m (pc + 3) ls (.int th :: rest))) : W p l e R s m args below meth c H locs cells slots Q (F0 m pc ls (.ref m0 :: rest)) :=
  vp_callSi (va_Run.run (va_runV (As := []) (rest := rest) S (c_M_thrown l (fun _ => 0) (fun _ => 0) (fun _ => 0) dC dI cI cC m0 mt ms mr mk th yb bi d a b f str fk st) (cwV 0 S.2.2.2.2 (gV hTs hlk m_797 m_798 m_52 m_799) rfl rfl rfl (by decide +kernel) hR) ⟨fun a U g mk q => ⟨q.1, va_K.moved (u := U) (U := U.calling g mk a) (Vm.Alike.refl U.vm) q.2.1, q.2.2⟩, mwd.recv hK hw, fun U hU hW => ⟨rfl, va_K.moved hW.alike hK, by rw [hU]; exact hw⟩⟩ rfl rfl hsz rfl (lv_room hrm) hdg hc)) (fun r e => by subst e; exact kk)

set_option maxRecDepth 100000 in
set_option maxHeartbeats 4000000 in
theorem c_M_refuses (l : Launch) (dC : Nat → ClassId) (dI : Nat → Nat → Nat) (cI cC : ClassId) (m0 mt ms mr mk : Nat) (th yb bi d a b f : Int32) (str fk : Nat → Int32) (st : MT) (x : Int32) : Met l y_M_refuses (Cond.code y_M_refuses b_M_refuses 2 (some .boolean) :: WT) ({ frames := 0, cells := 0, slots := 0, locals := 0 }) (va_Pc [.ref m0, .int x] (fun U => mU dC dI cI cC m0 mt ms mr mk th yb bi d a b f str fk st U)) (va_Qi (fun (r : Int32) (_ : Unit) => r = rf x) (fun _ t => mwd dC dI cI cC m0 mt ms mr mk (rf x) yb bi d a b f str fk st t.heap) (aM m0 mt ms mr mk)) 0 0 (aM m0 mt ms mr mk) := by
  refine va_MetF (cc := b_M_refuses) (maxL := 2) (ret := (some .boolean)) (by decide +kernel) rfl ?_
  intro p e s m args below meth c s₁ B hml hv
  obtain ⟨rfl, ⟨hK, ap, ok, hw⟩⟩ := hv
  have hx := B.exec
  have hb := B.bytes
  have hr := B.returns
  have hts := atoms_spec (ws := (Cond.code y_M_refuses b_M_refuses 2 (some .boolean) :: WT)) B.pre
  have hT : ∀ w ∈ WT, w.before _ s = true := fun w h => hts w (inC w h)
  have hown : s.vm.findClass R_M = some m.cls := findClass_of_methodNamed B.named
  have hlocks := B.notSynchronized
  have hS : va_S (aM m0 mt ms mr mk) s.heap s.heap [] := va_S.rf
  have S : CallFix p m c b_M_refuses 2 s _ (Cond.code y_M_refuses b_M_refuses 2 (some .boolean) :: WT) R_M := ⟨hx, hb, hml, hown, hts⟩
  have hl := lv_entry ([.ref m0, .int x]) (n := 2) (Nat.le_of_ble_eq_true rfl)
  rw [lg_entry_eq]
  generalize (lg_sl ([.ref m0, .int x]) ++ List.replicate (2 - (lg_sl ([.ref m0, .int x])).length) Slot.unset).toArray = ls at hl ⊢
  have hl : lv_has ls 2 [(0, .ref m0), (1, .int x)] := hl
  have hA : ∀ q, aM m0 mt ms mr mk q → aM m0 mt ms mr mk q := fun _ h => h
  obtain ⟨rg, ft, h1, h2, hP⟩ := hw
  have hD := wM_D ap hA (cI := cI) (cC := cC) (th := th) (yb := yb) (bi := bi) (d := d) (a := a) (b := b) (f := f) (op := (st).1) (ln := (st).2.1) (sz := nI (st).2.2.length) (str := str) (rg := rg) (ft := ft) (fk := fk)
  refine lv_aload_n hx hb d_M_refuses_0 rfl (lv_at hl 0 rfl) ?_
  refine lv_iload_n hx hb d_M_refuses_1 rfl (lv_at hl 1 rfl) ?_
  refine lv_if_lt (tgt := 12) hx hb d_M_refuses_2 (by decide) (fun h => ?_) (fun h => ?_)
  · refine lv_iconst (v := 1) hx hb d_M_refuses_12 (by decide) ?_
    refine lv_goto (tgt := 17) hx hb d_M_refuses_13 (by decide) ?_
    refine va_put (D := (dC, dI)) (ci := 2) (v := .int 1) (ty := .int) (C := R_M) (T := F_M) (N := 14) hx hb hT i_M ft_M ft_M_ok n_M hown hK hP hD hS 0 rfl rfl 0 (by decide) (hT _ m_753) (fun _ h9 => h9) rfl (by decide +kernel) rfl rfl (Nat.le_of_ble_eq_true rfl) d_M_refuses_17 (fun H locs hP hD hS => ?_)
    refine lv_aload_n hx hb d_M_refuses_20 rfl (lv_at hl 0 rfl) ?_
    refine va_get (D := (dC, dI)) (ci := 2) (v := .int 1) (C := R_M) (T := F_M) (N := 14) hx hb hT i_M hown hK hP 0 rfl rfl 0 (by decide) (hT _ m_753) (fun _ h9 => h9) rfl d_M_refuses_21 ?_
    refine lv_if_le (tgt := 31) hx hb d_M_refuses_24 (by decide) (fun q => absurd q (by decide)) (fun _ => ?_)
    refine lv_iconst (v := 1) hx hb d_M_refuses_27 (by decide) ?_
    refine lv_goto (tgt := 32) hx hb d_M_refuses_28 (by decide) ?_
    have e : rf x = 1 := by rw [rf, if_pos h]
    exact W.zret (v := 1) hx hb hr rfl (fun t ht hW => ⟨⟨_, (), rfl, e.symm, mwd_at ht (by rw [e]; exact ⟨rg, ft, h1, h2, hP⟩)⟩, hS.F ht⟩) hS.2.2 d_M_refuses_32
  · refine lv_iload_n hx hb d_M_refuses_5 rfl (lv_at hl 1 rfl) ?_
    refine lv_sipush (v := 255) hx hb d_M_refuses_6 (by decide) ?_
    refine lv_icmp_le (tgt := 16) hx hb d_M_refuses_9 (by decide) (fun h3 => ?_) (fun h3 => ?_)
    · refine lv_iconst (v := 0) hx hb d_M_refuses_16 (by decide) ?_
      refine va_put (D := (dC, dI)) (ci := 2) (v := .int 0) (ty := .int) (C := R_M) (T := F_M) (N := 14) hx hb hT i_M ft_M ft_M_ok n_M hown hK hP hD hS 0 rfl rfl 0 (by decide) (hT _ m_753) (fun _ h9 => h9) rfl (by decide +kernel) rfl rfl (Nat.le_of_ble_eq_true rfl) d_M_refuses_17 (fun H locs hP hD hS => ?_)
      refine lv_aload_n hx hb d_M_refuses_20 rfl (lv_at hl 0 rfl) ?_
      refine va_get (D := (dC, dI)) (ci := 2) (v := .int 0) (C := R_M) (T := F_M) (N := 14) hx hb hT i_M hown hK hP 0 rfl rfl 0 (by decide) (hT _ m_753) (fun _ h9 => h9) rfl d_M_refuses_21 ?_
      refine lv_if_le (tgt := 31) hx hb d_M_refuses_24 (by decide) (fun _ => ?_) (fun q => absurd (by decide) q)
      refine lv_iconst (v := 0) hx hb d_M_refuses_31 (by decide) ?_
      have e : rf x = 0 := by rw [rf, if_neg h, if_pos h3]
      exact W.zret (v := 0) hx hb hr rfl (fun t ht hW => ⟨⟨_, (), rfl, e.symm, mwd_at ht (by rw [e]; exact ⟨rg, ft, h1, h2, hP⟩)⟩, hS.F ht⟩) hS.2.2 d_M_refuses_32
    · refine lv_iconst (v := 1) hx hb d_M_refuses_12 (by decide) ?_
      refine lv_goto (tgt := 17) hx hb d_M_refuses_13 (by decide) ?_
      refine va_put (D := (dC, dI)) (ci := 2) (v := .int 1) (ty := .int) (C := R_M) (T := F_M) (N := 14) hx hb hT i_M ft_M ft_M_ok n_M hown hK hP hD hS 0 rfl rfl 0 (by decide) (hT _ m_753) (fun _ h9 => h9) rfl (by decide +kernel) rfl rfl (Nat.le_of_ble_eq_true rfl) d_M_refuses_17 (fun H locs hP hD hS => ?_)
      refine lv_aload_n hx hb d_M_refuses_20 rfl (lv_at hl 0 rfl) ?_
      refine va_get (D := (dC, dI)) (ci := 2) (v := .int 1) (C := R_M) (T := F_M) (N := 14) hx hb hT i_M hown hK hP 0 rfl rfl 0 (by decide) (hT _ m_753) (fun _ h9 => h9) rfl d_M_refuses_21 ?_
      refine lv_if_le (tgt := 31) hx hb d_M_refuses_24 (by decide) (fun q => absurd q (by decide)) (fun _ => ?_)
      refine lv_iconst (v := 1) hx hb d_M_refuses_27 (by decide) ?_
      refine lv_goto (tgt := 32) hx hb d_M_refuses_28 (by decide) ?_
      have e : rf x = 1 := by rw [rf, if_neg h, if_neg h3]
      exact W.zret (v := 1) hx hb hr rfl (fun t ht hW => ⟨⟨_, (), rfl, e.symm, mwd_at ht (by rw [e]; exact ⟨rg, ft, h1, h2, hP⟩)⟩, hS.F ht⟩) hS.2.2 d_M_refuses_32

theorem call_M_refuses {p : Program} {l : Launch} {e : Env} {R : Room} {s : State} {m : MethodId} {args : Array Value} {below : List Frame} {meth : Method} {c : Code} {H : Heap} {locs : List Loc} {cells slots : Nat} {Q : State → Prop} {cc : ByteArray} {pc nL idx : Nat} {ls : Array Slot} {rest : List Value} {Ts : List Cond} {own : String} {A0 : Nat → Prop} {H0 : Heap} {dC : Nat → ClassId} {dI : Nat → Nat → Nat} {cI cC : ClassId} {m0 mt ms mr mk : Nat} {th yb bi d a b f : Int32} {str fk : Nat → Int32} {st : MT} {x : Int32} (S : CallFix p m c cc nL s args Ts own) (hTs : ∀ w ∈ WT, w ∈ Ts) (hlk : Cond.methodLink own idx y_M_refuses ∈ WT) (hR : 0 + 1 ≤ R.frames ∧ 8 + (2 + 11) + 0 ≤ R.locals) (hsz : ls.size = nL) (hrm : (rest.map fun v => v.category).sum ≤ 8) (hdg : decode cc pc = .ok (.invokevirtual idx, 3)) (hc : cells ≤ R.cells ∧ slots ≤ R.slots) (hK : rK dC dI cI cC s) (ap : apM m0 mt ms mr mk) (ok : mOk d a b) (hS : va_S A0 H0 H locs) (hA : ∀ q, aM m0 mt ms mr mk q → A0 q) (hw : mwd dC dI cI cC m0 mt ms mr mk th yb bi d a b f str fk st H)  (kk : ∀ (H1 : Heap) (locs1 : List Loc), mwd dC dI cI cC m0 mt ms mr mk (rf x) yb bi d a b f str fk st H1 → va_S A0 H0 H1 locs1 → (H.size ≤ H1.size ∧ ∀ q : Nat, q < H.size → ¬ aM m0 mt ms mr mk q → H1[q]? = H[q]?) → W p l e R s m args below meth c H1 locs1 cells slots Q (F0 m (pc + 3) ls (.int (rf x) :: rest))) : W p l e R s m args below meth c H locs cells slots Q (F0 m pc ls (.int x :: .ref m0 :: rest)) :=
  va_calli (va_runV (As := [.int x]) (rest := rest) S (c_M_refuses l dC dI cI cC m0 mt ms mr mk th yb bi d a b f str fk st x) (cwV 1 S.2.2.2.2 (gV hTs hlk m_1042 m_46 m_52 m_1043) rfl rfl rfl (by decide +kernel) hR) ⟨fun a U g mk q => ⟨q.1, q.2.blind⟩, mwd.recv hK hw, fun U hU hW => ⟨rfl, mU.at hK ap ok hw hU hW⟩⟩ rfl rfl hsz rfl (lv_room hrm) hdg hc) hS (fun q _ h => hA q h) hA (fun r u t H1 locs1 ht hvm hp hB hz hk hS1 => by subst hp; exact kk H1 locs1 (by rw [← ht]; exact hB) hS1 ⟨hz, hk⟩)

set_option maxRecDepth 100000 in
set_option maxHeartbeats 4000000 in
theorem c_M_long4 (l : Launch) (adE adK adV : Nat → Nat) (dC : Nat → ClassId) (dI : Nat → Nat → Nat) (cI cC : ClassId) (m0 mt ms mr mk : Nat) (th yb bi d a b f : Int32) (str fk : Nat → Int32) (st : MT) (h : Nat) : Met l y_M_long4 (Cond.code y_M_long4 b_M_long4 2 (some .int) :: WT) ({ frames := 0, cells := 0, slots := 0, locals := 0 }) (va_Pc [.ref m0, .int (nI h)] (fun U => rK dC dI cI cC U ∧ mwd dC dI cI cC m0 mt ms mr mk th yb bi d a b f str fk st U.heap ∧ h < 256)) (vp_Si (fun r => r = nI (bt str h))) 0 0 no := by
  refine va_MetF (cc := b_M_long4) (maxL := 2) (ret := (some .int)) (by decide +kernel) rfl ?_
  intro p e s m args below meth c s₁ B hml hv
  obtain ⟨rfl, hK, hw, hh⟩ := hv
  have hx := B.exec
  have hb := B.bytes
  have hr := B.returns
  have hts := atoms_spec (ws := (Cond.code y_M_long4 b_M_long4 2 (some .int) :: WT)) B.pre
  have hT : ∀ w ∈ WT, w.before _ s = true := fun w h => hts w (inC w h)
  have hown : s.vm.findClass R_M = some m.cls := findClass_of_methodNamed B.named
  have hlocks := B.notSynchronized
  have hS : va_S no s.heap s.heap [] := va_S.rf
  have S : CallFix p m c b_M_long4 2 s _ (Cond.code y_M_long4 b_M_long4 2 (some .int) :: WT) R_M := ⟨hx, hb, hml, hown, hts⟩
  have hl := lv_entry ([.ref m0, .int (nI h)]) (n := 2) (Nat.le_of_ble_eq_true rfl)
  rw [lg_entry_eq]
  generalize (lg_sl ([.ref m0, .int (nI h)]) ++ List.replicate (2 - (lg_sl ([.ref m0, .int (nI h)])).length) Slot.unset).toArray = ls at hl ⊢
  have hl : lv_has ls 2 [(0, .ref m0), (1, .int (nI h))] := hl
  obtain ⟨rg, ft, h1, h2, hP⟩ := hw
  refine lv_aload_n hx hb d_M_long4_0 rfl (lv_at hl 0 rfl) ?_
  refine va_get (D := (dC, dI)) (ci := 2) (v := .ref ms) (C := R_M) (T := F_M) (N := 14) hx hb hT i_M hown hK hP 0 rfl rfl 6 (by decide) (hT _ m_759) (fun _ h9 => h9) rfl d_M_long4_1 ?_
  refine lv_iload_n hx hb d_M_long4_4 rfl (lv_at hl 1 rfl) ?_
  refine va_iald (D := (dC, dI)) hx hb hK hP 2 0 rfl rfl (vp_in_nI (by omega) (by omega)) d_M_long4_5 ?_
  rw [nI_clamp (by omega)]
  refine lv_iconst (v := 3) hx hb d_M_long4_6 (by decide) ?_
  refine lv_iand hx hb d_M_long4_7 ?_
  refine lv_iconst (v := 3) hx hb d_M_long4_8 (by decide) ?_
  refine lv_icmp_ne (tgt := 16) hx hb d_M_long4_9 (by decide) (fun q => ?_) (fun q => ?_)
  · refine lv_iconst (v := 2) hx hb d_M_long4_16 (by decide) ?_
    exact W.iret (v := 2) hx hb hr (fun t ht hW => ⟨_, rfl, by rw [bt, if_neg q]; rfl, ht⟩) (fun _ h => by cases h) d_M_long4_17
  · refine lv_iconst (v := 4) hx hb d_M_long4_12 (by decide) ?_
    refine lv_goto (tgt := 17) hx hb d_M_long4_13 (by decide) ?_
    exact W.iret (v := 4) hx hb hr (fun t ht hW => ⟨_, rfl, by rw [bt, if_pos q]; rfl, ht⟩) (fun _ h => by cases h) d_M_long4_17

theorem call_M_long4 {p : Program} {l : Launch} {e : Env} {R : Room} {s : State} {m : MethodId} {args : Array Value} {below : List Frame} {meth : Method} {c : Code} {H : Heap} {locs : List Loc} {cells slots : Nat} {Q : State → Prop} {cc : ByteArray} {pc nL idx : Nat} {ls : Array Slot} {rest : List Value} {Ts : List Cond} {own : String} {dC : Nat → ClassId} {dI : Nat → Nat → Nat} {cI cC : ClassId} {m0 mt ms mr mk : Nat} {th yb bi d a b f : Int32} {str fk : Nat → Int32} {st : MT} {h : Nat} (S : CallFix p m c cc nL s args Ts own) (hTs : ∀ w ∈ WT, w ∈ Ts) (hlk : Cond.methodLink own idx y_M_long4 ∈ WT) (hR : 0 + 1 ≤ R.frames ∧ 8 + (2 + 11) + 0 ≤ R.locals) (hsz : ls.size = nL) (hrm : (rest.map fun v => v.category).sum ≤ 8) (hdg : decode cc pc = .ok (.invokevirtual idx, 3)) (hc : cells ≤ R.cells ∧ slots ≤ R.slots) (hK : rK dC dI cI cC s) (hw : mwd dC dI cI cC m0 mt ms mr mk th yb bi d a b f str fk st H) (hh : h < 256) (kk : W p l e R s m args below meth c H locs cells slots Q (F0 m (pc + 3) ls (.int (nI (bt str h)) :: rest))) : W p l e R s m args below meth c H locs cells slots Q (F0 m pc ls (.int (nI h) :: .ref m0 :: rest)) :=
  vp_callSi (va_Run.run (va_runV (As := [.int (nI h)]) (rest := rest) S (c_M_long4 l (fun _ => 0) (fun _ => 0) (fun _ => 0) dC dI cI cC m0 mt ms mr mk th yb bi d a b f str fk st h) (cwV 1 S.2.2.2.2 (gV hTs hlk m_1050 m_47 m_52 m_1051) rfl rfl rfl (by decide +kernel) hR) ⟨fun a U g mk q => ⟨q.1, va_K.moved (u := U) (U := U.calling g mk a) (Vm.Alike.refl U.vm) q.2.1, q.2.2.1, q.2.2.2⟩, mwd.recv hK hw, fun U hU hW => ⟨rfl, va_K.moved hW.alike hK, by rw [hU]; exact hw, hh⟩⟩ rfl rfl hsz rfl (lv_room hrm) hdg hc)) (fun r e => by subst e; exact kk)

set_option maxRecDepth 100000 in
set_option maxHeartbeats 4000000 in
theorem c_M_take (l : Launch) (adE adK adV : Nat → Nat) (dC : Nat → ClassId) (dI : Nat → Nat → Nat) (cI cC : ClassId) (m0 mt ms mr mk : Nat) (th yb bi d a b f : Int32) (str fk : Nat → Int32) (st : MT) (h : Nat) : Met l y_M_take (Cond.code y_M_take b_M_take 3 (some .int) :: WT) ({ frames := 1, cells := 0, slots := 0, locals := 21 }) (va_Pc [.ref m0, .int (nI h)] (fun U => rK dC dI cI cC U ∧ mwd dC dI cI cC m0 mt ms mr mk th yb bi d a b f str fk st U.heap ∧ h + bt str h ≤ 256)) (vp_Si (fun r => r = tkM str h)) 0 0 no := by
  refine va_MetF (cc := b_M_take) (maxL := 3) (ret := (some .int)) (by decide +kernel) rfl ?_
  intro p e s m args below meth c s₁ B hml hv
  obtain ⟨rfl, hK, hw, hh⟩ := hv
  have hx := B.exec
  have hb := B.bytes
  have hr := B.returns
  have hts := atoms_spec (ws := (Cond.code y_M_take b_M_take 3 (some .int) :: WT)) B.pre
  have hT : ∀ w ∈ WT, w.before _ s = true := fun w h => hts w (inC w h)
  have hown : s.vm.findClass R_M = some m.cls := findClass_of_methodNamed B.named
  have hlocks := B.notSynchronized
  have hS : va_S no s.heap s.heap [] := va_S.rf
  have S : CallFix p m c b_M_take 3 s _ (Cond.code y_M_take b_M_take 3 (some .int) :: WT) R_M := ⟨hx, hb, hml, hown, hts⟩
  have hl := lv_entry ([.ref m0, .int (nI h)]) (n := 3) (Nat.le_of_ble_eq_true rfl)
  rw [lg_entry_eq]
  generalize (lg_sl ([.ref m0, .int (nI h)]) ++ List.replicate (3 - (lg_sl ([.ref m0, .int (nI h)])).length) Slot.unset).toArray = ls at hl ⊢
  have hl : lv_has ls 3 [(0, .ref m0), (1, .int (nI h))] := hl
  have hb4 := bt_24 str h
  obtain ⟨rg, ft, h1, h2, hP⟩ := id hw
  refine lv_aload_n hx hb d_M_take_0 rfl (lv_at hl 0 rfl) ?_
  refine va_get (D := (dC, dI)) (ci := 2) (v := .ref ms) (C := R_M) (T := F_M) (N := 14) hx hb hT i_M hown hK hP 0 rfl rfl 6 (by decide) (hT _ m_759) (fun _ h9 => h9) rfl d_M_take_1 ?_
  refine lv_iload_n hx hb d_M_take_4 rfl (lv_at hl 1 rfl) ?_
  refine va_iald (D := (dC, dI)) hx hb hK hP 2 0 rfl rfl (vp_in_nI (by omega) (by omega)) d_M_take_5 ?_
  rw [nI_clamp (by omega)]
  refine lv_aload_n hx hb d_M_take_6 rfl (lv_at hl 0 rfl) ?_
  refine va_get (D := (dC, dI)) (ci := 2) (v := .ref ms) (C := R_M) (T := F_M) (N := 14) hx hb hT i_M hown hK hP 0 rfl rfl 6 (by decide) (hT _ m_759) (fun _ h9 => h9) rfl d_M_take_7 ?_
  refine lv_iload_n hx hb d_M_take_10 rfl (lv_at hl 1 rfl) ?_
  refine lv_iconst (v := 1) hx hb d_M_take_11 (by decide) ?_
  refine lv_iadd hx hb d_M_take_12 ?_
  rw [show nI h + 1 = nI (h + 1) from nI_add h 1]
  refine va_iald (D := (dC, dI)) hx hb hK hP 2 0 rfl rfl (vp_in_nI (by omega) (by omega)) d_M_take_13 ?_
  rw [nI_clamp (by omega)]
  refine lv_bipush (v := 8) hx hb d_M_take_14 (by decide) ?_
  refine lv_ishl hx hb d_M_take_16 ?_
  refine lv_ior hx hb d_M_take_17 ?_
  refine lv_istore_n (lv' := [(2, .int (str h ||| (str (h + 1) <<< ((8 : Int32) &&& 31)))), (0, .ref m0), (1, .int (nI h))]) hx hb d_M_take_18 rfl hl (by decide) rfl (fun ls hl => ?_)
  refine lv_aload_n hx hb d_M_take_19 rfl (lv_at hl 1 rfl) ?_
  refine lv_iload_n hx hb d_M_take_20 rfl (lv_at hl 2 rfl) ?_
  refine call_M_long4 S inC m_1048 ⟨(Nat.le_of_ble_eq_true rfl), (Nat.le_of_ble_eq_true rfl)⟩ hl.1 (Nat.le_of_ble_eq_true rfl) d_M_take_21 ⟨(Nat.le_of_ble_eq_true rfl), (Nat.le_of_ble_eq_true rfl)⟩ hK hw (by omega) ?_
  refine lv_iconst (v := 2) hx hb d_M_take_24 (by decide) ?_
  refine lv_icmp_ne (tgt := 32) hx hb d_M_take_25 (by decide) (fun q => ?_) (fun q => ?_)
  · have h4 : bt str h = 4 := by rcases hb4 with z | z; exact absurd (by rw [z]; rfl) q; exact z
    refine lv_iload_n hx hb d_M_take_32 rfl (lv_at hl 0 rfl) ?_
    refine lv_aload_n hx hb d_M_take_33 rfl (lv_at hl 1 rfl) ?_
    refine va_get (D := (dC, dI)) (ci := 2) (v := .ref ms) (C := R_M) (T := F_M) (N := 14) hx hb hT i_M hown hK hP 0 rfl rfl 6 (by decide) (hT _ m_759) (fun _ h9 => h9) rfl d_M_take_34 ?_
    refine lv_iload_n hx hb d_M_take_37 rfl (lv_at hl 2 rfl) ?_
    refine lv_iconst (v := 2) hx hb d_M_take_38 (by decide) ?_
    refine lv_iadd hx hb d_M_take_39 ?_
    rw [show nI h + 2 = nI (h + 2) from nI_add h 2]
    refine va_iald (D := (dC, dI)) hx hb hK hP 2 0 rfl rfl (vp_in_nI (by omega) (by omega)) d_M_take_40 ?_
    rw [nI_clamp (by omega)]
    refine lv_bipush (v := 16) hx hb d_M_take_41 (by decide) ?_
    refine lv_ishl hx hb d_M_take_43 ?_
    refine lv_ior hx hb d_M_take_44 ?_
    refine lv_aload_n hx hb d_M_take_45 rfl (lv_at hl 1 rfl) ?_
    refine va_get (D := (dC, dI)) (ci := 2) (v := .ref ms) (C := R_M) (T := F_M) (N := 14) hx hb hT i_M hown hK hP 0 rfl rfl 6 (by decide) (hT _ m_759) (fun _ h9 => h9) rfl d_M_take_46 ?_
    refine lv_iload_n hx hb d_M_take_49 rfl (lv_at hl 2 rfl) ?_
    refine lv_iconst (v := 3) hx hb d_M_take_50 (by decide) ?_
    refine lv_iadd hx hb d_M_take_51 ?_
    rw [show nI h + 3 = nI (h + 3) from nI_add h 3]
    refine va_iald (D := (dC, dI)) hx hb hK hP 2 0 rfl rfl (vp_in_nI (by omega) (by omega)) d_M_take_52 ?_
    rw [nI_clamp (by omega)]
    refine lv_bipush (v := 24) hx hb d_M_take_53 (by decide) ?_
    refine lv_ishl hx hb d_M_take_55 ?_
    refine lv_ior hx hb d_M_take_56 ?_
    exact W.iret (v := ((str h ||| (str (h + 1) <<< ((8 : Int32) &&& 31))) ||| (str (h + 2) <<< ((16 : Int32) &&& 31))) ||| (str (h + 3) <<< ((24 : Int32) &&& 31))) hx hb hr (fun t ht hW => ⟨_, rfl, by rw [tkM, if_neg q], ht⟩) (fun _ h => by cases h) d_M_take_57
  · refine lv_iload_n hx hb d_M_take_28 rfl (lv_at hl 0 rfl) ?_
    refine lv_goto (tgt := 57) hx hb d_M_take_29 (by decide) ?_
    exact W.iret (v := (str h ||| (str (h + 1) <<< ((8 : Int32) &&& 31)))) hx hb hr (fun t ht hW => ⟨_, rfl, by rw [tkM, if_pos q], ht⟩) (fun _ h => by cases h) d_M_take_57

theorem call_M_take {p : Program} {l : Launch} {e : Env} {R : Room} {s : State} {m : MethodId} {args : Array Value} {below : List Frame} {meth : Method} {c : Code} {H : Heap} {locs : List Loc} {cells slots : Nat} {Q : State → Prop} {cc : ByteArray} {pc nL idx : Nat} {ls : Array Slot} {rest : List Value} {Ts : List Cond} {own : String} {dC : Nat → ClassId} {dI : Nat → Nat → Nat} {cI cC : ClassId} {m0 mt ms mr mk : Nat} {th yb bi d a b f : Int32} {str fk : Nat → Int32} {st : MT} {h : Nat} (S : CallFix p m c cc nL s args Ts own) (hTs : ∀ w ∈ WT, w ∈ Ts) (hlk : Cond.methodLink own idx y_M_take ∈ WT) (hR : 1 + 1 ≤ R.frames ∧ 8 + (3 + 11) + 21 ≤ R.locals) (hsz : ls.size = nL) (hrm : (rest.map fun v => v.category).sum ≤ 8) (hdg : decode cc pc = .ok (.invokevirtual idx, 3)) (hc : cells ≤ R.cells ∧ slots ≤ R.slots) (hK : rK dC dI cI cC s) (hw : mwd dC dI cI cC m0 mt ms mr mk th yb bi d a b f str fk st H) (hh : h + bt str h ≤ 256) (kk : W p l e R s m args below meth c H locs cells slots Q (F0 m (pc + 3) ls (.int (tkM str h) :: rest))) : W p l e R s m args below meth c H locs cells slots Q (F0 m pc ls (.int (nI h) :: .ref m0 :: rest)) :=
  vp_callSi (va_Run.run (va_runV (As := [.int (nI h)]) (rest := rest) S (c_M_take l (fun _ => 0) (fun _ => 0) (fun _ => 0) dC dI cI cC m0 mt ms mr mk th yb bi d a b f str fk st h) (cwV 1 S.2.2.2.2 (gV hTs hlk m_1054 m_48 m_52 m_1055) rfl rfl rfl (by decide +kernel) hR) ⟨fun a U g mk q => ⟨q.1, va_K.moved (u := U) (U := U.calling g mk a) (Vm.Alike.refl U.vm) q.2.1, q.2.2.1, q.2.2.2⟩, mwd.recv hK hw, fun U hU hW => ⟨rfl, va_K.moved hW.alike hK, by rw [hU]; exact hw, hh⟩⟩ rfl rfl hsz rfl (lv_room hrm) hdg hc)) (fun r e => by subst e; exact kk)

def loM (x : Int32) : Int32 := if x &&& 3 = 3 then x else x &&& 65535
set_option maxRecDepth 100000 in
set_option maxHeartbeats 4000000 in
theorem c_M_read (l : Launch) (dC : Nat → ClassId) (dI : Nat → Nat → Nat) (cI cC : ClassId) (m0 mt ms mr mk : Nat) (th yb bi d a b f : Int32) (str fk : Nat → Int32) (st : MT) (x : Int32) : Met l y_M_read (Cond.code y_M_read b_M_read 2 (some .int) :: WT) ({ frames := 8, cells := 0, slots := 0, locals := 174 }) (va_Pc [.ref m0, .int x] (fun U => mU dC dI cI cC m0 mt ms mr mk th yb bi d a b f str fk st U)) (va_Qi (fun (r : Int32) (_ : Unit) => r = nI (gU (loM x)).2.2.length) (fun _ t => mtp dC dI cI cC m0 mt ms mr mk 0 (tbM (loM x)) str (gU (loM x)) t.heap) (aM m0 mt ms mr mk)) 0 0 (aM m0 mt ms mr mk) := by
  refine va_MetF (cc := b_M_read) (maxL := 2) (ret := (some .int)) (by decide +kernel) rfl ?_
  intro p e s m args below meth c s₁ B hml hv
  obtain ⟨rfl, ⟨hK, ap, ok, hw⟩⟩ := hv
  have hx := B.exec
  have hb := B.bytes
  have hr := B.returns
  have hts := atoms_spec (ws := (Cond.code y_M_read b_M_read 2 (some .int) :: WT)) B.pre
  have hT : ∀ w ∈ WT, w.before _ s = true := fun w h => hts w (inC w h)
  have hown : s.vm.findClass R_M = some m.cls := findClass_of_methodNamed B.named
  have hlocks := B.notSynchronized
  have hS : va_S (aM m0 mt ms mr mk) s.heap s.heap [] := va_S.rf
  have S : CallFix p m c b_M_read 2 s _ (Cond.code y_M_read b_M_read 2 (some .int) :: WT) R_M := ⟨hx, hb, hml, hown, hts⟩
  have hl := lv_entry ([.ref m0, .int x]) (n := 2) (Nat.le_of_ble_eq_true rfl)
  rw [lg_entry_eq]
  generalize (lg_sl ([.ref m0, .int x]) ++ List.replicate (2 - (lg_sl ([.ref m0, .int x])).length) Slot.unset).toArray = ls at hl ⊢
  have hl : lv_has ls 2 [(0, .ref m0), (1, .int x)] := hl
  have hA : ∀ q, aM m0 mt ms mr mk q → aM m0 mt ms mr mk q := fun _ h => h
  obtain ⟨rg, ft, h1, h2, hP⟩ := hw
  have hD := wM_D ap hA (cI := cI) (cC := cC) (th := th) (yb := yb) (bi := bi) (d := d) (a := a) (b := b) (f := f) (op := (st).1) (ln := (st).2.1) (sz := nI (st).2.2.length) (str := str) (rg := rg) (ft := ft) (fk := fk)
  refine lv_aload_n hx hb d_M_read_0 rfl (lv_at hl 0 rfl) ?_
  refine lv_iconst (v := 0) hx hb d_M_read_1 (by decide) ?_
  refine va_put (D := (dC, dI)) (ci := 2) (v := .int 0) (ty := .int) (C := R_M) (T := F_M) (N := 14) hx hb hT i_M ft_M ft_M_ok n_M hown hK hP hD hS 0 rfl rfl 0 (by decide) (hT _ m_753) (fun _ h9 => h9) rfl (by decide +kernel) rfl rfl (Nat.le_of_ble_eq_true rfl) d_M_read_2 (fun H locs hP hD hS => ?_)
  refine lv_aload_n hx hb d_M_read_5 rfl (lv_at hl 0 rfl) ?_
  refine lv_iload_n hx hb d_M_read_6 rfl (lv_at hl 1 rfl) ?_
  refine lv_iconst (v := 3) hx hb d_M_read_7 (by decide) ?_
  refine lv_iand hx hb d_M_read_8 ?_
  refine lv_iconst (v := 3) hx hb d_M_read_9 (by decide) ?_
  refine lv_icmp_ne (tgt := 17) hx hb d_M_read_10 (by decide) (fun h => ?_) (fun h => ?_)
  · refine lv_iload_n hx hb d_M_read_17 rfl (lv_at hl 1 rfl) ?_
    refine lv_ldcw (v := 65535) hx hb hown (hT _ m_804) d_M_read_18 ?_
    refine lv_iand hx hb d_M_read_21 ?_
    have e : loM x = x &&& 65535 := by rw [loM, if_neg h]
    refine va_put (D := (dC, dI)) (ci := 2) (v := .int (x &&& 65535)) (ty := .int) (C := R_M) (T := F_M) (N := 14) hx hb hT i_M ft_M ft_M_ok n_M hown hK hP hD hS 0 rfl rfl 7 (by decide) (hT _ m_760) (fun _ h9 => h9) rfl (by decide +kernel) rfl rfl (Nat.le_of_ble_eq_true rfl) d_M_read_22 (fun H locs hP hD hS => ?_)
    have hw : mwd dC dI cI cC m0 mt ms mr mk 0 yb (x &&& 65535) d a b f str fk st H := ⟨rg, ft, h1, h2, hP⟩
    refine lv_aload_n hx hb d_M_read_25 rfl (lv_at hl 0 rfl) ?_
    refine call_M_understand S inC m_805 ⟨(Nat.le_of_ble_eq_true rfl), (Nat.le_of_ble_eq_true rfl)⟩ hl.1 (Nat.le_of_ble_eq_true rfl) d_M_read_26 ⟨(Nat.le_of_ble_eq_true rfl), (Nat.le_of_ble_eq_true rfl)⟩ hK ap ok hS hA hw (fun H locs hw hS _ => ?_)
    obtain ⟨d1, a1, b1, f1, ok, hw⟩ := hw
    obtain ⟨rg, ft, h1, h2, hP⟩ := id hw
    refine lv_aload_n hx hb d_M_read_29 rfl (lv_at hl 0 rfl) ?_
    refine va_get (D := (dC, dI)) (ci := 2) (v := .int (nI (gU (x &&& 65535)).2.2.length)) (C := R_M) (T := F_M) (N := 14) hx hb hT i_M hown hK hP 0 rfl rfl 2 (by decide) (hT _ m_755) (fun _ h9 => h9) rfl d_M_read_30 ?_
    exact W.iret (v := nI (gU (x &&& 65535)).2.2.length) hx hb hr (fun t ht hW => ⟨⟨_, (), rfl, by rw [e], mtp_at ht (by rw [e]; exact ⟨_, _, _, _, _, _, ok, hw⟩)⟩, hS.F ht⟩) hS.2.2 d_M_read_33
  · refine lv_iload_n hx hb d_M_read_13 rfl (lv_at hl 1 rfl) ?_
    refine lv_goto (tgt := 22) hx hb d_M_read_14 (by decide) ?_
    have e : loM x = x := by rw [loM, if_pos h]
    refine va_put (D := (dC, dI)) (ci := 2) (v := .int (x)) (ty := .int) (C := R_M) (T := F_M) (N := 14) hx hb hT i_M ft_M ft_M_ok n_M hown hK hP hD hS 0 rfl rfl 7 (by decide) (hT _ m_760) (fun _ h9 => h9) rfl (by decide +kernel) rfl rfl (Nat.le_of_ble_eq_true rfl) d_M_read_22 (fun H locs hP hD hS => ?_)
    have hw : mwd dC dI cI cC m0 mt ms mr mk 0 yb (x) d a b f str fk st H := ⟨rg, ft, h1, h2, hP⟩
    refine lv_aload_n hx hb d_M_read_25 rfl (lv_at hl 0 rfl) ?_
    refine call_M_understand S inC m_805 ⟨(Nat.le_of_ble_eq_true rfl), (Nat.le_of_ble_eq_true rfl)⟩ hl.1 (Nat.le_of_ble_eq_true rfl) d_M_read_26 ⟨(Nat.le_of_ble_eq_true rfl), (Nat.le_of_ble_eq_true rfl)⟩ hK ap ok hS hA hw (fun H locs hw hS _ => ?_)
    obtain ⟨d1, a1, b1, f1, ok, hw⟩ := hw
    obtain ⟨rg, ft, h1, h2, hP⟩ := id hw
    refine lv_aload_n hx hb d_M_read_29 rfl (lv_at hl 0 rfl) ?_
    refine va_get (D := (dC, dI)) (ci := 2) (v := .int (nI (gU (x)).2.2.length)) (C := R_M) (T := F_M) (N := 14) hx hb hT i_M hown hK hP 0 rfl rfl 2 (by decide) (hT _ m_755) (fun _ h9 => h9) rfl d_M_read_30 ?_
    exact W.iret (v := nI (gU (x)).2.2.length) hx hb hr (fun t ht hW => ⟨⟨_, (), rfl, by rw [e], mtp_at ht (by rw [e]; exact ⟨_, _, _, _, _, _, ok, hw⟩)⟩, hS.F ht⟩) hS.2.2 d_M_read_33

theorem call_M_read {p : Program} {l : Launch} {e : Env} {R : Room} {s : State} {m : MethodId} {args : Array Value} {below : List Frame} {meth : Method} {c : Code} {H : Heap} {locs : List Loc} {cells slots : Nat} {Q : State → Prop} {cc : ByteArray} {pc nL idx : Nat} {ls : Array Slot} {rest : List Value} {Ts : List Cond} {own : String} {A0 : Nat → Prop} {H0 : Heap} {dC : Nat → ClassId} {dI : Nat → Nat → Nat} {cI cC : ClassId} {m0 mt ms mr mk : Nat} {th yb bi d a b f : Int32} {str fk : Nat → Int32} {st : MT} {x : Int32} (S : CallFix p m c cc nL s args Ts own) (hTs : ∀ w ∈ WT, w ∈ Ts) (hlk : Cond.methodLink own idx y_M_read ∈ WT) (hR : 8 + 1 ≤ R.frames ∧ 8 + (2 + 11) + 174 ≤ R.locals) (hsz : ls.size = nL) (hrm : (rest.map fun v => v.category).sum ≤ 8) (hdg : decode cc pc = .ok (.invokevirtual idx, 3)) (hc : cells ≤ R.cells ∧ slots ≤ R.slots) (hK : rK dC dI cI cC s) (ap : apM m0 mt ms mr mk) (ok : mOk d a b) (hS : va_S A0 H0 H locs) (hA : ∀ q, aM m0 mt ms mr mk q → A0 q) (hw : mwd dC dI cI cC m0 mt ms mr mk th yb bi d a b f str fk st H)  (kk : ∀ (H1 : Heap) (locs1 : List Loc), mtp dC dI cI cC m0 mt ms mr mk 0 (tbM (loM x)) str (gU (loM x)) H1 → va_S A0 H0 H1 locs1 → (H.size ≤ H1.size ∧ ∀ q : Nat, q < H.size → ¬ aM m0 mt ms mr mk q → H1[q]? = H[q]?) → W p l e R s m args below meth c H1 locs1 cells slots Q (F0 m (pc + 3) ls (.int (nI (gU (loM x)).2.2.length) :: rest))) : W p l e R s m args below meth c H locs cells slots Q (F0 m pc ls (.int x :: .ref m0 :: rest)) :=
  va_calli (va_runV (As := [.int x]) (rest := rest) S (c_M_read l dC dI cI cC m0 mt ms mr mk th yb bi d a b f str fk st x) (cwV 1 S.2.2.2.2 (gV hTs hlk m_801 m_802 m_52 m_803) rfl rfl rfl (by decide +kernel) hR) ⟨fun a U g mk q => ⟨q.1, q.2.blind⟩, mwd.recv hK hw, fun U hU hW => ⟨rfl, mU.at hK ap ok hw hU hW⟩⟩ rfl rfl hsz rfl (lv_room hrm) hdg hc) hS (fun q _ h => hA q h) hA (fun r u t H1 locs1 ht hvm hp hB hz hk hS1 => by subst hp; exact kk H1 locs1 (by rw [← ht]; exact hB) hS1 ⟨hz, hk⟩)

set_option maxRecDepth 100000 in
set_option maxHeartbeats 4000000 in
theorem c_M_letterX (l : Launch) (dC : Nat → ClassId) (dI : Nat → Nat → Nat) (cI cC : ClassId) (m0 mt ms mr mk : Nat) (th yb bi d a b f : Int32) (str fk : Nat → Int32) (st : MT) (x : Int32) : Met l y_M_letter (Cond.code y_M_letter b_M_letter 2 (some .char) :: WT) ({ frames := 0, cells := 0, slots := 0, locals := 0 }) (va_Pc [.ref m0, .int x] (fun U => mU dC dI cI cC m0 mt ms mr mk th yb bi d a b f str fk st U ∧ (¬ x < 0 → ¬ x < nI st.2.2.length))) (va_Qi (fun (r : Int32) (_ : Unit) => r = 0) (fun _ t => mtp dC dI cI cC m0 mt ms mr mk 1 yb str st t.heap) (aM m0 mt ms mr mk)) 0 0 (aM m0 mt ms mr mk) := by
  refine va_MetF (cc := b_M_letter) (maxL := 2) (ret := (some .char)) (by decide +kernel) rfl ?_
  intro p e s m args below meth c s₁ B hml hv
  obtain ⟨rfl, ⟨hK, ap, ok, hw⟩, hout⟩ := hv
  have hx := B.exec
  have hb := B.bytes
  have hr := B.returns
  have hts := atoms_spec (ws := (Cond.code y_M_letter b_M_letter 2 (some .char) :: WT)) B.pre
  have hT : ∀ w ∈ WT, w.before _ s = true := fun w h => hts w (inC w h)
  have hown : s.vm.findClass R_M = some m.cls := findClass_of_methodNamed B.named
  have hlocks := B.notSynchronized
  have hS : va_S (aM m0 mt ms mr mk) s.heap s.heap [] := va_S.rf
  have S : CallFix p m c b_M_letter 2 s _ (Cond.code y_M_letter b_M_letter 2 (some .char) :: WT) R_M := ⟨hx, hb, hml, hown, hts⟩
  have hl := lv_entry ([.ref m0, .int x]) (n := 2) (Nat.le_of_ble_eq_true rfl)
  rw [lg_entry_eq]
  generalize (lg_sl ([.ref m0, .int x]) ++ List.replicate (2 - (lg_sl ([.ref m0, .int x])).length) Slot.unset).toArray = ls at hl ⊢
  have hl : lv_has ls 2 [(0, .ref m0), (1, .int x)] := hl
  have hA : ∀ q, aM m0 mt ms mr mk q → aM m0 mt ms mr mk q := fun _ h => h
  obtain ⟨rg, ft, h1, h2, hP⟩ := hw
  have hD := wM_D ap hA (cI := cI) (cC := cC) (th := th) (yb := yb) (bi := bi) (d := d) (a := a) (b := b) (f := f) (op := (st).1) (ln := (st).2.1) (sz := nI (st).2.2.length) (str := str) (rg := rg) (ft := ft) (fk := fk)
  refine lv_aload_n hx hb d_M_letter_0 rfl (lv_at hl 0 rfl) ?_
  refine lv_iload_n hx hb d_M_letter_1 rfl (lv_at hl 1 rfl) ?_
  refine lv_if_lt (tgt := 13) hx hb d_M_letter_2 (by decide) (fun h => ?_) (fun h => ?_)
  · refine lv_iconst (v := 1) hx hb d_M_letter_13 (by decide) ?_
    refine lv_goto (tgt := 18) hx hb d_M_letter_14 (by decide) ?_
    refine va_put (D := (dC, dI)) (ci := 2) (v := .int 1) (ty := .int) (C := R_M) (T := F_M) (N := 14) hx hb hT i_M ft_M ft_M_ok n_M hown hK hP hD hS 0 rfl rfl 0 (by decide) (hT _ m_753) (fun _ h9 => h9) rfl (by decide +kernel) rfl rfl (Nat.le_of_ble_eq_true rfl) d_M_letter_18 (fun H locs hP hD hS => ?_)
    have hw : mwd dC dI cI cC m0 mt ms mr mk 1 yb bi d a b f str fk st H := ⟨rg, ft, h1, h2, hP⟩
    refine lv_aload_n hx hb d_M_letter_21 rfl (lv_at hl 0 rfl) ?_
    refine va_get (D := (dC, dI)) (ci := 2) (v := .int 1) (C := R_M) (T := F_M) (N := 14) hx hb hT i_M hown hK hP 0 rfl rfl 0 (by decide) (hT _ m_753) (fun _ h9 => h9) rfl d_M_letter_22 ?_
    refine lv_if_le (tgt := 32) hx hb d_M_letter_25 (by decide) (fun q => absurd q (by decide)) (fun _ => ?_)
    refine lv_iconst (v := 0) hx hb d_M_letter_28 (by decide) ?_
    refine lv_goto (tgt := 38) hx hb d_M_letter_29 (by decide) ?_
    exact W.zret (v := 0) hx hb hr rfl (fun t ht hW => ⟨⟨_, (), rfl, rfl, mtp_at ht (⟨_, _, _, _, _, _, ok, hw⟩)⟩, hS.F ht⟩) hS.2.2 d_M_letter_38
  · refine lv_iload_n hx hb d_M_letter_5 rfl (lv_at hl 1 rfl) ?_
    refine lv_aload_n hx hb d_M_letter_6 rfl (lv_at hl 0 rfl) ?_
    refine va_get (D := (dC, dI)) (ci := 2) (v := .int (nI st.2.2.length)) (C := R_M) (T := F_M) (N := 14) hx hb hT i_M hown hK hP 0 rfl rfl 2 (by decide) (hT _ m_755) (fun _ h9 => h9) rfl d_M_letter_7 ?_
    refine lv_icmp_lt (tgt := 17) hx hb d_M_letter_10 (by decide) (fun q => absurd q (hout h)) (fun _ => ?_)
    refine lv_iconst (v := 1) hx hb d_M_letter_13 (by decide) ?_
    refine lv_goto (tgt := 18) hx hb d_M_letter_14 (by decide) ?_
    refine va_put (D := (dC, dI)) (ci := 2) (v := .int 1) (ty := .int) (C := R_M) (T := F_M) (N := 14) hx hb hT i_M ft_M ft_M_ok n_M hown hK hP hD hS 0 rfl rfl 0 (by decide) (hT _ m_753) (fun _ h9 => h9) rfl (by decide +kernel) rfl rfl (Nat.le_of_ble_eq_true rfl) d_M_letter_18 (fun H locs hP hD hS => ?_)
    have hw : mwd dC dI cI cC m0 mt ms mr mk 1 yb bi d a b f str fk st H := ⟨rg, ft, h1, h2, hP⟩
    refine lv_aload_n hx hb d_M_letter_21 rfl (lv_at hl 0 rfl) ?_
    refine va_get (D := (dC, dI)) (ci := 2) (v := .int 1) (C := R_M) (T := F_M) (N := 14) hx hb hT i_M hown hK hP 0 rfl rfl 0 (by decide) (hT _ m_753) (fun _ h9 => h9) rfl d_M_letter_22 ?_
    refine lv_if_le (tgt := 32) hx hb d_M_letter_25 (by decide) (fun q => absurd q (by decide)) (fun _ => ?_)
    refine lv_iconst (v := 0) hx hb d_M_letter_28 (by decide) ?_
    refine lv_goto (tgt := 38) hx hb d_M_letter_29 (by decide) ?_
    exact W.zret (v := 0) hx hb hr rfl (fun t ht hW => ⟨⟨_, (), rfl, rfl, mtp_at ht (⟨_, _, _, _, _, _, ok, hw⟩)⟩, hS.F ht⟩) hS.2.2 d_M_letter_38

theorem call_M_letterX {p : Program} {l : Launch} {e : Env} {R : Room} {s : State} {m : MethodId} {args : Array Value} {below : List Frame} {meth : Method} {c : Code} {H : Heap} {locs : List Loc} {cells slots : Nat} {Q : State → Prop} {cc : ByteArray} {pc nL idx : Nat} {ls : Array Slot} {rest : List Value} {Ts : List Cond} {own : String} {A0 : Nat → Prop} {H0 : Heap} {dC : Nat → ClassId} {dI : Nat → Nat → Nat} {cI cC : ClassId} {m0 mt ms mr mk : Nat} {th yb bi d a b f : Int32} {str fk : Nat → Int32} {st : MT} {x : Int32} (S : CallFix p m c cc nL s args Ts own) (hTs : ∀ w ∈ WT, w ∈ Ts) (hlk : Cond.methodLink own idx y_M_letter ∈ WT) (hR : 0 + 1 ≤ R.frames ∧ 8 + (2 + 11) + 0 ≤ R.locals) (hsz : ls.size = nL) (hrm : (rest.map fun v => v.category).sum ≤ 8) (hdg : decode cc pc = .ok (.invokevirtual idx, 3)) (hc : cells ≤ R.cells ∧ slots ≤ R.slots) (hK : rK dC dI cI cC s) (ap : apM m0 mt ms mr mk) (ok : mOk d a b) (hS : va_S A0 H0 H locs) (hA : ∀ q, aM m0 mt ms mr mk q → A0 q) (hw : mwd dC dI cI cC m0 mt ms mr mk th yb bi d a b f str fk st H) (hout : ¬ x < 0 → ¬ x < nI st.2.2.length) (kk : ∀ (H1 : Heap) (locs1 : List Loc), mtp dC dI cI cC m0 mt ms mr mk 1 yb str st H1 → va_S A0 H0 H1 locs1 → (H.size ≤ H1.size ∧ ∀ q : Nat, q < H.size → ¬ aM m0 mt ms mr mk q → H1[q]? = H[q]?) → W p l e R s m args below meth c H1 locs1 cells slots Q (F0 m (pc + 3) ls (.int (0) :: rest))) : W p l e R s m args below meth c H locs cells slots Q (F0 m pc ls (.int x :: .ref m0 :: rest)) :=
  va_calli (va_runV (As := [.int x]) (rest := rest) S (c_M_letterX l dC dI cI cC m0 mt ms mr mk th yb bi d a b f str fk st x) (cwV 1 S.2.2.2.2 (gV hTs hlk m_1029 m_1030 m_52 m_1031) rfl rfl rfl (by decide +kernel) hR) ⟨fun a U g mk q => ⟨q.1, ⟨q.2.1.blind, q.2.2⟩⟩, mwd.recv hK hw, fun U hU hW => ⟨rfl, ⟨mU.at hK ap ok hw hU hW, hout⟩⟩⟩ rfl rfl hsz rfl (lv_room hrm) hdg hc) hS (fun q _ h => hA q h) hA (fun r u t H1 locs1 ht hvm hp hB hz hk hS1 => by subst hp; exact kk H1 locs1 (by rw [← ht]; exact hB) hS1 ⟨hz, hk⟩)

set_option maxRecDepth 100000 in
set_option maxHeartbeats 4000000 in
theorem c_M_letter (l : Launch) (dC : Nat → ClassId) (dI : Nat → Nat → Nat) (cI cC : ClassId) (m0 mt ms mr mk : Nat) (th yb bi d a b f : Int32) (str fk : Nat → Int32) (st : MT) (j : Nat) : Met l y_M_letter (Cond.code y_M_letter b_M_letter 2 (some .char) :: WT) ({ frames := 0, cells := 0, slots := 0, locals := 0 }) (va_Pc [.ref m0, .int (nI j)] (fun U => mU dC dI cI cC m0 mt ms mr mk th yb bi d a b f str fk st U ∧ j < st.2.2.length)) (va_Qi (fun (r : Int32) (_ : Unit) => r = st.2.2.getD j 0) (fun _ t => mtp dC dI cI cC m0 mt ms mr mk 0 yb str st t.heap) (aM m0 mt ms mr mk)) 0 0 (aM m0 mt ms mr mk) := by
  refine va_MetF (cc := b_M_letter) (maxL := 2) (ret := (some .char)) (by decide +kernel) rfl ?_
  intro p e s m args below meth c s₁ B hml hv
  obtain ⟨rfl, ⟨hK, ap, ok, hw⟩, hj⟩ := hv
  have hx := B.exec
  have hb := B.bytes
  have hr := B.returns
  have hts := atoms_spec (ws := (Cond.code y_M_letter b_M_letter 2 (some .char) :: WT)) B.pre
  have hT : ∀ w ∈ WT, w.before _ s = true := fun w h => hts w (inC w h)
  have hown : s.vm.findClass R_M = some m.cls := findClass_of_methodNamed B.named
  have hlocks := B.notSynchronized
  have hS : va_S (aM m0 mt ms mr mk) s.heap s.heap [] := va_S.rf
  have S : CallFix p m c b_M_letter 2 s _ (Cond.code y_M_letter b_M_letter 2 (some .char) :: WT) R_M := ⟨hx, hb, hml, hown, hts⟩
  have hl := lv_entry ([.ref m0, .int (nI j)]) (n := 2) (Nat.le_of_ble_eq_true rfl)
  rw [lg_entry_eq]
  generalize (lg_sl ([.ref m0, .int (nI j)]) ++ List.replicate (2 - (lg_sl ([.ref m0, .int (nI j)])).length) Slot.unset).toArray = ls at hl ⊢
  have hl : lv_has ls 2 [(0, .ref m0), (1, .int (nI j))] := hl
  have hA : ∀ q, aM m0 mt ms mr mk q → aM m0 mt ms mr mk q := fun _ h => h
  have hlen : st.2.2.length ≤ 64 := by obtain ⟨_, _, _, h2, _⟩ := hw; exact h2.1
  obtain ⟨rg, ft, h1, h2, hP⟩ := hw
  have hD := wM_D ap hA (cI := cI) (cC := cC) (th := th) (yb := yb) (bi := bi) (d := d) (a := a) (b := b) (f := f) (op := (st).1) (ln := (st).2.1) (sz := nI (st).2.2.length) (str := str) (rg := rg) (ft := ft) (fk := fk)
  refine lv_aload_n hx hb d_M_letter_0 rfl (lv_at hl 0 rfl) ?_
  refine lv_iload_n hx hb d_M_letter_1 rfl (lv_at hl 1 rfl) ?_
  refine lv_if_lt (tgt := 13) hx hb d_M_letter_2 (by decide) (fun h => absurd h (nI_pos (by omega))) (fun h => ?_)
  refine lv_iload_n hx hb d_M_letter_5 rfl (lv_at hl 1 rfl) ?_
  refine lv_aload_n hx hb d_M_letter_6 rfl (lv_at hl 0 rfl) ?_
  refine va_get (D := (dC, dI)) (ci := 2) (v := .int (nI st.2.2.length)) (C := R_M) (T := F_M) (N := 14) hx hb hT i_M hown hK hP 0 rfl rfl 2 (by decide) (hT _ m_755) (fun _ h9 => h9) rfl d_M_letter_7 ?_
  refine lv_icmp_lt (tgt := 17) hx hb d_M_letter_10 (by decide) (fun _ => ?_) (fun q => absurd (nI_lt hj (by omega)) q)
  refine lv_iconst (v := 0) hx hb d_M_letter_17 (by decide) ?_
  refine va_put (D := (dC, dI)) (ci := 2) (v := .int 0) (ty := .int) (C := R_M) (T := F_M) (N := 14) hx hb hT i_M ft_M ft_M_ok n_M hown hK hP hD hS 0 rfl rfl 0 (by decide) (hT _ m_753) (fun _ h9 => h9) rfl (by decide +kernel) rfl rfl (Nat.le_of_ble_eq_true rfl) d_M_letter_18 (fun H locs hP hD hS => ?_)
  have hw : mwd dC dI cI cC m0 mt ms mr mk 0 yb bi d a b f str fk st H := ⟨rg, ft, h1, h2, hP⟩
  refine lv_aload_n hx hb d_M_letter_21 rfl (lv_at hl 0 rfl) ?_
  refine va_get (D := (dC, dI)) (ci := 2) (v := .int 0) (C := R_M) (T := F_M) (N := 14) hx hb hT i_M hown hK hP 0 rfl rfl 0 (by decide) (hT _ m_753) (fun _ h9 => h9) rfl d_M_letter_22 ?_
  refine lv_if_le (tgt := 32) hx hb d_M_letter_25 (by decide) (fun _ => ?_) (fun q => absurd (by decide) q)
  refine lv_aload_n hx hb d_M_letter_32 rfl (lv_at hl 0 rfl) ?_
  refine va_get (D := (dC, dI)) (ci := 2) (v := .ref mt) (C := R_M) (T := F_M) (N := 14) hx hb hT i_M hown hK hP 0 rfl rfl 1 (by decide) (hT _ m_754) (fun _ h9 => h9) rfl d_M_letter_33 ?_
  refine lv_iload_n hx hb d_M_letter_36 rfl (lv_at hl 1 rfl) ?_
  refine va_cald (D := (dC, dI)) hx hb hK hP 1 1 rfl rfl (vp_in_nI (by omega) (by omega)) d_M_letter_37 ?_
  rw [nI_clamp (by omega), h2.2.1 j hj]
  exact W.zret (v := st.2.2.getD j 0) hx hb hr (nar_of (h2.2.2 _ (getD_mem hj))) (fun t ht hW => ⟨⟨_, (), rfl, rfl, mtp_at ht (⟨_, _, _, _, _, _, ok, hw⟩)⟩, hS.F ht⟩) hS.2.2 d_M_letter_38

theorem call_M_letter {p : Program} {l : Launch} {e : Env} {R : Room} {s : State} {m : MethodId} {args : Array Value} {below : List Frame} {meth : Method} {c : Code} {H : Heap} {locs : List Loc} {cells slots : Nat} {Q : State → Prop} {cc : ByteArray} {pc nL idx : Nat} {ls : Array Slot} {rest : List Value} {Ts : List Cond} {own : String} {A0 : Nat → Prop} {H0 : Heap} {dC : Nat → ClassId} {dI : Nat → Nat → Nat} {cI cC : ClassId} {m0 mt ms mr mk : Nat} {th yb bi d a b f : Int32} {str fk : Nat → Int32} {st : MT} {j : Nat} (S : CallFix p m c cc nL s args Ts own) (hTs : ∀ w ∈ WT, w ∈ Ts) (hlk : Cond.methodLink own idx y_M_letter ∈ WT) (hR : 0 + 1 ≤ R.frames ∧ 8 + (2 + 11) + 0 ≤ R.locals) (hsz : ls.size = nL) (hrm : (rest.map fun v => v.category).sum ≤ 8) (hdg : decode cc pc = .ok (.invokevirtual idx, 3)) (hc : cells ≤ R.cells ∧ slots ≤ R.slots) (hK : rK dC dI cI cC s) (ap : apM m0 mt ms mr mk) (ok : mOk d a b) (hS : va_S A0 H0 H locs) (hA : ∀ q, aM m0 mt ms mr mk q → A0 q) (hw : mwd dC dI cI cC m0 mt ms mr mk th yb bi d a b f str fk st H) (hj : j < st.2.2.length) (kk : ∀ (H1 : Heap) (locs1 : List Loc), mtp dC dI cI cC m0 mt ms mr mk 0 yb str st H1 → va_S A0 H0 H1 locs1 → (H.size ≤ H1.size ∧ ∀ q : Nat, q < H.size → ¬ aM m0 mt ms mr mk q → H1[q]? = H[q]?) → W p l e R s m args below meth c H1 locs1 cells slots Q (F0 m (pc + 3) ls (.int (st.2.2.getD j 0) :: rest))) : W p l e R s m args below meth c H locs cells slots Q (F0 m pc ls (.int (nI j) :: .ref m0 :: rest)) :=
  va_calli (va_runV (As := [.int (nI j)]) (rest := rest) S (c_M_letter l dC dI cI cC m0 mt ms mr mk th yb bi d a b f str fk st j) (cwV 1 S.2.2.2.2 (gV hTs hlk m_1029 m_1030 m_52 m_1031) rfl rfl rfl (by decide +kernel) hR) ⟨fun a U g mk q => ⟨q.1, ⟨q.2.1.blind, q.2.2⟩⟩, mwd.recv hK hw, fun U hU hW => ⟨rfl, ⟨mU.at hK ap ok hw hU hW, hj⟩⟩⟩ rfl rfl hsz rfl (lv_room hrm) hdg hc) hS (fun q _ h => hA q h) hA (fun r u t H1 locs1 ht hvm hp hB hz hk hS1 => by subst hp; exact kk H1 locs1 (by rw [← ht]; exact hB) hS1 ⟨hz, hk⟩)

set_option maxRecDepth 100000 in
set_option maxHeartbeats 4000000 in
theorem c_M_about (l : Launch) (dC : Nat → ClassId) (dI : Nat → Nat → Nat) (cI cC : ClassId) (m0 mt ms mr mk : Nat) (th yb bi d a b f : Int32) (str fk : Nat → Int32) (st : MT) (x : Int32) : Met l y_M_about (Cond.code y_M_about b_M_about 2 (some .int) :: WT) ({ frames := 0, cells := 0, slots := 0, locals := 0 }) (va_Pc [.ref m0, .int x] (fun U => mU dC dI cI cC m0 mt ms mr mk th yb bi d a b f str fk st U)) (va_Qi (fun (r : Int32) (_ : Unit) => r = abM st.2.2 yb st.2.1 st.1 x) (fun _ t => mtp dC dI cI cC m0 mt ms mr mk 0 yb str st t.heap) (aM m0 mt ms mr mk)) 0 0 (aM m0 mt ms mr mk) := by
  refine va_MetF (cc := b_M_about) (maxL := 2) (ret := (some .int)) (by decide +kernel) rfl ?_
  intro p e s m args below meth c s₁ B hml hv
  obtain ⟨rfl, ⟨hK, ap, ok, hw⟩⟩ := hv
  have hx := B.exec
  have hb := B.bytes
  have hr := B.returns
  have hts := atoms_spec (ws := (Cond.code y_M_about b_M_about 2 (some .int) :: WT)) B.pre
  have hT : ∀ w ∈ WT, w.before _ s = true := fun w h => hts w (inC w h)
  have hown : s.vm.findClass R_M = some m.cls := findClass_of_methodNamed B.named
  have hlocks := B.notSynchronized
  have hS : va_S (aM m0 mt ms mr mk) s.heap s.heap [] := va_S.rf
  have S : CallFix p m c b_M_about 2 s _ (Cond.code y_M_about b_M_about 2 (some .int) :: WT) R_M := ⟨hx, hb, hml, hown, hts⟩
  have hl := lv_entry ([.ref m0, .int x]) (n := 2) (Nat.le_of_ble_eq_true rfl)
  rw [lg_entry_eq]
  generalize (lg_sl ([.ref m0, .int x]) ++ List.replicate (2 - (lg_sl ([.ref m0, .int x])).length) Slot.unset).toArray = ls at hl ⊢
  have hl : lv_has ls 2 [(0, .ref m0), (1, .int x)] := hl
  have hA : ∀ q, aM m0 mt ms mr mk q → aM m0 mt ms mr mk q := fun _ h => h
  obtain ⟨rg, ft, h1, h2, hP⟩ := hw
  have hD := wM_D ap hA (cI := cI) (cC := cC) (th := th) (yb := yb) (bi := bi) (d := d) (a := a) (b := b) (f := f) (op := (st).1) (ln := (st).2.1) (sz := nI (st).2.2.length) (str := str) (rg := rg) (ft := ft) (fk := fk)
  refine lv_aload_n hx hb d_M_about_0 rfl (lv_at hl 0 rfl) ?_
  refine lv_iconst (v := 0) hx hb d_M_about_1 (by decide) ?_
  refine va_put (D := (dC, dI)) (ci := 2) (v := .int 0) (ty := .int) (C := R_M) (T := F_M) (N := 14) hx hb hT i_M ft_M ft_M_ok n_M hown hK hP hD hS 0 rfl rfl 0 (by decide) (hT _ m_753) (fun _ h9 => h9) rfl (by decide +kernel) rfl rfl (Nat.le_of_ble_eq_true rfl) d_M_about_2 (fun H locs hP hD hS => ?_)
  have hw : mwd dC dI cI cC m0 mt ms mr mk 0 yb bi d a b f str fk st H := ⟨rg, ft, h1, h2, hP⟩
  refine lv_iload_n hx hb d_M_about_5 rfl (lv_at hl 1 rfl) ?_
  refine lv_if_ne (tgt := 16) hx hb d_M_about_6 (by decide) (fun c0 => ?_) (fun c0 => ?_)
  · refine lv_iload_n hx hb d_M_about_16 rfl (lv_at hl 1 rfl) ?_
    refine lv_iconst (v := 1) hx hb d_M_about_17 (by decide) ?_
    refine lv_icmp_ne (tgt := 28) hx hb d_M_about_18 (by decide) (fun c1 => ?_) (fun c1 => ?_)
    · refine lv_iload_n hx hb d_M_about_28 rfl (lv_at hl 1 rfl) ?_
      refine lv_iconst (v := 2) hx hb d_M_about_29 (by decide) ?_
      refine lv_icmp_ne (tgt := 48) hx hb d_M_about_30 (by decide) (fun c2 => ?_) (fun c2 => ?_)
      · refine lv_iload_n hx hb d_M_about_48 rfl (lv_at hl 1 rfl) ?_
        refine lv_iconst (v := 3) hx hb d_M_about_49 (by decide) ?_
        refine lv_icmp_ne (tgt := 60) hx hb d_M_about_50 (by decide) (fun c3 => ?_) (fun c3 => ?_)
        · refine lv_iconst (v := -1) hx hb d_M_about_60 (by decide) ?_
          exact W.iret (v := -1) hx hb hr (fun t ht hW => ⟨⟨_, (), rfl, by rw [abM, if_neg c0, if_neg c1, if_neg c2, if_neg c3], mtp_at ht (⟨_, _, _, _, _, _, ok, hw⟩)⟩, hS.F ht⟩) hS.2.2 d_M_about_61
        · refine lv_aload_n hx hb d_M_about_53 rfl (lv_at hl 0 rfl) ?_
          refine va_get (D := (dC, dI)) (ci := 2) (v := .int st.1) (C := R_M) (T := F_M) (N := 14) hx hb hT i_M hown hK hP 0 rfl rfl 4 (by decide) (hT _ m_757) (fun _ h9 => h9) rfl d_M_about_54 ?_
          refine lv_goto (tgt := 61) hx hb d_M_about_57 (by decide) ?_
          exact W.iret (v := st.1) hx hb hr (fun t ht hW => ⟨⟨_, (), rfl, by rw [abM, if_neg c0, if_neg c1, if_neg c2, if_pos c3], mtp_at ht (⟨_, _, _, _, _, _, ok, hw⟩)⟩, hS.F ht⟩) hS.2.2 d_M_about_61
      · refine lv_aload_n hx hb d_M_about_33 rfl (lv_at hl 0 rfl) ?_
        refine va_get (D := (dC, dI)) (ci := 2) (v := .int st.2.1) (C := R_M) (T := F_M) (N := 14) hx hb hT i_M hown hK hP 0 rfl rfl 5 (by decide) (hT _ m_758) (fun _ h9 => h9) rfl d_M_about_34 ?_
        refine lv_if_eq (tgt := 44) hx hb d_M_about_37 (by decide) (fun c4 => ?_) (fun c4 => ?_)
        · refine lv_iconst (v := 0) hx hb d_M_about_44 (by decide) ?_
          refine lv_goto (tgt := 61) hx hb d_M_about_45 (by decide) ?_
          exact W.iret (v := 0) hx hb hr (fun t ht hW => ⟨⟨_, (), rfl, by rw [abM, if_neg c0, if_neg c1, if_pos c2, if_pos c4], mtp_at ht (⟨_, _, _, _, _, _, ok, hw⟩)⟩, hS.F ht⟩) hS.2.2 d_M_about_61
        · refine lv_iconst (v := 1) hx hb d_M_about_40 (by decide) ?_
          refine lv_goto (tgt := 61) hx hb d_M_about_41 (by decide) ?_
          exact W.iret (v := 1) hx hb hr (fun t ht hW => ⟨⟨_, (), rfl, by rw [abM, if_neg c0, if_neg c1, if_pos c2, if_neg c4], mtp_at ht (⟨_, _, _, _, _, _, ok, hw⟩)⟩, hS.F ht⟩) hS.2.2 d_M_about_61
    · refine lv_aload_n hx hb d_M_about_21 rfl (lv_at hl 0 rfl) ?_
      refine va_get (D := (dC, dI)) (ci := 2) (v := .int yb) (C := R_M) (T := F_M) (N := 14) hx hb hT i_M hown hK hP 0 rfl rfl 3 (by decide) (hT _ m_756) (fun _ h9 => h9) rfl d_M_about_22 ?_
      refine lv_goto (tgt := 61) hx hb d_M_about_25 (by decide) ?_
      exact W.iret (v := yb) hx hb hr (fun t ht hW => ⟨⟨_, (), rfl, by rw [abM, if_neg c0, if_pos c1], mtp_at ht (⟨_, _, _, _, _, _, ok, hw⟩)⟩, hS.F ht⟩) hS.2.2 d_M_about_61
  · refine lv_aload_n hx hb d_M_about_9 rfl (lv_at hl 0 rfl) ?_
    refine va_get (D := (dC, dI)) (ci := 2) (v := .int (nI st.2.2.length)) (C := R_M) (T := F_M) (N := 14) hx hb hT i_M hown hK hP 0 rfl rfl 2 (by decide) (hT _ m_755) (fun _ h9 => h9) rfl d_M_about_10 ?_
    refine lv_goto (tgt := 61) hx hb d_M_about_13 (by decide) ?_
    exact W.iret (v := nI st.2.2.length) hx hb hr (fun t ht hW => ⟨⟨_, (), rfl, by rw [abM, if_pos c0], mtp_at ht (⟨_, _, _, _, _, _, ok, hw⟩)⟩, hS.F ht⟩) hS.2.2 d_M_about_61

theorem call_M_about {p : Program} {l : Launch} {e : Env} {R : Room} {s : State} {m : MethodId} {args : Array Value} {below : List Frame} {meth : Method} {c : Code} {H : Heap} {locs : List Loc} {cells slots : Nat} {Q : State → Prop} {cc : ByteArray} {pc nL idx : Nat} {ls : Array Slot} {rest : List Value} {Ts : List Cond} {own : String} {A0 : Nat → Prop} {H0 : Heap} {dC : Nat → ClassId} {dI : Nat → Nat → Nat} {cI cC : ClassId} {m0 mt ms mr mk : Nat} {th yb bi d a b f : Int32} {str fk : Nat → Int32} {st : MT} {x : Int32} (S : CallFix p m c cc nL s args Ts own) (hTs : ∀ w ∈ WT, w ∈ Ts) (hlk : Cond.methodLink own idx y_M_about ∈ WT) (hR : 0 + 1 ≤ R.frames ∧ 8 + (2 + 11) + 0 ≤ R.locals) (hsz : ls.size = nL) (hrm : (rest.map fun v => v.category).sum ≤ 8) (hdg : decode cc pc = .ok (.invokevirtual idx, 3)) (hc : cells ≤ R.cells ∧ slots ≤ R.slots) (hK : rK dC dI cI cC s) (ap : apM m0 mt ms mr mk) (ok : mOk d a b) (hS : va_S A0 H0 H locs) (hA : ∀ q, aM m0 mt ms mr mk q → A0 q) (hw : mwd dC dI cI cC m0 mt ms mr mk th yb bi d a b f str fk st H)  (kk : ∀ (H1 : Heap) (locs1 : List Loc), mtp dC dI cI cC m0 mt ms mr mk 0 yb str st H1 → va_S A0 H0 H1 locs1 → (H.size ≤ H1.size ∧ ∀ q : Nat, q < H.size → ¬ aM m0 mt ms mr mk q → H1[q]? = H[q]?) → W p l e R s m args below meth c H1 locs1 cells slots Q (F0 m (pc + 3) ls (.int (abM st.2.2 yb st.2.1 st.1 x) :: rest))) : W p l e R s m args below meth c H locs cells slots Q (F0 m pc ls (.int x :: .ref m0 :: rest)) :=
  va_calli (va_runV (As := [.int x]) (rest := rest) S (c_M_about l dC dI cI cC m0 mt ms mr mk th yb bi d a b f str fk st x) (cwV 1 S.2.2.2.2 (gV hTs hlk m_1033 m_1034 m_52 m_1035) rfl rfl rfl (by decide +kernel) hR) ⟨fun a U g mk q => ⟨q.1, q.2.blind⟩, mwd.recv hK hw, fun U hU hW => ⟨rfl, mU.at hK ap ok hw hU hW⟩⟩ rfl rfl hsz rfl (lv_room hrm) hdg hc) hS (fun q _ h => hA q h) hA (fun r u t H1 locs1 ht hvm hp hB hz hk hS1 => by subst hp; exact kk H1 locs1 (by rw [← ht]; exact hB) hS1 ⟨hz, hk⟩)

set_option maxRecDepth 100000 in
set_option maxHeartbeats 4000000 in
theorem c_M_pokeX (l : Launch) (dC : Nat → ClassId) (dI : Nat → Nat → Nat) (cI cC : ClassId) (m0 mt ms mr mk : Nat) (th yb bi d a b f : Int32) (str fk : Nat → Int32) (st : MT) (x y : Int32) : Met l y_M_poke (Cond.code y_M_poke b_M_poke 3 none :: WT) ({ frames := 1, cells := 0, slots := 0, locals := 21 }) (va_Pc [.ref m0, .int x, .int y] (fun U => mU dC dI cI cC m0 mt ms mr mk th yb bi d a b f str fk st U ∧ ¬ rf x = 0)) (va_Qv (fun _ : Unit => True) (fun _ t => mtp dC dI cI cC m0 mt ms mr mk (rf x) yb str st t.heap) (aM m0 mt ms mr mk)) 0 0 (aM m0 mt ms mr mk) := by
  refine va_MetF (cc := b_M_poke) (maxL := 3) (ret := none) (by decide +kernel) rfl ?_
  intro p e s m args below meth c s₁ B hml hv
  obtain ⟨rfl, ⟨hK, ap, ok, hw⟩, hr1⟩ := hv
  have hx := B.exec
  have hb := B.bytes
  have hr := B.returns
  have hts := atoms_spec (ws := (Cond.code y_M_poke b_M_poke 3 none :: WT)) B.pre
  have hT : ∀ w ∈ WT, w.before _ s = true := fun w h => hts w (inC w h)
  have hown : s.vm.findClass R_M = some m.cls := findClass_of_methodNamed B.named
  have hlocks := B.notSynchronized
  have hS : va_S (aM m0 mt ms mr mk) s.heap s.heap [] := va_S.rf
  have S : CallFix p m c b_M_poke 3 s _ (Cond.code y_M_poke b_M_poke 3 none :: WT) R_M := ⟨hx, hb, hml, hown, hts⟩
  have hl := lv_entry ([.ref m0, .int x, .int y]) (n := 3) (Nat.le_of_ble_eq_true rfl)
  rw [lg_entry_eq]
  generalize (lg_sl ([.ref m0, .int x, .int y]) ++ List.replicate (3 - (lg_sl ([.ref m0, .int x, .int y])).length) Slot.unset).toArray = ls at hl ⊢
  have hl : lv_has ls 3 [(0, .ref m0), (1, .int x), (2, .int y)] := hl
  have hA : ∀ q, aM m0 mt ms mr mk q → aM m0 mt ms mr mk q := fun _ h => h
  refine lv_aload_n hx hb d_M_poke_0 rfl (lv_at hl 0 rfl) ?_
  refine lv_iload_n hx hb d_M_poke_1 rfl (lv_at hl 1 rfl) ?_
  refine call_M_refuses S inC m_1040 ⟨(Nat.le_of_ble_eq_true rfl), (Nat.le_of_ble_eq_true rfl)⟩ hl.1 (Nat.le_of_ble_eq_true rfl) d_M_poke_2 ⟨(Nat.le_of_ble_eq_true rfl), (Nat.le_of_ble_eq_true rfl)⟩ hK ap ok hS hA hw (fun H locs hw hS _ => ?_)
  refine lv_if_ne (tgt := 19) hx hb d_M_poke_5 (by decide) (fun _ => ?_) (fun q => absurd q hr1)
  exact W.vret hx hb hr (fun t ht hW => ⟨⟨(), rfl, trivial, mtp_at ht (⟨_, _, _, _, _, _, ok, hw⟩)⟩, hS.F ht⟩) hS.2.2 d_M_poke_19

theorem call_M_pokeX {p : Program} {l : Launch} {e : Env} {R : Room} {s : State} {m : MethodId} {args : Array Value} {below : List Frame} {meth : Method} {c : Code} {H : Heap} {locs : List Loc} {cells slots : Nat} {Q : State → Prop} {cc : ByteArray} {pc nL idx : Nat} {ls : Array Slot} {rest : List Value} {Ts : List Cond} {own : String} {A0 : Nat → Prop} {H0 : Heap} {dC : Nat → ClassId} {dI : Nat → Nat → Nat} {cI cC : ClassId} {m0 mt ms mr mk : Nat} {th yb bi d a b f : Int32} {str fk : Nat → Int32} {st : MT} {x y : Int32} (S : CallFix p m c cc nL s args Ts own) (hTs : ∀ w ∈ WT, w ∈ Ts) (hlk : Cond.methodLink own idx y_M_poke ∈ WT) (hR : 1 + 1 ≤ R.frames ∧ 8 + (3 + 11) + 21 ≤ R.locals) (hsz : ls.size = nL) (hrm : (rest.map fun v => v.category).sum ≤ 8) (hdg : decode cc pc = .ok (.invokevirtual idx, 3)) (hc : cells ≤ R.cells ∧ slots ≤ R.slots) (hK : rK dC dI cI cC s) (ap : apM m0 mt ms mr mk) (ok : mOk d a b) (hS : va_S A0 H0 H locs) (hA : ∀ q, aM m0 mt ms mr mk q → A0 q) (hw : mwd dC dI cI cC m0 mt ms mr mk th yb bi d a b f str fk st H) (hr1 : ¬ rf x = 0) (kk : ∀ (H1 : Heap) (locs1 : List Loc), mtp dC dI cI cC m0 mt ms mr mk (rf x) yb str st H1 → va_S A0 H0 H1 locs1 → (H.size ≤ H1.size ∧ ∀ q : Nat, q < H.size → ¬ aM m0 mt ms mr mk q → H1[q]? = H[q]?) → W p l e R s m args below meth c H1 locs1 cells slots Q (F0 m (pc + 3) ls (rest))) : W p l e R s m args below meth c H locs cells slots Q (F0 m pc ls (.int y :: .int x :: .ref m0 :: rest)) :=
  va_callv (va_runV (As := [.int x, .int y]) (rest := rest) S (c_M_pokeX l dC dI cI cC m0 mt ms mr mk th yb bi d a b f str fk st x y) (cwV 2 S.2.2.2.2 (gV hTs hlk m_1037 m_1038 m_52 m_1039) rfl rfl rfl (by decide +kernel) hR) ⟨fun a U g mk q => ⟨q.1, ⟨q.2.1.blind, q.2.2⟩⟩, mwd.recv hK hw, fun U hU hW => ⟨rfl, ⟨mU.at hK ap ok hw hU hW, hr1⟩⟩⟩ rfl rfl hsz rfl (lv_room hrm) hdg hc) hS (fun q _ h => hA q h) hA (fun u t H1 locs1 ht hvm hp hB hz hk hS1 => kk H1 locs1 (by rw [← ht]; exact hB) hS1 ⟨hz, hk⟩)

set_option maxRecDepth 100000 in
set_option maxHeartbeats 4000000 in
theorem c_M_poke (l : Launch) (dC : Nat → ClassId) (dI : Nat → Nat → Nat) (cI cC : ClassId) (m0 mt ms mr mk : Nat) (th yb bi d a b f : Int32) (str fk : Nat → Int32) (st : MT) (h : Nat) (y : Int32) : Met l y_M_poke (Cond.code y_M_poke b_M_poke 3 none :: WT) ({ frames := 1, cells := 0, slots := 0, locals := 21 }) (va_Pc [.ref m0, .int (nI h), .int y] (fun U => mU dC dI cI cC m0 mt ms mr mk th yb bi d a b f str fk st U ∧ h < 256)) (va_Qv (fun _ : Unit => True) (fun _ t => mtp dC dI cI cC m0 mt ms mr mk 0 yb (upd str h (y &&& 255)) st t.heap) (aM m0 mt ms mr mk)) 0 0 (aM m0 mt ms mr mk) := by
  refine va_MetF (cc := b_M_poke) (maxL := 3) (ret := none) (by decide +kernel) rfl ?_
  intro p e s m args below meth c s₁ B hml hv
  obtain ⟨rfl, ⟨hK, ap, ok, hw⟩, hh⟩ := hv
  have hx := B.exec
  have hb := B.bytes
  have hr := B.returns
  have hts := atoms_spec (ws := (Cond.code y_M_poke b_M_poke 3 none :: WT)) B.pre
  have hT : ∀ w ∈ WT, w.before _ s = true := fun w h => hts w (inC w h)
  have hown : s.vm.findClass R_M = some m.cls := findClass_of_methodNamed B.named
  have hlocks := B.notSynchronized
  have hS : va_S (aM m0 mt ms mr mk) s.heap s.heap [] := va_S.rf
  have S : CallFix p m c b_M_poke 3 s _ (Cond.code y_M_poke b_M_poke 3 none :: WT) R_M := ⟨hx, hb, hml, hown, hts⟩
  have hl := lv_entry ([.ref m0, .int (nI h), .int y]) (n := 3) (Nat.le_of_ble_eq_true rfl)
  rw [lg_entry_eq]
  generalize (lg_sl ([.ref m0, .int (nI h), .int y]) ++ List.replicate (3 - (lg_sl ([.ref m0, .int (nI h), .int y])).length) Slot.unset).toArray = ls at hl ⊢
  have hl : lv_has ls 3 [(0, .ref m0), (1, .int (nI h)), (2, .int y)] := hl
  have hA : ∀ q, aM m0 mt ms mr mk q → aM m0 mt ms mr mk q := fun _ h => h
  refine lv_aload_n hx hb d_M_poke_0 rfl (lv_at hl 0 rfl) ?_
  refine lv_iload_n hx hb d_M_poke_1 rfl (lv_at hl 1 rfl) ?_
  refine call_M_refuses S inC m_1040 ⟨(Nat.le_of_ble_eq_true rfl), (Nat.le_of_ble_eq_true rfl)⟩ hl.1 (Nat.le_of_ble_eq_true rfl) d_M_poke_2 ⟨(Nat.le_of_ble_eq_true rfl), (Nat.le_of_ble_eq_true rfl)⟩ hK ap ok hS hA hw (fun H locs hw hS _ => ?_)
  rw [rf_in hh] at hw
  rw [rf_in hh]
  refine lv_if_ne (tgt := 19) hx hb d_M_poke_5 (by decide) (fun q => absurd rfl q) (fun _ => ?_)
  obtain ⟨rg, ft, h1, h2, hP⟩ := hw
  have hD := wM_D ap hA (cI := cI) (cC := cC) (th := 0) (yb := yb) (bi := bi) (d := d) (a := a) (b := b) (f := f) (op := (st).1) (ln := (st).2.1) (sz := nI (st).2.2.length) (str := str) (rg := rg) (ft := ft) (fk := fk)
  refine lv_aload_n hx hb d_M_poke_8 rfl (lv_at hl 0 rfl) ?_
  refine va_get (D := (dC, dI)) (ci := 2) (v := .ref ms) (C := R_M) (T := F_M) (N := 14) hx hb hT i_M hown hK hP 0 rfl rfl 6 (by decide) (hT _ m_759) (fun _ h9 => h9) rfl d_M_poke_9 ?_
  refine lv_iload_n hx hb d_M_poke_12 rfl (lv_at hl 1 rfl) ?_
  refine lv_iload_n hx hb d_M_poke_13 rfl (lv_at hl 2 rfl) ?_
  refine lv_sipush (v := 255) hx hb d_M_poke_14 (by decide) ?_
  refine lv_iand hx hb d_M_poke_17 ?_
  refine va_iast (D := (dC, dI)) hx hb hK hP hD hS 2 0 rfl rfl (vp_in_nI hh (by omega)) d_M_poke_18 (fun H locs hP hD hS => ?_)
  rw [nI_clamp (by omega)] at hP
  exact W.vret hx hb hr (fun t ht hW => ⟨⟨(), rfl, trivial, mtp_at ht (⟨_, _, _, _, _, _, ok, ⟨rg, ft, h1, h2, hP⟩⟩)⟩, hS.F ht⟩) hS.2.2 d_M_poke_19

theorem call_M_poke {p : Program} {l : Launch} {e : Env} {R : Room} {s : State} {m : MethodId} {args : Array Value} {below : List Frame} {meth : Method} {c : Code} {H : Heap} {locs : List Loc} {cells slots : Nat} {Q : State → Prop} {cc : ByteArray} {pc nL idx : Nat} {ls : Array Slot} {rest : List Value} {Ts : List Cond} {own : String} {A0 : Nat → Prop} {H0 : Heap} {dC : Nat → ClassId} {dI : Nat → Nat → Nat} {cI cC : ClassId} {m0 mt ms mr mk : Nat} {th yb bi d a b f : Int32} {str fk : Nat → Int32} {st : MT} {h : Nat} {y : Int32} (S : CallFix p m c cc nL s args Ts own) (hTs : ∀ w ∈ WT, w ∈ Ts) (hlk : Cond.methodLink own idx y_M_poke ∈ WT) (hR : 1 + 1 ≤ R.frames ∧ 8 + (3 + 11) + 21 ≤ R.locals) (hsz : ls.size = nL) (hrm : (rest.map fun v => v.category).sum ≤ 8) (hdg : decode cc pc = .ok (.invokevirtual idx, 3)) (hc : cells ≤ R.cells ∧ slots ≤ R.slots) (hK : rK dC dI cI cC s) (ap : apM m0 mt ms mr mk) (ok : mOk d a b) (hS : va_S A0 H0 H locs) (hA : ∀ q, aM m0 mt ms mr mk q → A0 q) (hw : mwd dC dI cI cC m0 mt ms mr mk th yb bi d a b f str fk st H) (hh : h < 256) (kk : ∀ (H1 : Heap) (locs1 : List Loc), mtp dC dI cI cC m0 mt ms mr mk 0 yb (upd str h (y &&& 255)) st H1 → va_S A0 H0 H1 locs1 → (H.size ≤ H1.size ∧ ∀ q : Nat, q < H.size → ¬ aM m0 mt ms mr mk q → H1[q]? = H[q]?) → W p l e R s m args below meth c H1 locs1 cells slots Q (F0 m (pc + 3) ls (rest))) : W p l e R s m args below meth c H locs cells slots Q (F0 m pc ls (.int y :: .int (nI h) :: .ref m0 :: rest)) :=
  va_callv (va_runV (As := [.int (nI h), .int y]) (rest := rest) S (c_M_poke l dC dI cI cC m0 mt ms mr mk th yb bi d a b f str fk st h y) (cwV 2 S.2.2.2.2 (gV hTs hlk m_1037 m_1038 m_52 m_1039) rfl rfl rfl (by decide +kernel) hR) ⟨fun a U g mk q => ⟨q.1, ⟨q.2.1.blind, q.2.2⟩⟩, mwd.recv hK hw, fun U hU hW => ⟨rfl, ⟨mU.at hK ap ok hw hU hW, hh⟩⟩⟩ rfl rfl hsz rfl (lv_room hrm) hdg hc) hS (fun q _ h => hA q h) hA (fun u t H1 locs1 ht hvm hp hB hz hk hS1 => kk H1 locs1 (by rw [← ht]; exact hB) hS1 ⟨hz, hk⟩)

set_option maxRecDepth 100000 in
set_option maxHeartbeats 4000000 in
theorem c_M_atX (l : Launch) (dC : Nat → ClassId) (dI : Nat → Nat → Nat) (cI cC : ClassId) (m0 mt ms mr mk : Nat) (th yb bi d a b f : Int32) (str fk : Nat → Int32) (st : MT) (x : Int32) : Met l y_M_at (Cond.code y_M_at b_M_at 2 (some .int) :: WT) ({ frames := 8, cells := 0, slots := 0, locals := 174 }) (va_Pc [.ref m0, .int x] (fun U => mU dC dI cI cC m0 mt ms mr mk th yb bi d a b f str fk st U ∧ ¬ rf x = 0)) (va_Qi (fun (r : Int32) (_ : Unit) => r = 0) (fun _ t => mtp dC dI cI cC m0 mt ms mr mk (rf x) yb str st t.heap) (aM m0 mt ms mr mk)) 0 0 (aM m0 mt ms mr mk) := by
  refine va_MetF (cc := b_M_at) (maxL := 2) (ret := (some .int)) (by decide +kernel) rfl ?_
  intro p e s m args below meth c s₁ B hml hv
  obtain ⟨rfl, ⟨hK, ap, ok, hw⟩, hr1⟩ := hv
  have hx := B.exec
  have hb := B.bytes
  have hr := B.returns
  have hts := atoms_spec (ws := (Cond.code y_M_at b_M_at 2 (some .int) :: WT)) B.pre
  have hT : ∀ w ∈ WT, w.before _ s = true := fun w h => hts w (inC w h)
  have hown : s.vm.findClass R_M = some m.cls := findClass_of_methodNamed B.named
  have hlocks := B.notSynchronized
  have hS : va_S (aM m0 mt ms mr mk) s.heap s.heap [] := va_S.rf
  have S : CallFix p m c b_M_at 2 s _ (Cond.code y_M_at b_M_at 2 (some .int) :: WT) R_M := ⟨hx, hb, hml, hown, hts⟩
  have hl := lv_entry ([.ref m0, .int x]) (n := 2) (Nat.le_of_ble_eq_true rfl)
  rw [lg_entry_eq]
  generalize (lg_sl ([.ref m0, .int x]) ++ List.replicate (2 - (lg_sl ([.ref m0, .int x])).length) Slot.unset).toArray = ls at hl ⊢
  have hl : lv_has ls 2 [(0, .ref m0), (1, .int x)] := hl
  have hA : ∀ q, aM m0 mt ms mr mk q → aM m0 mt ms mr mk q := fun _ h => h
  refine lv_aload_n hx hb d_M_at_0 rfl (lv_at hl 0 rfl) ?_
  refine lv_iload_n hx hb d_M_at_1 rfl (lv_at hl 1 rfl) ?_
  refine call_M_refuses S inC m_1040 ⟨(Nat.le_of_ble_eq_true rfl), (Nat.le_of_ble_eq_true rfl)⟩ hl.1 (Nat.le_of_ble_eq_true rfl) d_M_at_2 ⟨(Nat.le_of_ble_eq_true rfl), (Nat.le_of_ble_eq_true rfl)⟩ hK ap ok hS hA hw (fun H locs hw hS _ => ?_)
  refine lv_if_ne (tgt := 21) hx hb d_M_at_5 (by decide) (fun _ => ?_) (fun q => absurd q hr1)
  refine lv_iconst (v := 0) hx hb d_M_at_21 (by decide) ?_
  exact W.iret (v := 0) hx hb hr (fun t ht hW => ⟨⟨_, (), rfl, rfl, mtp_at ht (⟨_, _, _, _, _, _, ok, hw⟩)⟩, hS.F ht⟩) hS.2.2 d_M_at_22

theorem call_M_atX {p : Program} {l : Launch} {e : Env} {R : Room} {s : State} {m : MethodId} {args : Array Value} {below : List Frame} {meth : Method} {c : Code} {H : Heap} {locs : List Loc} {cells slots : Nat} {Q : State → Prop} {cc : ByteArray} {pc nL idx : Nat} {ls : Array Slot} {rest : List Value} {Ts : List Cond} {own : String} {A0 : Nat → Prop} {H0 : Heap} {dC : Nat → ClassId} {dI : Nat → Nat → Nat} {cI cC : ClassId} {m0 mt ms mr mk : Nat} {th yb bi d a b f : Int32} {str fk : Nat → Int32} {st : MT} {x : Int32} (S : CallFix p m c cc nL s args Ts own) (hTs : ∀ w ∈ WT, w ∈ Ts) (hlk : Cond.methodLink own idx y_M_at ∈ WT) (hR : 8 + 1 ≤ R.frames ∧ 8 + (2 + 11) + 174 ≤ R.locals) (hsz : ls.size = nL) (hrm : (rest.map fun v => v.category).sum ≤ 8) (hdg : decode cc pc = .ok (.invokevirtual idx, 3)) (hc : cells ≤ R.cells ∧ slots ≤ R.slots) (hK : rK dC dI cI cC s) (ap : apM m0 mt ms mr mk) (ok : mOk d a b) (hS : va_S A0 H0 H locs) (hA : ∀ q, aM m0 mt ms mr mk q → A0 q) (hw : mwd dC dI cI cC m0 mt ms mr mk th yb bi d a b f str fk st H) (hr1 : ¬ rf x = 0) (kk : ∀ (H1 : Heap) (locs1 : List Loc), mtp dC dI cI cC m0 mt ms mr mk (rf x) yb str st H1 → va_S A0 H0 H1 locs1 → (H.size ≤ H1.size ∧ ∀ q : Nat, q < H.size → ¬ aM m0 mt ms mr mk q → H1[q]? = H[q]?) → W p l e R s m args below meth c H1 locs1 cells slots Q (F0 m (pc + 3) ls (.int (0) :: rest))) : W p l e R s m args below meth c H locs cells slots Q (F0 m pc ls (.int x :: .ref m0 :: rest)) :=
  va_calli (va_runV (As := [.int x]) (rest := rest) S (c_M_atX l dC dI cI cC m0 mt ms mr mk th yb bi d a b f str fk st x) (cwV 1 S.2.2.2.2 (gV hTs hlk m_1045 m_1046 m_52 m_1047) rfl rfl rfl (by decide +kernel) hR) ⟨fun a U g mk q => ⟨q.1, ⟨q.2.1.blind, q.2.2⟩⟩, mwd.recv hK hw, fun U hU hW => ⟨rfl, ⟨mU.at hK ap ok hw hU hW, hr1⟩⟩⟩ rfl rfl hsz rfl (lv_room hrm) hdg hc) hS (fun q _ h => hA q h) hA (fun r u t H1 locs1 ht hvm hp hB hz hk hS1 => by subst hp; exact kk H1 locs1 (by rw [← ht]; exact hB) hS1 ⟨hz, hk⟩)

set_option maxRecDepth 100000 in
set_option maxHeartbeats 4000000 in
theorem c_M_atN (l : Launch) (dC : Nat → ClassId) (dI : Nat → Nat → Nat) (cI cC : ClassId) (m0 mt ms mr mk : Nat) (th yb bi d a b f : Int32) (str fk : Nat → Int32) (st : MT) (h : Nat) : Met l y_M_at (Cond.code y_M_at b_M_at 2 (some .int) :: WT) ({ frames := 8, cells := 0, slots := 0, locals := 174 }) (va_Pc [.ref m0, .int (nI h)] (fun U => mU dC dI cI cC m0 mt ms mr mk th yb bi d a b f str fk st U ∧ h < 256 ∧ 256 < h + bt str h)) (va_Qi (fun (r : Int32) (_ : Unit) => r = 0) (fun _ t => mtp dC dI cI cC m0 mt ms mr mk 0 yb str st t.heap) (aM m0 mt ms mr mk)) 0 0 (aM m0 mt ms mr mk) := by
  refine va_MetF (cc := b_M_at) (maxL := 2) (ret := (some .int)) (by decide +kernel) rfl ?_
  intro p e s m args below meth c s₁ B hml hv
  obtain ⟨rfl, ⟨hK, ap, ok, hw⟩, hh, hn⟩ := hv
  have hx := B.exec
  have hb := B.bytes
  have hr := B.returns
  have hts := atoms_spec (ws := (Cond.code y_M_at b_M_at 2 (some .int) :: WT)) B.pre
  have hT : ∀ w ∈ WT, w.before _ s = true := fun w h => hts w (inC w h)
  have hown : s.vm.findClass R_M = some m.cls := findClass_of_methodNamed B.named
  have hlocks := B.notSynchronized
  have hS : va_S (aM m0 mt ms mr mk) s.heap s.heap [] := va_S.rf
  have S : CallFix p m c b_M_at 2 s _ (Cond.code y_M_at b_M_at 2 (some .int) :: WT) R_M := ⟨hx, hb, hml, hown, hts⟩
  have hl := lv_entry ([.ref m0, .int (nI h)]) (n := 2) (Nat.le_of_ble_eq_true rfl)
  rw [lg_entry_eq]
  generalize (lg_sl ([.ref m0, .int (nI h)]) ++ List.replicate (2 - (lg_sl ([.ref m0, .int (nI h)])).length) Slot.unset).toArray = ls at hl ⊢
  have hl : lv_has ls 2 [(0, .ref m0), (1, .int (nI h))] := hl
  have hA : ∀ q, aM m0 mt ms mr mk q → aM m0 mt ms mr mk q := fun _ h => h
  refine lv_aload_n hx hb d_M_at_0 rfl (lv_at hl 0 rfl) ?_
  refine lv_iload_n hx hb d_M_at_1 rfl (lv_at hl 1 rfl) ?_
  refine call_M_refuses S inC m_1040 ⟨(Nat.le_of_ble_eq_true rfl), (Nat.le_of_ble_eq_true rfl)⟩ hl.1 (Nat.le_of_ble_eq_true rfl) d_M_at_2 ⟨(Nat.le_of_ble_eq_true rfl), (Nat.le_of_ble_eq_true rfl)⟩ hK ap ok hS hA hw (fun H locs hw hS _ => ?_)
  rw [rf_in hh] at hw
  rw [rf_in hh]
  refine lv_if_ne (tgt := 21) hx hb d_M_at_5 (by decide) (fun q => absurd rfl q) (fun _ => ?_)
  refine lv_iload_n hx hb d_M_at_8 rfl (lv_at hl 1 rfl) ?_
  refine lv_aload_n hx hb d_M_at_9 rfl (lv_at hl 0 rfl) ?_
  refine lv_iload_n hx hb d_M_at_10 rfl (lv_at hl 1 rfl) ?_
  refine call_M_long4 S inC m_1048 ⟨(Nat.le_of_ble_eq_true rfl), (Nat.le_of_ble_eq_true rfl)⟩ hl.1 (Nat.le_of_ble_eq_true rfl) d_M_at_11 ⟨(Nat.le_of_ble_eq_true rfl), (Nat.le_of_ble_eq_true rfl)⟩ hK hw hh ?_
  refine lv_iadd hx hb d_M_at_14 ?_
  rw [nI_add]
  have hb4 := bt_24 str h
  refine lv_sipush (v := nI 256) hx hb d_M_at_15 (by decide) ?_
  refine lv_icmp_le (tgt := 23) hx hb d_M_at_18 (by decide) (fun q => absurd ((nI_leI (by omega) (by omega)).mp q) (by omega)) (fun _ => ?_)
  refine lv_iconst (v := 0) hx hb d_M_at_21 (by decide) ?_
  exact W.iret (v := 0) hx hb hr (fun t ht hW => ⟨⟨_, (), rfl, rfl, mtp_at ht (⟨_, _, _, _, _, _, ok, hw⟩)⟩, hS.F ht⟩) hS.2.2 d_M_at_22

theorem call_M_atN {p : Program} {l : Launch} {e : Env} {R : Room} {s : State} {m : MethodId} {args : Array Value} {below : List Frame} {meth : Method} {c : Code} {H : Heap} {locs : List Loc} {cells slots : Nat} {Q : State → Prop} {cc : ByteArray} {pc nL idx : Nat} {ls : Array Slot} {rest : List Value} {Ts : List Cond} {own : String} {A0 : Nat → Prop} {H0 : Heap} {dC : Nat → ClassId} {dI : Nat → Nat → Nat} {cI cC : ClassId} {m0 mt ms mr mk : Nat} {th yb bi d a b f : Int32} {str fk : Nat → Int32} {st : MT} {h : Nat} (S : CallFix p m c cc nL s args Ts own) (hTs : ∀ w ∈ WT, w ∈ Ts) (hlk : Cond.methodLink own idx y_M_at ∈ WT) (hR : 8 + 1 ≤ R.frames ∧ 8 + (2 + 11) + 174 ≤ R.locals) (hsz : ls.size = nL) (hrm : (rest.map fun v => v.category).sum ≤ 8) (hdg : decode cc pc = .ok (.invokevirtual idx, 3)) (hc : cells ≤ R.cells ∧ slots ≤ R.slots) (hK : rK dC dI cI cC s) (ap : apM m0 mt ms mr mk) (ok : mOk d a b) (hS : va_S A0 H0 H locs) (hA : ∀ q, aM m0 mt ms mr mk q → A0 q) (hw : mwd dC dI cI cC m0 mt ms mr mk th yb bi d a b f str fk st H) (hh : h < 256) (hn : 256 < h + bt str h) (kk : ∀ (H1 : Heap) (locs1 : List Loc), mtp dC dI cI cC m0 mt ms mr mk 0 yb str st H1 → va_S A0 H0 H1 locs1 → (H.size ≤ H1.size ∧ ∀ q : Nat, q < H.size → ¬ aM m0 mt ms mr mk q → H1[q]? = H[q]?) → W p l e R s m args below meth c H1 locs1 cells slots Q (F0 m (pc + 3) ls (.int (0) :: rest))) : W p l e R s m args below meth c H locs cells slots Q (F0 m pc ls (.int (nI h) :: .ref m0 :: rest)) :=
  va_calli (va_runV (As := [.int (nI h)]) (rest := rest) S (c_M_atN l dC dI cI cC m0 mt ms mr mk th yb bi d a b f str fk st h) (cwV 1 S.2.2.2.2 (gV hTs hlk m_1045 m_1046 m_52 m_1047) rfl rfl rfl (by decide +kernel) hR) ⟨fun a U g mk q => ⟨q.1, ⟨q.2.1.blind, q.2.2⟩⟩, mwd.recv hK hw, fun U hU hW => ⟨rfl, ⟨mU.at hK ap ok hw hU hW, hh, hn⟩⟩⟩ rfl rfl hsz rfl (lv_room hrm) hdg hc) hS (fun q _ h => hA q h) hA (fun r u t H1 locs1 ht hvm hp hB hz hk hS1 => by subst hp; exact kk H1 locs1 (by rw [← ht]; exact hB) hS1 ⟨hz, hk⟩)

set_option maxRecDepth 100000 in
set_option maxHeartbeats 4000000 in
theorem c_M_at (l : Launch) (dC : Nat → ClassId) (dI : Nat → Nat → Nat) (cI cC : ClassId) (m0 mt ms mr mk : Nat) (th yb bi d a b f : Int32) (str fk : Nat → Int32) (st : MT) (h : Nat) : Met l y_M_at (Cond.code y_M_at b_M_at 2 (some .int) :: WT) ({ frames := 8, cells := 0, slots := 0, locals := 174 }) (va_Pc [.ref m0, .int (nI h)] (fun U => mU dC dI cI cC m0 mt ms mr mk th yb bi d a b f str fk st U ∧ h < 256 ∧ h + bt str h ≤ 256)) (va_Qi (fun (r : Int32) (_ : Unit) => r = tbM (tkM str h)) (fun _ t => mtp dC dI cI cC m0 mt ms mr mk 0 (tbM (tkM str h)) str (gU (tkM str h)) t.heap) (aM m0 mt ms mr mk)) 0 0 (aM m0 mt ms mr mk) := by
  refine va_MetF (cc := b_M_at) (maxL := 2) (ret := (some .int)) (by decide +kernel) rfl ?_
  intro p e s m args below meth c s₁ B hml hv
  obtain ⟨rfl, ⟨hK, ap, ok, hw⟩, hh, hn⟩ := hv
  have hx := B.exec
  have hb := B.bytes
  have hr := B.returns
  have hts := atoms_spec (ws := (Cond.code y_M_at b_M_at 2 (some .int) :: WT)) B.pre
  have hT : ∀ w ∈ WT, w.before _ s = true := fun w h => hts w (inC w h)
  have hown : s.vm.findClass R_M = some m.cls := findClass_of_methodNamed B.named
  have hlocks := B.notSynchronized
  have hS : va_S (aM m0 mt ms mr mk) s.heap s.heap [] := va_S.rf
  have S : CallFix p m c b_M_at 2 s _ (Cond.code y_M_at b_M_at 2 (some .int) :: WT) R_M := ⟨hx, hb, hml, hown, hts⟩
  have hl := lv_entry ([.ref m0, .int (nI h)]) (n := 2) (Nat.le_of_ble_eq_true rfl)
  rw [lg_entry_eq]
  generalize (lg_sl ([.ref m0, .int (nI h)]) ++ List.replicate (2 - (lg_sl ([.ref m0, .int (nI h)])).length) Slot.unset).toArray = ls at hl ⊢
  have hl : lv_has ls 2 [(0, .ref m0), (1, .int (nI h))] := hl
  have hA : ∀ q, aM m0 mt ms mr mk q → aM m0 mt ms mr mk q := fun _ h => h
  refine lv_aload_n hx hb d_M_at_0 rfl (lv_at hl 0 rfl) ?_
  refine lv_iload_n hx hb d_M_at_1 rfl (lv_at hl 1 rfl) ?_
  refine call_M_refuses S inC m_1040 ⟨(Nat.le_of_ble_eq_true rfl), (Nat.le_of_ble_eq_true rfl)⟩ hl.1 (Nat.le_of_ble_eq_true rfl) d_M_at_2 ⟨(Nat.le_of_ble_eq_true rfl), (Nat.le_of_ble_eq_true rfl)⟩ hK ap ok hS hA hw (fun H locs hw hS _ => ?_)
  rw [rf_in hh] at hw
  rw [rf_in hh]
  refine lv_if_ne (tgt := 21) hx hb d_M_at_5 (by decide) (fun q => absurd rfl q) (fun _ => ?_)
  refine lv_iload_n hx hb d_M_at_8 rfl (lv_at hl 1 rfl) ?_
  refine lv_aload_n hx hb d_M_at_9 rfl (lv_at hl 0 rfl) ?_
  refine lv_iload_n hx hb d_M_at_10 rfl (lv_at hl 1 rfl) ?_
  refine call_M_long4 S inC m_1048 ⟨(Nat.le_of_ble_eq_true rfl), (Nat.le_of_ble_eq_true rfl)⟩ hl.1 (Nat.le_of_ble_eq_true rfl) d_M_at_11 ⟨(Nat.le_of_ble_eq_true rfl), (Nat.le_of_ble_eq_true rfl)⟩ hK hw hh ?_
  refine lv_iadd hx hb d_M_at_14 ?_
  rw [nI_add]
  have hb4 := bt_24 str h
  refine lv_sipush (v := nI 256) hx hb d_M_at_15 (by decide) ?_
  refine lv_icmp_le (tgt := 23) hx hb d_M_at_18 (by decide) (fun _ => ?_) (fun q => absurd (nI_le hn (by omega)) q)
  refine lv_aload_n hx hb d_M_at_23 rfl (lv_at hl 0 rfl) ?_
  refine lv_aload_n hx hb d_M_at_24 rfl (lv_at hl 0 rfl) ?_
  refine lv_iload_n hx hb d_M_at_25 rfl (lv_at hl 1 rfl) ?_
  refine call_M_take S inC m_1052 ⟨(Nat.le_of_ble_eq_true rfl), (Nat.le_of_ble_eq_true rfl)⟩ hl.1 (Nat.le_of_ble_eq_true rfl) d_M_at_26 ⟨(Nat.le_of_ble_eq_true rfl), (Nat.le_of_ble_eq_true rfl)⟩ hK hw hn ?_
  obtain ⟨rg, ft, h1, h2, hP⟩ := hw
  have hD := wM_D ap hA (cI := cI) (cC := cC) (th := 0) (yb := yb) (bi := bi) (d := d) (a := a) (b := b) (f := f) (op := (st).1) (ln := (st).2.1) (sz := nI (st).2.2.length) (str := str) (rg := rg) (ft := ft) (fk := fk)
  refine va_put (D := (dC, dI)) (ci := 2) (v := .int (tkM str h)) (ty := .int) (C := R_M) (T := F_M) (N := 14) hx hb hT i_M ft_M ft_M_ok n_M hown hK hP hD hS 0 rfl rfl 7 (by decide) (hT _ m_760) (fun _ h9 => h9) rfl (by decide +kernel) rfl rfl (Nat.le_of_ble_eq_true rfl) d_M_at_29 (fun H locs hP hD hS => ?_)
  have hw : mwd dC dI cI cC m0 mt ms mr mk 0 yb (tkM str h) d a b f str fk st H := ⟨rg, ft, h1, h2, hP⟩
  refine lv_aload_n hx hb d_M_at_32 rfl (lv_at hl 0 rfl) ?_
  refine call_M_understand S inC m_805 ⟨(Nat.le_of_ble_eq_true rfl), (Nat.le_of_ble_eq_true rfl)⟩ hl.1 (Nat.le_of_ble_eq_true rfl) d_M_at_33 ⟨(Nat.le_of_ble_eq_true rfl), (Nat.le_of_ble_eq_true rfl)⟩ hK ap ok hS hA hw (fun H locs hw hS _ => ?_)
  obtain ⟨d1, a1, b1, f1, ok, hw⟩ := hw
  obtain ⟨rg, ft, h1, h2, hP⟩ := id hw
  refine lv_aload_n hx hb d_M_at_36 rfl (lv_at hl 0 rfl) ?_
  refine va_get (D := (dC, dI)) (ci := 2) (v := .int (tbM (tkM str h))) (C := R_M) (T := F_M) (N := 14) hx hb hT i_M hown hK hP 0 rfl rfl 3 (by decide) (hT _ m_756) (fun _ h9 => h9) rfl d_M_at_37 ?_
  exact W.iret (v := tbM (tkM str h)) hx hb hr (fun t ht hW => ⟨⟨_, (), rfl, rfl, mtp_at ht (⟨_, _, _, _, _, _, ok, hw⟩)⟩, hS.F ht⟩) hS.2.2 d_M_at_40

theorem call_M_at {p : Program} {l : Launch} {e : Env} {R : Room} {s : State} {m : MethodId} {args : Array Value} {below : List Frame} {meth : Method} {c : Code} {H : Heap} {locs : List Loc} {cells slots : Nat} {Q : State → Prop} {cc : ByteArray} {pc nL idx : Nat} {ls : Array Slot} {rest : List Value} {Ts : List Cond} {own : String} {A0 : Nat → Prop} {H0 : Heap} {dC : Nat → ClassId} {dI : Nat → Nat → Nat} {cI cC : ClassId} {m0 mt ms mr mk : Nat} {th yb bi d a b f : Int32} {str fk : Nat → Int32} {st : MT} {h : Nat} (S : CallFix p m c cc nL s args Ts own) (hTs : ∀ w ∈ WT, w ∈ Ts) (hlk : Cond.methodLink own idx y_M_at ∈ WT) (hR : 8 + 1 ≤ R.frames ∧ 8 + (2 + 11) + 174 ≤ R.locals) (hsz : ls.size = nL) (hrm : (rest.map fun v => v.category).sum ≤ 8) (hdg : decode cc pc = .ok (.invokevirtual idx, 3)) (hc : cells ≤ R.cells ∧ slots ≤ R.slots) (hK : rK dC dI cI cC s) (ap : apM m0 mt ms mr mk) (ok : mOk d a b) (hS : va_S A0 H0 H locs) (hA : ∀ q, aM m0 mt ms mr mk q → A0 q) (hw : mwd dC dI cI cC m0 mt ms mr mk th yb bi d a b f str fk st H) (hh : h < 256) (hn : h + bt str h ≤ 256) (kk : ∀ (H1 : Heap) (locs1 : List Loc), mtp dC dI cI cC m0 mt ms mr mk 0 (tbM (tkM str h)) str (gU (tkM str h)) H1 → va_S A0 H0 H1 locs1 → (H.size ≤ H1.size ∧ ∀ q : Nat, q < H.size → ¬ aM m0 mt ms mr mk q → H1[q]? = H[q]?) → W p l e R s m args below meth c H1 locs1 cells slots Q (F0 m (pc + 3) ls (.int (tbM (tkM str h)) :: rest))) : W p l e R s m args below meth c H locs cells slots Q (F0 m pc ls (.int (nI h) :: .ref m0 :: rest)) :=
  va_calli (va_runV (As := [.int (nI h)]) (rest := rest) S (c_M_at l dC dI cI cC m0 mt ms mr mk th yb bi d a b f str fk st h) (cwV 1 S.2.2.2.2 (gV hTs hlk m_1045 m_1046 m_52 m_1047) rfl rfl rfl (by decide +kernel) hR) ⟨fun a U g mk q => ⟨q.1, ⟨q.2.1.blind, q.2.2⟩⟩, mwd.recv hK hw, fun U hU hW => ⟨rfl, ⟨mU.at hK ap ok hw hU hW, hh, hn⟩⟩⟩ rfl rfl hsz rfl (lv_room hrm) hdg hc) hS (fun q _ h => hA q h) hA (fun r u t H1 locs1 ht hvm hp hB hz hk hS1 => by subst hp; exact kk H1 locs1 (by rw [← ht]; exact hB) hS1 ⟨hz, hk⟩)
