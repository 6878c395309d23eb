theorem it_len {A B : MT} {n : Nat} (c : Prop) [Decidable c] (ha : A.2.2.length ≤ n) (hb : B.2.2.length ≤ n) : (if c then A else B).2.2.length ≤ n := by
  by_cases h : c
  · rw [if_pos h]; exact ha
  · rw [if_neg h]; exact hb
theorem p5_in (bi x : Int32) : vp_in (f_M_part bi x 5) 32 := by
  obtain ⟨j, hj, e⟩ := pk_andE (ushr bi x) (m := ((1 : Int32) <<< ((5 : Int32) &&& 31)) - 1) 5 (by decide)
  rw [f_M_part, e]
  exact vp_in_nI hj (by decide)
theorem lo_in (bi x : Int32) : vp_in ((8 : Int32) + f_M_part bi x 3) 32 := by
  obtain ⟨j, hj, e⟩ := pk_andE (ushr bi x) (m := ((1 : Int32) <<< ((3 : Int32) &&& 31)) - 1) 3 (by decide)
  rw [f_M_part, e, show (8 : Int32) + nI j = nI (8 + j) from nI_add 8 j]
  exact vp_in_nI (by omega) (by decide)
def mwe (dC : Nat → ClassId) (dI : Nat → Nat → Nat) (cI cC : ClassId) (m0 mt ms mr mk : Nat) (th yb bi : Int32) (str fk : Nat → Int32) (st : MT) (H : Heap) : Prop := ∃ d a b f : Int32, mOk d a b ∧ mwd dC dI cI cC m0 mt ms mr mk th yb bi d a b f str fk st H

def f_M_six (bi : Int32) : Int32 := f_M_part bi 2 5 - ((32 : Int32) * f_M_part bi 12 1)
set_option maxRecDepth 100000 in
set_option maxHeartbeats 4000000 in
theorem c_M_six (l : Launch) (adE adK adV : Nat → Nat) (dC : Nat → ClassId) (dI : Nat → Nat → Nat) (cI cC : ClassId) (m0 mt ms mr mk : Nat) (th yb bi d a b f : Int32) (str fk : Nat → Int32) (st : MT) : Met l y_M_six (Cond.code y_M_six b_M_six 1 (some .int) :: WT) ({ frames := 1, cells := 0, slots := 0, locals := 22 }) (va_Pc [.ref m0] (fun U => rK dC dI cI cC U ∧ mwd dC dI cI cC m0 mt ms mr mk th yb bi d a b f str fk st U.heap)) (vp_Si (fun r => r = f_M_six bi)) 0 0 no := by
  refine va_MetF (cc := b_M_six) (maxL := 1) (ret := (some .int)) (by decide +kernel) rfl ?_
  intro p e s m args below meth c s₁ B hml hv
  obtain ⟨rfl, hK, hw⟩ := hv
  have hx := B.exec
  have hb := B.bytes
  have hr := B.returns
  have hts := atoms_spec (ws := (Cond.code y_M_six b_M_six 1 (some .int) :: WT)) B.pre
  have hT : ∀ w ∈ WT, w.before _ s = true := fun w h => hts w (inC w h)
  have hown : s.vm.findClass R_M = some m.cls := findClass_of_methodNamed B.named
  have hlocks := B.notSynchronized
  have hS : va_S no s.heap s.heap [] := va_S.rf
  have S : CallFix p m c b_M_six 1 s _ (Cond.code y_M_six b_M_six 1 (some .int) :: WT) R_M := ⟨hx, hb, hml, hown, hts⟩
  have hl := lv_entry ([.ref m0]) (n := 1) (Nat.le_of_ble_eq_true rfl)
  rw [lg_entry_eq]
  generalize (lg_sl ([.ref m0]) ++ List.replicate (1 - (lg_sl ([.ref m0])).length) Slot.unset).toArray = ls at hl ⊢
  have hl : lv_has ls 1 [(0, .ref m0)] := hl
  refine lv_aload_n hx hb d_M_six_0 rfl (lv_at hl 0 rfl) ?_
  refine lv_iconst (v := 2) hx hb d_M_six_1 (by decide) ?_
  refine lv_iconst (v := 5) hx hb d_M_six_2 (by decide) ?_
  refine call_M_part S inC m_809 ⟨(Nat.le_of_ble_eq_true rfl), (Nat.le_of_ble_eq_true rfl)⟩ hl.1 (Nat.le_of_ble_eq_true rfl) d_M_six_3 ⟨(Nat.le_of_ble_eq_true rfl), (Nat.le_of_ble_eq_true rfl)⟩ hK hw ?_
  refine lv_bipush (v := 32) hx hb d_M_six_6 (by decide) ?_
  refine lv_aload_n hx hb d_M_six_8 rfl (lv_at hl 0 rfl) ?_
  refine lv_bipush (v := 12) hx hb d_M_six_9 (by decide) ?_
  refine lv_iconst (v := 1) hx hb d_M_six_11 (by decide) ?_
  refine call_M_part S inC m_809 ⟨(Nat.le_of_ble_eq_true rfl), (Nat.le_of_ble_eq_true rfl)⟩ hl.1 (Nat.le_of_ble_eq_true rfl) d_M_six_12 ⟨(Nat.le_of_ble_eq_true rfl), (Nat.le_of_ble_eq_true rfl)⟩ hK hw ?_
  refine lv_imul hx hb d_M_six_15 ?_
  refine lv_isub hx hb d_M_six_16 ?_
  exact W.iret (v := f_M_six bi) hx hb hr (fun t ht hW => ⟨_, rfl, rfl, ht⟩) (fun _ h => by cases h) d_M_six_17

theorem call_M_six {p : Program} {l : Launch} {e : Env} {R : Room} {s : State} {m : MethodId} {args : Array Value} {below : List Frame} {meth : Method} {c : Code} {H : Heap} {locs : List Loc} {cells slots : Nat} {Q : State → Prop} {cc : ByteArray} {pc nL idx : Nat} {ls : Array Slot} {rest : List Value} {Ts : List Cond} {own : String} {dC : Nat → ClassId} {dI : Nat → Nat → Nat} {cI cC : ClassId} {m0 mt ms mr mk : Nat} {th yb bi d a b f : Int32} {str fk : Nat → Int32} {st : MT} (S : CallFix p m c cc nL s args Ts own) (hTs : ∀ w ∈ WT, w ∈ Ts) (hlk : Cond.methodLink own idx y_M_six ∈ WT) (hR : 1 + 1 ≤ R.frames ∧ 8 + (1 + 11) + 22 ≤ R.locals) (hsz : ls.size = nL) (hrm : (rest.map fun v => v.category).sum ≤ 8) (hdg : decode cc pc = .ok (.invokevirtual idx, 3)) (hc : cells ≤ R.cells ∧ slots ≤ R.slots) (hK : rK dC dI cI cC s) (hw : mwd dC dI cI cC m0 mt ms mr mk th yb bi d a b f str fk st H) (kk : W p l e R s m args below meth c H locs cells slots Q (F0 m (pc + 3) ls (.int (f_M_six bi) :: rest))) : W p l e R s m args below meth c H locs cells slots Q (F0 m pc ls (.ref m0 :: rest)) :=
  vp_callSi (va_Run.run (va_runV (As := []) (rest := rest) S (c_M_six l (fun _ => 0) (fun _ => 0) (fun _ => 0) dC dI cI cC m0 mt ms mr mk th yb bi d a b f str fk st) (cwV 0 S.2.2.2.2 (gV hTs hlk m_985 m_41 m_52 m_986) rfl rfl rfl (by decide +kernel) hR) ⟨fun a U g mk q => ⟨q.1, va_K.moved (u := U) (U := U.calling g mk a) (Vm.Alike.refl U.vm) q.2.1, q.2.2⟩, mwd.recv hK hw, fun U hU hW => ⟨rfl, va_K.moved hW.alike hK, by rw [hU]; exact hw⟩⟩ rfl rfl hsz rfl (lv_room hrm) hdg hc)) (fun r e => by subst e; exact kk)

def g_M_immediate (bi d a b f : Int32) (x1 : Int32) (st : MT) : MT :=
  sNum x1 (sNext st)
set_option maxRecDepth 20000 in
theorem gl_M_immediate (bi d a b f : Int32) (x1 : Int32) (st : MT) : (g_M_immediate bi d a b f x1 st).2.2.length ≤ st.2.2.length + 13 := by
  unfold g_M_immediate
  exact (by have h0 := sNext_le  st; have h1 := sNum_le x1 (sNext st); omega)
set_option maxRecDepth 100000 in
set_option maxHeartbeats 4000000 in
theorem c_M_immediate (l : Launch) (dC : Nat → ClassId) (dI : Nat → Nat → Nat) (cI cC : ClassId) (m0 mt ms mr mk : Nat) (th yb bi d a b f : Int32) (str fk : Nat → Int32) (st : MT) (x1 : Int32) : Met l y_M_immediate (Cond.code y_M_immediate b_M_immediate 2 none :: WT) ({ frames := 3, cells := 0, slots := 0, locals := 68 }) (va_Pc [.ref m0, .int x1] (fun U => mU dC dI cI cC m0 mt ms mr mk th yb bi d a b f str fk st U ∧ st.2.2.length + 13 ≤ 64)) (va_Qv (fun _ : Unit => True) (fun _ t => mwd dC dI cI cC m0 mt ms mr mk th yb bi d a b f str fk (g_M_immediate bi d a b f x1 st) t.heap) (aM m0 mt ms mr mk)) 0 0 (aM m0 mt ms mr mk) := by
  refine va_MetF (cc := b_M_immediate) (maxL := 2) (ret := none) (by decide +kernel) rfl ?_
  intro p e s m args below meth c s₁ B hml hv
  obtain ⟨rfl, ⟨hK, ap, ok, hw⟩, hlen⟩ := hv
  have hx := B.exec
  have hb := B.bytes
  have hr := B.returns
  have hts := atoms_spec (ws := (Cond.code y_M_immediate b_M_immediate 2 none :: WT)) B.pre
  have hT : ∀ w ∈ WT, w.before _ s = true := fun w h => hts w (inC w h)
  have hown : s.vm.findClass R_M = some m.cls := findClass_of_methodNamed B.named
  have hlocks := B.notSynchronized
  have hS : va_S (aM m0 mt ms mr mk) s.heap s.heap [] := va_S.rf
  have S : CallFix p m c b_M_immediate 2 s _ (Cond.code y_M_immediate b_M_immediate 2 none :: WT) R_M := ⟨hx, hb, hml, hown, hts⟩
  have hl := lv_entry ([.ref m0, .int x1]) (n := 2) (Nat.le_of_ble_eq_true rfl)
  rw [lg_entry_eq]
  generalize (lg_sl ([.ref m0, .int x1]) ++ List.replicate (2 - (lg_sl ([.ref m0, .int x1])).length) Slot.unset).toArray = ls at hl ⊢
  have hl : lv_has ls 2 [(0, .ref m0), (1, .int x1)] := hl
  have hA : ∀ q, aM m0 mt ms mr mk q → aM m0 mt ms mr mk q := fun _ h => h
  refine lv_aload_n hx hb d_M_immediate_0 rfl (lv_at hl 0 rfl) ?_
  refine call_M_next S inC m_850 ⟨(Nat.le_of_ble_eq_true rfl), (Nat.le_of_ble_eq_true rfl)⟩ hl.1 (Nat.le_of_ble_eq_true rfl) d_M_immediate_1 ⟨(Nat.le_of_ble_eq_true rfl), (Nat.le_of_ble_eq_true rfl)⟩ hK ap ok hS hA hw (by omega) (fun H locs hw hS _ => ?_)
  have hL1 := sNext_le st
  refine lv_aload_n hx hb d_M_immediate_4 rfl (lv_at hl 0 rfl) ?_
  refine lv_iload_n hx hb d_M_immediate_5 rfl (lv_at hl 1 rfl) ?_
  refine call_M_number S inC m_881 ⟨(Nat.le_of_ble_eq_true rfl), (Nat.le_of_ble_eq_true rfl)⟩ hl.1 (Nat.le_of_ble_eq_true rfl) d_M_immediate_6 ⟨(Nat.le_of_ble_eq_true rfl), (Nat.le_of_ble_eq_true rfl)⟩ hK ap ok hS hA hw (by omega) (fun H locs hw hS _ => ?_)
  have hL2 := sNum_le x1 (sNext st)
  exact W.vret hx hb hr (fun t ht hW => ⟨⟨(), rfl, trivial, mwd_at ht (mwd_eq (by rw [g_M_immediate]) hw)⟩, hS.F ht⟩) hS.2.2 d_M_immediate_9
theorem call_M_immediate {p : Program} {l : Launch} {e : Env} {R : Room} {s : State} {m : MethodId} {args : Array Value} {below : List Frame} {meth : Method} {c : Code} {H : Heap} {locs : List Loc} {cells slots : Nat} {Q : State → Prop} {cc : ByteArray} {pc nL idx : Nat} {ls : Array Slot} {rest : List Value} {Ts : List Cond} {own : String} {A0 : Nat → Prop} {H0 : Heap} {dC : Nat → ClassId} {dI : Nat → Nat → Nat} {cI cC : ClassId} {m0 mt ms mr mk : Nat} {th yb bi d a b f : Int32} {str fk : Nat → Int32} {st : MT} {x1 : Int32} (S : CallFix p m c cc nL s args Ts own) (hTs : ∀ w ∈ WT, w ∈ Ts) (hlk : Cond.methodLink own idx y_M_immediate ∈ WT) (hR : 3 + 1 ≤ R.frames ∧ 8 + (2 + 11) + 68 ≤ R.locals) (hsz : ls.size = nL) (hrm : (rest.map fun v => v.category).sum ≤ 8) (hdg : decode cc pc = .ok (.invokevirtual idx, 3)) (hc : cells ≤ R.cells ∧ slots ≤ R.slots) (hK : rK dC dI cI cC s) (ap : apM m0 mt ms mr mk) (ok : mOk d a b) (hS : va_S A0 H0 H locs) (hA : ∀ q, aM m0 mt ms mr mk q → A0 q) (hw : mwd dC dI cI cC m0 mt ms mr mk th yb bi d a b f str fk st H) (hlen : st.2.2.length + 13 ≤ 64) (kk : ∀ (H1 : Heap) (locs1 : List Loc), mwd dC dI cI cC m0 mt ms mr mk th yb bi d a b f str fk (g_M_immediate bi d a b f x1 st) H1 → va_S A0 H0 H1 locs1 → (H.size ≤ H1.size ∧ ∀ q : Nat, q < H.size → ¬ aM m0 mt ms mr mk q → H1[q]? = H[q]?) → W p l e R s m args below meth c H1 locs1 cells slots Q (F0 m (pc + 3) ls (rest))) : W p l e R s m args below meth c H locs cells slots Q (F0 m pc ls (.int x1 :: .ref m0 :: rest)) :=
  va_callv (va_runV (As := [.int x1]) (rest := rest) S (c_M_immediate l dC dI cI cC m0 mt ms mr mk th yb bi d a b f str fk st x1) (cwV 1 S.2.2.2.2 (gV hTs hlk m_879 m_27 m_52 m_880) rfl rfl rfl (by decide +kernel) hR) ⟨fun a U g mk q => ⟨q.1, ⟨q.2.1.blind, q.2.2⟩⟩, mwd.recv hK hw, fun U hU hW => ⟨rfl, ⟨mU.at hK ap ok hw hU hW, hlen⟩⟩⟩ rfl rfl hsz rfl (lv_room hrm) hdg hc) hS (fun q _ h => hA q h) hA (fun u t H1 locs1 ht hvm hp hB hz hk hS1 => kk H1 locs1 (by rw [← ht]; exact hB) hS1 ⟨hz, hk⟩)

def g_M_target (bi d a b f : Int32) (x1 : Int32) (st : MT) : MT :=
  if x1 < 0 then
    sNum x1 (sPut 46 (sNext st))
  else
    sNum x1 (sPut 43 (sPut 46 (sNext st)))
set_option maxRecDepth 20000 in
theorem gl_M_target (bi d a b f : Int32) (x1 : Int32) (st : MT) : (g_M_target bi d a b f x1 st).2.2.length ≤ st.2.2.length + 15 := by
  unfold g_M_target
  exact (it_len _ (by have h0 := sNext_le  st; have h1 := sPut_le 46 (sNext st); have h2 := sNum_le x1 (sPut 46 (sNext st)); omega) (by have h0 := sNext_le  st; have h1 := sPut_le 46 (sNext st); have h2 := sPut_le 43 (sPut 46 (sNext st)); have h3 := sNum_le x1 (sPut 43 (sPut 46 (sNext st))); omega))
set_option maxRecDepth 100000 in
set_option maxHeartbeats 4000000 in
theorem c_M_target (l : Launch) (dC : Nat → ClassId) (dI : Nat → Nat → Nat) (cI cC : ClassId) (m0 mt ms mr mk : Nat) (th yb bi d a b f : Int32) (str fk : Nat → Int32) (st : MT) (x1 : Int32) : Met l y_M_target (Cond.code y_M_target b_M_target 2 none :: WT) ({ frames := 3, cells := 0, slots := 0, locals := 68 }) (va_Pc [.ref m0, .int x1] (fun U => mU dC dI cI cC m0 mt ms mr mk th yb bi d a b f str fk st U ∧ st.2.2.length + 15 ≤ 64)) (va_Qv (fun _ : Unit => True) (fun _ t => mwd dC dI cI cC m0 mt ms mr mk th yb bi d a b f str fk (g_M_target bi d a b f x1 st) t.heap) (aM m0 mt ms mr mk)) 0 0 (aM m0 mt ms mr mk) := by
  refine va_MetF (cc := b_M_target) (maxL := 2) (ret := none) (by decide +kernel) rfl ?_
  intro p e s m args below meth c s₁ B hml hv
  obtain ⟨rfl, ⟨hK, ap, ok, hw⟩, hlen⟩ := hv
  have hx := B.exec
  have hb := B.bytes
  have hr := B.returns
  have hts := atoms_spec (ws := (Cond.code y_M_target b_M_target 2 none :: WT)) B.pre
  have hT : ∀ w ∈ WT, w.before _ s = true := fun w h => hts w (inC w h)
  have hown : s.vm.findClass R_M = some m.cls := findClass_of_methodNamed B.named
  have hlocks := B.notSynchronized
  have hS : va_S (aM m0 mt ms mr mk) s.heap s.heap [] := va_S.rf
  have S : CallFix p m c b_M_target 2 s _ (Cond.code y_M_target b_M_target 2 none :: WT) R_M := ⟨hx, hb, hml, hown, hts⟩
  have hl := lv_entry ([.ref m0, .int x1]) (n := 2) (Nat.le_of_ble_eq_true rfl)
  rw [lg_entry_eq]
  generalize (lg_sl ([.ref m0, .int x1]) ++ List.replicate (2 - (lg_sl ([.ref m0, .int x1])).length) Slot.unset).toArray = ls at hl ⊢
  have hl : lv_has ls 2 [(0, .ref m0), (1, .int x1)] := hl
  have hA : ∀ q, aM m0 mt ms mr mk q → aM m0 mt ms mr mk q := fun _ h => h
  refine lv_aload_n hx hb d_M_target_0 rfl (lv_at hl 0 rfl) ?_
  refine call_M_next S inC m_850 ⟨(Nat.le_of_ble_eq_true rfl), (Nat.le_of_ble_eq_true rfl)⟩ hl.1 (Nat.le_of_ble_eq_true rfl) d_M_target_1 ⟨(Nat.le_of_ble_eq_true rfl), (Nat.le_of_ble_eq_true rfl)⟩ hK ap ok hS hA hw (by omega) (fun H locs hw hS _ => ?_)
  have hL1 := sNext_le st
  refine lv_aload_n hx hb d_M_target_4 rfl (lv_at hl 0 rfl) ?_
  refine lv_bipush (v := 46) hx hb d_M_target_5 (by decide) ?_
  refine call_M_put S inC m_842 ⟨(Nat.le_of_ble_eq_true rfl), (Nat.le_of_ble_eq_true rfl)⟩ hl.1 (Nat.le_of_ble_eq_true rfl) d_M_target_7 ⟨(Nat.le_of_ble_eq_true rfl), (Nat.le_of_ble_eq_true rfl)⟩ hK ap ok hS hA hw (by omega) (fun H locs hw hS _ => ?_)
  have hL2 := sPut_le 46 (sNext st)
  refine lv_iload_n hx hb d_M_target_10 rfl (lv_at hl 1 rfl) ?_
  refine lv_if_lt (tgt := 20) hx hb d_M_target_11 (by decide) (fun c_1 => ?_) (fun c_1 => ?_)
  · refine lv_aload_n hx hb d_M_target_20 rfl (lv_at hl 0 rfl) ?_
    refine lv_iload_n hx hb d_M_target_21 rfl (lv_at hl 1 rfl) ?_
    refine call_M_number S inC m_881 ⟨(Nat.le_of_ble_eq_true rfl), (Nat.le_of_ble_eq_true rfl)⟩ hl.1 (Nat.le_of_ble_eq_true rfl) d_M_target_22 ⟨(Nat.le_of_ble_eq_true rfl), (Nat.le_of_ble_eq_true rfl)⟩ hK ap ok hS hA hw (by omega) (fun H locs hw hS _ => ?_)
    have hL3 := sNum_le x1 (sPut 46 (sNext st))
    exact W.vret hx hb hr (fun t ht hW => ⟨⟨(), rfl, trivial, mwd_at ht (mwd_eq (by rw [g_M_target, if_pos c_1]) hw)⟩, hS.F ht⟩) hS.2.2 d_M_target_25
  · refine lv_aload_n hx hb d_M_target_14 rfl (lv_at hl 0 rfl) ?_
    refine lv_bipush (v := 43) hx hb d_M_target_15 (by decide) ?_
    refine call_M_put S inC m_842 ⟨(Nat.le_of_ble_eq_true rfl), (Nat.le_of_ble_eq_true rfl)⟩ hl.1 (Nat.le_of_ble_eq_true rfl) d_M_target_17 ⟨(Nat.le_of_ble_eq_true rfl), (Nat.le_of_ble_eq_true rfl)⟩ hK ap ok hS hA hw (by omega) (fun H locs hw hS _ => ?_)
    have hL4 := sPut_le 43 (sPut 46 (sNext st))
    refine lv_aload_n hx hb d_M_target_20 rfl (lv_at hl 0 rfl) ?_
    refine lv_iload_n hx hb d_M_target_21 rfl (lv_at hl 1 rfl) ?_
    refine call_M_number S inC m_881 ⟨(Nat.le_of_ble_eq_true rfl), (Nat.le_of_ble_eq_true rfl)⟩ hl.1 (Nat.le_of_ble_eq_true rfl) d_M_target_22 ⟨(Nat.le_of_ble_eq_true rfl), (Nat.le_of_ble_eq_true rfl)⟩ hK ap ok hS hA hw (by omega) (fun H locs hw hS _ => ?_)
    have hL5 := sNum_le x1 (sPut 43 (sPut 46 (sNext st)))
    exact W.vret hx hb hr (fun t ht hW => ⟨⟨(), rfl, trivial, mwd_at ht (mwd_eq (by rw [g_M_target, if_neg c_1]) hw)⟩, hS.F ht⟩) hS.2.2 d_M_target_25
theorem call_M_target {p : Program} {l : Launch} {e : Env} {R : Room} {s : State} {m : MethodId} {args : Array Value} {below : List Frame} {meth : Method} {c : Code} {H : Heap} {locs : List Loc} {cells slots : Nat} {Q : State → Prop} {cc : ByteArray} {pc nL idx : Nat} {ls : Array Slot} {rest : List Value} {Ts : List Cond} {own : String} {A0 : Nat → Prop} {H0 : Heap} {dC : Nat → ClassId} {dI : Nat → Nat → Nat} {cI cC : ClassId} {m0 mt ms mr mk : Nat} {th yb bi d a b f : Int32} {str fk : Nat → Int32} {st : MT} {x1 : Int32} (S : CallFix p m c cc nL s args Ts own) (hTs : ∀ w ∈ WT, w ∈ Ts) (hlk : Cond.methodLink own idx y_M_target ∈ WT) (hR : 3 + 1 ≤ R.frames ∧ 8 + (2 + 11) + 68 ≤ R.locals) (hsz : ls.size = nL) (hrm : (rest.map fun v => v.category).sum ≤ 8) (hdg : decode cc pc = .ok (.invokevirtual idx, 3)) (hc : cells ≤ R.cells ∧ slots ≤ R.slots) (hK : rK dC dI cI cC s) (ap : apM m0 mt ms mr mk) (ok : mOk d a b) (hS : va_S A0 H0 H locs) (hA : ∀ q, aM m0 mt ms mr mk q → A0 q) (hw : mwd dC dI cI cC m0 mt ms mr mk th yb bi d a b f str fk st H) (hlen : st.2.2.length + 15 ≤ 64) (kk : ∀ (H1 : Heap) (locs1 : List Loc), mwd dC dI cI cC m0 mt ms mr mk th yb bi d a b f str fk (g_M_target bi d a b f x1 st) H1 → va_S A0 H0 H1 locs1 → (H.size ≤ H1.size ∧ ∀ q : Nat, q < H.size → ¬ aM m0 mt ms mr mk q → H1[q]? = H[q]?) → W p l e R s m args below meth c H1 locs1 cells slots Q (F0 m (pc + 3) ls (rest))) : W p l e R s m args below meth c H locs cells slots Q (F0 m pc ls (.int x1 :: .ref m0 :: rest)) :=
  va_callv (va_runV (As := [.int x1]) (rest := rest) S (c_M_target l dC dI cI cC m0 mt ms mr mk th yb bi d a b f str fk st x1) (cwV 1 S.2.2.2.2 (gV hTs hlk m_928 m_35 m_52 m_929) rfl rfl rfl (by decide +kernel) hR) ⟨fun a U g mk q => ⟨q.1, ⟨q.2.1.blind, q.2.2⟩⟩, mwd.recv hK hw, fun U hU hW => ⟨rfl, ⟨mU.at hK ap ok hw hU hW, hlen⟩⟩⟩ rfl rfl hsz rfl (lv_room hrm) hdg hc) hS (fun q _ h => hA q h) hA (fun u t H1 locs1 ht hvm hp hB hz hk hS1 => kk H1 locs1 (by rw [← ht]; exact hB) hS1 ⟨hz, hk⟩)

def g_M_memory (bi d a b f : Int32) (x1 : Int32) (x2 : Int32) (st : MT) : MT :=
  sBra x2 (g_M_immediate bi d a b f x1 st)
set_option maxRecDepth 20000 in
theorem gl_M_memory (bi d a b f : Int32) (x1 : Int32) (x2 : Int32) (st : MT) : (g_M_memory bi d a b f x1 x2 st).2.2.length ≤ st.2.2.length + 23 := by
  unfold g_M_memory
  exact (by have h0 := gl_M_immediate bi d a b f x1 st; have h1 := sBra_le x2 (g_M_immediate bi d a b f x1 st); omega)
set_option maxRecDepth 100000 in
set_option maxHeartbeats 4000000 in
theorem c_M_memory (l : Launch) (dC : Nat → ClassId) (dI : Nat → Nat → Nat) (cI cC : ClassId) (m0 mt ms mr mk : Nat) (th yb bi d a b f : Int32) (str fk : Nat → Int32) (st : MT) (x1 : Int32) (x2 : Int32) : Met l y_M_memory (Cond.code y_M_memory b_M_memory 3 none :: WT) ({ frames := 4, cells := 0, slots := 0, locals := 89 }) (va_Pc [.ref m0, .int x1, .int x2] (fun U => mU dC dI cI cC m0 mt ms mr mk th yb bi d a b f str fk st U ∧ vp_in x2 32 ∧ st.2.2.length + 23 ≤ 64)) (va_Qv (fun _ : Unit => True) (fun _ t => mwd dC dI cI cC m0 mt ms mr mk th yb bi d a b f str fk (g_M_memory bi d a b f x1 x2 st) t.heap) (aM m0 mt ms mr mk)) 0 0 (aM m0 mt ms mr mk) := by
  refine va_MetF (cc := b_M_memory) (maxL := 3) (ret := none) (by decide +kernel) rfl ?_
  intro p e s m args below meth c s₁ B hml hv
  obtain ⟨rfl, ⟨hK, ap, ok, hw⟩, hin, hlen⟩ := hv
  have hx := B.exec
  have hb := B.bytes
  have hr := B.returns
  have hts := atoms_spec (ws := (Cond.code y_M_memory b_M_memory 3 none :: WT)) B.pre
  have hT : ∀ w ∈ WT, w.before _ s = true := fun w h => hts w (inC w h)
  have hown : s.vm.findClass R_M = some m.cls := findClass_of_methodNamed B.named
  have hlocks := B.notSynchronized
  have hS : va_S (aM m0 mt ms mr mk) s.heap s.heap [] := va_S.rf
  have S : CallFix p m c b_M_memory 3 s _ (Cond.code y_M_memory b_M_memory 3 none :: WT) R_M := ⟨hx, hb, hml, hown, hts⟩
  have hl := lv_entry ([.ref m0, .int x1, .int x2]) (n := 3) (Nat.le_of_ble_eq_true rfl)
  rw [lg_entry_eq]
  generalize (lg_sl ([.ref m0, .int x1, .int x2]) ++ List.replicate (3 - (lg_sl ([.ref m0, .int x1, .int x2])).length) Slot.unset).toArray = ls at hl ⊢
  have hl : lv_has ls 3 [(0, .ref m0), (1, .int x1), (2, .int x2)] := hl
  have hA : ∀ q, aM m0 mt ms mr mk q → aM m0 mt ms mr mk q := fun _ h => h
  refine lv_aload_n hx hb d_M_memory_0 rfl (lv_at hl 0 rfl) ?_
  refine lv_iload_n hx hb d_M_memory_1 rfl (lv_at hl 1 rfl) ?_
  refine call_M_immediate S inC m_877 ⟨(Nat.le_of_ble_eq_true rfl), (Nat.le_of_ble_eq_true rfl)⟩ hl.1 (Nat.le_of_ble_eq_true rfl) d_M_memory_2 ⟨(Nat.le_of_ble_eq_true rfl), (Nat.le_of_ble_eq_true rfl)⟩ hK ap ok hS hA hw (by omega) (fun H locs hw hS _ => ?_)
  have hL1 := gl_M_immediate bi d a b f x1 st
  refine lv_aload_n hx hb d_M_memory_5 rfl (lv_at hl 0 rfl) ?_
  refine lv_iload_n hx hb d_M_memory_6 rfl (lv_at hl 2 rfl) ?_
  refine call_M_bracket S inC m_905 ⟨(Nat.le_of_ble_eq_true rfl), (Nat.le_of_ble_eq_true rfl)⟩ hl.1 (Nat.le_of_ble_eq_true rfl) d_M_memory_7 ⟨(Nat.le_of_ble_eq_true rfl), (Nat.le_of_ble_eq_true rfl)⟩ hK ap ok hS hA hw hin (by omega) (fun H locs hw hS _ => ?_)
  have hL2 := sBra_le x2 (g_M_immediate bi d a b f x1 st)
  exact W.vret hx hb hr (fun t ht hW => ⟨⟨(), rfl, trivial, mwd_at ht (mwd_eq (by rw [g_M_memory]) hw)⟩, hS.F ht⟩) hS.2.2 d_M_memory_10
theorem call_M_memory {p : Program} {l : Launch} {e : Env} {R : Room} {s : State} {m : MethodId} {args : Array Value} {below : List Frame} {meth : Method} {c : Code} {H : Heap} {locs : List Loc} {cells slots : Nat} {Q : State → Prop} {cc : ByteArray} {pc nL idx : Nat} {ls : Array Slot} {rest : List Value} {Ts : List Cond} {own : String} {A0 : Nat → Prop} {H0 : Heap} {dC : Nat → ClassId} {dI : Nat → Nat → Nat} {cI cC : ClassId} {m0 mt ms mr mk : Nat} {th yb bi d a b f : Int32} {str fk : Nat → Int32} {st : MT} {x1 : Int32} {x2 : Int32} (S : CallFix p m c cc nL s args Ts own) (hTs : ∀ w ∈ WT, w ∈ Ts) (hlk : Cond.methodLink own idx y_M_memory ∈ WT) (hR : 4 + 1 ≤ R.frames ∧ 8 + (3 + 11) + 89 ≤ R.locals) (hsz : ls.size = nL) (hrm : (rest.map fun v => v.category).sum ≤ 8) (hdg : decode cc pc = .ok (.invokevirtual idx, 3)) (hc : cells ≤ R.cells ∧ slots ≤ R.slots) (hK : rK dC dI cI cC s) (ap : apM m0 mt ms mr mk) (ok : mOk d a b) (hS : va_S A0 H0 H locs) (hA : ∀ q, aM m0 mt ms mr mk q → A0 q) (hw : mwd dC dI cI cC m0 mt ms mr mk th yb bi d a b f str fk st H) (hin : vp_in x2 32) (hlen : st.2.2.length + 23 ≤ 64) (kk : ∀ (H1 : Heap) (locs1 : List Loc), mwd dC dI cI cC m0 mt ms mr mk th yb bi d a b f str fk (g_M_memory bi d a b f x1 x2 st) H1 → va_S A0 H0 H1 locs1 → (H.size ≤ H1.size ∧ ∀ q : Nat, q < H.size → ¬ aM m0 mt ms mr mk q → H1[q]? = H[q]?) → W p l e R s m args below meth c H1 locs1 cells slots Q (F0 m (pc + 3) ls (rest))) : W p l e R s m args below meth c H locs cells slots Q (F0 m pc ls (.int x2 :: .int x1 :: .ref m0 :: rest)) :=
  va_callv (va_runV (As := [.int x1, .int x2]) (rest := rest) S (c_M_memory l dC dI cI cC m0 mt ms mr mk th yb bi d a b f str fk st x1 x2) (cwV 2 S.2.2.2.2 (gV hTs hlk m_903 m_31 m_52 m_904) rfl rfl rfl (by decide +kernel) hR) ⟨fun a U g mk q => ⟨q.1, ⟨q.2.1.blind, q.2.2⟩⟩, mwd.recv hK hw, fun U hU hW => ⟨rfl, ⟨mU.at hK ap ok hw hU hW, hin, hlen⟩⟩⟩ rfl rfl hsz rfl (lv_room hrm) hdg hc) hS (fun q _ h => hA q h) hA (fun u t H1 locs1 ht hvm hp hB hz hk hS1 => kk H1 locs1 (by rw [← ht]; exact hB) hS1 ⟨hz, hk⟩)

def g_M_threes (bi d a b f : Int32) (x1 : Int64) (st : MT) : MT :=
  sReg b (sReg a (sReg d (sName x1 st)))
set_option maxRecDepth 20000 in
theorem gl_M_threes (bi d a b f : Int32) (x1 : Int64) (st : MT) : (g_M_threes bi d a b f x1 st).2.2.length ≤ st.2.2.length + 38 := by
  unfold g_M_threes
  exact (by have h0 := sName_le x1 st; have h1 := sReg_le d (sName x1 st); have h2 := sReg_le a (sReg d (sName x1 st)); have h3 := sReg_le b (sReg a (sReg d (sName x1 st))); omega)
set_option maxRecDepth 100000 in
set_option maxHeartbeats 4000000 in
theorem c_M_threes (l : Launch) (dC : Nat → ClassId) (dI : Nat → Nat → Nat) (cI cC : ClassId) (m0 mt ms mr mk : Nat) (th yb bi d a b f : Int32) (str fk : Nat → Int32) (st : MT) (x1 : Int64) : Met l y_M_threes (Cond.code y_M_threes b_M_threes 3 none :: WT) ({ frames := 3, cells := 0, slots := 0, locals := 67 }) (va_Pc [.ref m0, .long x1] (fun U => mU dC dI cI cC m0 mt ms mr mk th yb bi d a b f str fk st U ∧ st.2.2.length + 38 ≤ 64)) (va_Qv (fun _ : Unit => True) (fun _ t => mwd dC dI cI cC m0 mt ms mr mk th yb bi d a b f str fk (g_M_threes bi d a b f x1 st) t.heap) (aM m0 mt ms mr mk)) 0 0 (aM m0 mt ms mr mk) := by
  refine va_MetF (cc := b_M_threes) (maxL := 3) (ret := none) (by decide +kernel) rfl ?_
  intro p e s m args below meth c s₁ B hml hv
  obtain ⟨rfl, ⟨hK, ap, ok, hw⟩, hlen⟩ := hv
  have hx := B.exec
  have hb := B.bytes
  have hr := B.returns
  have hts := atoms_spec (ws := (Cond.code y_M_threes b_M_threes 3 none :: WT)) B.pre
  have hT : ∀ w ∈ WT, w.before _ s = true := fun w h => hts w (inC w h)
  have hown : s.vm.findClass R_M = some m.cls := findClass_of_methodNamed B.named
  have hlocks := B.notSynchronized
  have hS : va_S (aM m0 mt ms mr mk) s.heap s.heap [] := va_S.rf
  have S : CallFix p m c b_M_threes 3 s _ (Cond.code y_M_threes b_M_threes 3 none :: WT) R_M := ⟨hx, hb, hml, hown, hts⟩
  have hl := lv_entry ([.ref m0, .long x1]) (n := 3) (Nat.le_of_ble_eq_true rfl)
  rw [lg_entry_eq]
  generalize (lg_sl ([.ref m0, .long x1]) ++ List.replicate (3 - (lg_sl ([.ref m0, .long x1])).length) Slot.unset).toArray = ls at hl ⊢
  have hl : lv_has ls 3 [(0, .ref m0), (1, .long x1)] := hl
  have hA : ∀ q, aM m0 mt ms mr mk q → aM m0 mt ms mr mk q := fun _ h => h
  refine lv_aload_n hx hb d_M_threes_0 rfl (lv_at hl 0 rfl) ?_
  refine lv_lload_n hx hb d_M_threes_1 rfl (lv_at hl 1 rfl) ?_
  refine call_M_name S inC m_833 ⟨(Nat.le_of_ble_eq_true rfl), (Nat.le_of_ble_eq_true rfl)⟩ hl.1 (Nat.le_of_ble_eq_true rfl) d_M_threes_2 ⟨(Nat.le_of_ble_eq_true rfl), (Nat.le_of_ble_eq_true rfl)⟩ hK ap ok hS hA hw (by omega) (fun H locs hw hS _ => ?_)
  have hL1 := sName_le x1 st
  refine lv_aload_n hx hb d_M_threes_5 rfl (lv_at hl 0 rfl) ?_
  refine lv_aload_n hx hb d_M_threes_6 rfl (lv_at hl 0 rfl) ?_
  obtain ⟨rg, ft, h1, h2, hP⟩ := id hw
  refine va_get (D := (dC, dI)) (ci := 2) (v := .int d) (C := R_M) (T := F_M) (N := 14) hx hb hT i_M hown hK hP 0 rfl rfl 8 (by decide) (hT _ m_761) (fun _ h9 => h9) rfl d_M_threes_7 ?_
  refine call_M_register S inC m_846 ⟨(Nat.le_of_ble_eq_true rfl), (Nat.le_of_ble_eq_true rfl)⟩ hl.1 (Nat.le_of_ble_eq_true rfl) d_M_threes_10 ⟨(Nat.le_of_ble_eq_true rfl), (Nat.le_of_ble_eq_true rfl)⟩ hK ap ok hS hA hw ok.1 (by omega) (fun H locs hw hS _ => ?_)
  have hL2 := sReg_le d (sName x1 st)
  refine lv_aload_n hx hb d_M_threes_13 rfl (lv_at hl 0 rfl) ?_
  refine lv_aload_n hx hb d_M_threes_14 rfl (lv_at hl 0 rfl) ?_
  obtain ⟨rg, ft, h1, h2, hP⟩ := id hw
  refine va_get (D := (dC, dI)) (ci := 2) (v := .int a) (C := R_M) (T := F_M) (N := 14) hx hb hT i_M hown hK hP 0 rfl rfl 9 (by decide) (hT _ m_762) (fun _ h9 => h9) rfl d_M_threes_15 ?_
  refine call_M_register S inC m_846 ⟨(Nat.le_of_ble_eq_true rfl), (Nat.le_of_ble_eq_true rfl)⟩ hl.1 (Nat.le_of_ble_eq_true rfl) d_M_threes_18 ⟨(Nat.le_of_ble_eq_true rfl), (Nat.le_of_ble_eq_true rfl)⟩ hK ap ok hS hA hw ok.2.1 (by omega) (fun H locs hw hS _ => ?_)
  have hL3 := sReg_le a (sReg d (sName x1 st))
  refine lv_aload_n hx hb d_M_threes_21 rfl (lv_at hl 0 rfl) ?_
  refine lv_aload_n hx hb d_M_threes_22 rfl (lv_at hl 0 rfl) ?_
  obtain ⟨rg, ft, h1, h2, hP⟩ := id hw
  refine va_get (D := (dC, dI)) (ci := 2) (v := .int b) (C := R_M) (T := F_M) (N := 14) hx hb hT i_M hown hK hP 0 rfl rfl 10 (by decide) (hT _ m_763) (fun _ h9 => h9) rfl d_M_threes_23 ?_
  refine call_M_register S inC m_846 ⟨(Nat.le_of_ble_eq_true rfl), (Nat.le_of_ble_eq_true rfl)⟩ hl.1 (Nat.le_of_ble_eq_true rfl) d_M_threes_26 ⟨(Nat.le_of_ble_eq_true rfl), (Nat.le_of_ble_eq_true rfl)⟩ hK ap ok hS hA hw ok.2.2 (by omega) (fun H locs hw hS _ => ?_)
  have hL4 := sReg_le b (sReg a (sReg d (sName x1 st)))
  exact W.vret hx hb hr (fun t ht hW => ⟨⟨(), rfl, trivial, mwd_at ht (mwd_eq (by rw [g_M_threes]) hw)⟩, hS.F ht⟩) hS.2.2 d_M_threes_29
theorem call_M_threes {p : Program} {l : Launch} {e : Env} {R : Room} {s : State} {m : MethodId} {args : Array Value} {below : List Frame} {meth : Method} {c : Code} {H : Heap} {locs : List Loc} {cells slots : Nat} {Q : State → Prop} {cc : ByteArray} {pc nL idx : Nat} {ls : Array Slot} {rest : List Value} {Ts : List Cond} {own : String} {A0 : Nat → Prop} {H0 : Heap} {dC : Nat → ClassId} {dI : Nat → Nat → Nat} {cI cC : ClassId} {m0 mt ms mr mk : Nat} {th yb bi d a b f : Int32} {str fk : Nat → Int32} {st : MT} {x1 : Int64} (S : CallFix p m c cc nL s args Ts own) (hTs : ∀ w ∈ WT, w ∈ Ts) (hlk : Cond.methodLink own idx y_M_threes ∈ WT) (hR : 3 + 1 ≤ R.frames ∧ 8 + (3 + 11) + 67 ≤ R.locals) (hsz : ls.size = nL) (hrm : (rest.map fun v => v.category).sum ≤ 8) (hdg : decode cc pc = .ok (.invokevirtual idx, 3)) (hc : cells ≤ R.cells ∧ slots ≤ R.slots) (hK : rK dC dI cI cC s) (ap : apM m0 mt ms mr mk) (ok : mOk d a b) (hS : va_S A0 H0 H locs) (hA : ∀ q, aM m0 mt ms mr mk q → A0 q) (hw : mwd dC dI cI cC m0 mt ms mr mk th yb bi d a b f str fk st H) (hlen : st.2.2.length + 38 ≤ 64) (kk : ∀ (H1 : Heap) (locs1 : List Loc), mwd dC dI cI cC m0 mt ms mr mk th yb bi d a b f str fk (g_M_threes bi d a b f x1 st) H1 → va_S A0 H0 H1 locs1 → (H.size ≤ H1.size ∧ ∀ q : Nat, q < H.size → ¬ aM m0 mt ms mr mk q → H1[q]? = H[q]?) → W p l e R s m args below meth c H1 locs1 cells slots Q (F0 m (pc + 3) ls (rest))) : W p l e R s m args below meth c H locs cells slots Q (F0 m pc ls (.long x1 :: .ref m0 :: rest)) :=
  va_callv (va_runV (As := [.long x1]) (rest := rest) S (c_M_threes l dC dI cI cC m0 mt ms mr mk th yb bi d a b f str fk st x1) (cwV 1 S.2.2.2.2 (gV hTs hlk m_831 m_20 m_52 m_832) rfl rfl rfl (by decide +kernel) hR) ⟨fun a U g mk q => ⟨q.1, ⟨q.2.1.blind, q.2.2⟩⟩, mwd.recv hK hw, fun U hU hW => ⟨rfl, ⟨mU.at hK ap ok hw hU hW, hlen⟩⟩⟩ rfl rfl hsz rfl (lv_room hrm) hdg hc) hS (fun q _ h => hA q h) hA (fun u t H1 locs1 ht hvm hp hB hz hk hS1 => kk H1 locs1 (by rw [← ht]; exact hB) hS1 ⟨hz, hk⟩)

def q_M_plain_251 (bi d a b f x1 : Int32) : Int64 :=
  if f = 0 then
    6452595
  else
    6386291
set_option maxRecDepth 100000 in
set_option maxHeartbeats 4000000 in
theorem rg_M_plain_251 {p : Program} {l : Launch} {e : Env} {R : Room} {s : State} {m : MethodId} {args : Array Value} {below : List Frame} {meth : Method} {c : Code} {cells slots : Nat} {Q : State → Prop} {Ts : List Cond} {dC : Nat → ClassId} {dI : Nat → Nat → Nat} {cI cC : ClassId} {m0 mt ms mr mk : Nat} {th yb bi d a b f : Int32} {str fk : Nat → Int32} {st : MT} {H : Heap} {locs : List Loc} {ls : Array Slot} {x1 : Int32} (S : CallFix p m c b_M_plain 2 s args Ts R_M) (hTs : ∀ w ∈ WT, w ∈ Ts) (hT : ∀ w ∈ WT, w.before args s = true) (hfr : 1 ≤ R.frames) (hlo : 1 ≤ R.locals) (hc : cells ≤ R.cells ∧ slots ≤ R.slots) (hK : rK dC dI cI cC s) (hw : mwd dC dI cI cC m0 mt ms mr mk th yb bi d a b f str fk st H) (hl : lv_has ls 2 [(0, .ref m0), (1, .int x1)]) (kk : W p l e R s m args below meth c H locs cells slots Q (F0 m 263 ls (.long (q_M_plain_251 bi d a b f x1) :: [.ref m0]))) : W p l e R s m args below meth c H locs cells slots Q (F0 m 251 ls (.int f :: [.ref m0])) := by
  have hx := S.1
  have hb := S.2.1
  have hown := S.2.2.2.1
  refine lv_if_ne (tgt := 260) hx hb d_M_plain_251 (by decide) (fun c_1 => ?_) (fun c_1 => ?_)
  · refine lv_ldc2 (v := 6386291) hx hb hown (hT _ m_863) d_M_plain_260 ?_
    rw [q_M_plain_251, if_neg c_1] at kk
    exact kk
  · refine lv_ldc2 (v := 6452595) hx hb hown (hT _ m_862) d_M_plain_254 ?_
    refine lv_goto (tgt := 263) hx hb d_M_plain_257 (by decide) ?_
    rw [q_M_plain_251, if_pos c_1] at kk
    exact kk
def q_M_plain_122 (bi d a b f x1 : Int32) : Int64 :=
  if f = 0 then
    7107949
  else
    if f = 1 then
      1751938413
    else
      if f = 2 then
        129138533627245
      else
        if f = 3 then
          504263112045
        else
          if f = 4 then
            7760228
          else
            if f = 5 then
              1970694500
            else
              if f = 6 then
                7169394
              else
                1970103666
set_option maxRecDepth 100000 in
set_option maxHeartbeats 4000000 in
theorem rg_M_plain_122 {p : Program} {l : Launch} {e : Env} {R : Room} {s : State} {m : MethodId} {args : Array Value} {below : List Frame} {meth : Method} {c : Code} {cells slots : Nat} {Q : State → Prop} {Ts : List Cond} {dC : Nat → ClassId} {dI : Nat → Nat → Nat} {cI cC : ClassId} {m0 mt ms mr mk : Nat} {th yb bi d a b f : Int32} {str fk : Nat → Int32} {st : MT} {H : Heap} {locs : List Loc} {ls : Array Slot} {x1 : Int32} (S : CallFix p m c b_M_plain 2 s args Ts R_M) (hTs : ∀ w ∈ WT, w ∈ Ts) (hT : ∀ w ∈ WT, w.before args s = true) (hfr : 1 ≤ R.frames) (hlo : 1 ≤ R.locals) (hc : cells ≤ R.cells ∧ slots ≤ R.slots) (hK : rK dC dI cI cC s) (hw : mwd dC dI cI cC m0 mt ms mr mk th yb bi d a b f str fk st H) (hl : lv_has ls 2 [(0, .ref m0), (1, .int x1)]) (kk : W p l e R s m args below meth c H locs cells slots Q (F0 m 219 ls (.long (q_M_plain_122 bi d a b f x1) :: [.ref m0]))) : W p l e R s m args below meth c H locs cells slots Q (F0 m 122 ls (.int f :: [.ref m0])) := by
  have hx := S.1
  have hb := S.2.1
  have hown := S.2.2.2.1
  refine lv_if_ne (tgt := 131) hx hb d_M_plain_122 (by decide) (fun c_1 => ?_) (fun c_1 => ?_)
  · refine lv_aload_n hx hb d_M_plain_131 rfl (lv_at hl 0 rfl) ?_
    obtain ⟨rg, ft, h1, h2, hP⟩ := id hw
    refine va_get (D := (dC, dI)) (ci := 2) (v := .int f) (C := R_M) (T := F_M) (N := 14) hx hb hT i_M hown hK hP 0 rfl rfl 11 (by decide) (hT _ m_764) (fun _ h9 => h9) rfl d_M_plain_132 ?_
    refine lv_iconst (v := 1) hx hb d_M_plain_135 (by decide) ?_
    refine lv_icmp_ne (tgt := 145) hx hb d_M_plain_136 (by decide) (fun c_2 => ?_) (fun c_2 => ?_)
    · refine lv_aload_n hx hb d_M_plain_145 rfl (lv_at hl 0 rfl) ?_
      obtain ⟨rg, ft, h1, h2, hP⟩ := id hw
      refine va_get (D := (dC, dI)) (ci := 2) (v := .int f) (C := R_M) (T := F_M) (N := 14) hx hb hT i_M hown hK hP 0 rfl rfl 11 (by decide) (hT _ m_764) (fun _ h9 => h9) rfl d_M_plain_146 ?_
      refine lv_iconst (v := 2) hx hb d_M_plain_149 (by decide) ?_
      refine lv_icmp_ne (tgt := 159) hx hb d_M_plain_150 (by decide) (fun c_3 => ?_) (fun c_3 => ?_)
      · refine lv_aload_n hx hb d_M_plain_159 rfl (lv_at hl 0 rfl) ?_
        obtain ⟨rg, ft, h1, h2, hP⟩ := id hw
        refine va_get (D := (dC, dI)) (ci := 2) (v := .int f) (C := R_M) (T := F_M) (N := 14) hx hb hT i_M hown hK hP 0 rfl rfl 11 (by decide) (hT _ m_764) (fun _ h9 => h9) rfl d_M_plain_160 ?_
        refine lv_iconst (v := 3) hx hb d_M_plain_163 (by decide) ?_
        refine lv_icmp_ne (tgt := 173) hx hb d_M_plain_164 (by decide) (fun c_4 => ?_) (fun c_4 => ?_)
        · refine lv_aload_n hx hb d_M_plain_173 rfl (lv_at hl 0 rfl) ?_
          obtain ⟨rg, ft, h1, h2, hP⟩ := id hw
          refine va_get (D := (dC, dI)) (ci := 2) (v := .int f) (C := R_M) (T := F_M) (N := 14) hx hb hT i_M hown hK hP 0 rfl rfl 11 (by decide) (hT _ m_764) (fun _ h9 => h9) rfl d_M_plain_174 ?_
          refine lv_iconst (v := 4) hx hb d_M_plain_177 (by decide) ?_
          refine lv_icmp_ne (tgt := 187) hx hb d_M_plain_178 (by decide) (fun c_5 => ?_) (fun c_5 => ?_)
          · refine lv_aload_n hx hb d_M_plain_187 rfl (lv_at hl 0 rfl) ?_
            obtain ⟨rg, ft, h1, h2, hP⟩ := id hw
            refine va_get (D := (dC, dI)) (ci := 2) (v := .int f) (C := R_M) (T := F_M) (N := 14) hx hb hT i_M hown hK hP 0 rfl rfl 11 (by decide) (hT _ m_764) (fun _ h9 => h9) rfl d_M_plain_188 ?_
            refine lv_iconst (v := 5) hx hb d_M_plain_191 (by decide) ?_
            refine lv_icmp_ne (tgt := 201) hx hb d_M_plain_192 (by decide) (fun c_6 => ?_) (fun c_6 => ?_)
            · refine lv_aload_n hx hb d_M_plain_201 rfl (lv_at hl 0 rfl) ?_
              obtain ⟨rg, ft, h1, h2, hP⟩ := id hw
              refine va_get (D := (dC, dI)) (ci := 2) (v := .int f) (C := R_M) (T := F_M) (N := 14) hx hb hT i_M hown hK hP 0 rfl rfl 11 (by decide) (hT _ m_764) (fun _ h9 => h9) rfl d_M_plain_202 ?_
              refine lv_bipush (v := 6) hx hb d_M_plain_205 (by decide) ?_
              refine lv_icmp_ne (tgt := 216) hx hb d_M_plain_207 (by decide) (fun c_7 => ?_) (fun c_7 => ?_)
              · refine lv_ldc2 (v := 1970103666) hx hb hown (hT _ m_861) d_M_plain_216 ?_
                rw [q_M_plain_122, if_neg c_1, if_neg c_2, if_neg c_3, if_neg c_4, if_neg c_5, if_neg c_6, if_neg c_7] at kk
                exact kk
              · refine lv_ldc2 (v := 7169394) hx hb hown (hT _ m_860) d_M_plain_210 ?_
                refine lv_goto (tgt := 219) hx hb d_M_plain_213 (by decide) ?_
                rw [q_M_plain_122, if_neg c_1, if_neg c_2, if_neg c_3, if_neg c_4, if_neg c_5, if_neg c_6, if_pos c_7] at kk
                exact kk
            · refine lv_ldc2 (v := 1970694500) hx hb hown (hT _ m_859) d_M_plain_195 ?_
              refine lv_goto (tgt := 219) hx hb d_M_plain_198 (by decide) ?_
              rw [q_M_plain_122, if_neg c_1, if_neg c_2, if_neg c_3, if_neg c_4, if_neg c_5, if_pos c_6] at kk
              exact kk
          · refine lv_ldc2 (v := 7760228) hx hb hown (hT _ m_858) d_M_plain_181 ?_
            refine lv_goto (tgt := 219) hx hb d_M_plain_184 (by decide) ?_
            rw [q_M_plain_122, if_neg c_1, if_neg c_2, if_neg c_3, if_neg c_4, if_pos c_5] at kk
            exact kk
        · refine lv_ldc2 (v := 504263112045) hx hb hown (hT _ m_857) d_M_plain_167 ?_
          refine lv_goto (tgt := 219) hx hb d_M_plain_170 (by decide) ?_
          rw [q_M_plain_122, if_neg c_1, if_neg c_2, if_neg c_3, if_pos c_4] at kk
          exact kk
      · refine lv_ldc2 (v := 129138533627245) hx hb hown (hT _ m_856) d_M_plain_153 ?_
        refine lv_goto (tgt := 219) hx hb d_M_plain_156 (by decide) ?_
        rw [q_M_plain_122, if_neg c_1, if_neg c_2, if_pos c_3] at kk
        exact kk
    · refine lv_ldc2 (v := 1751938413) hx hb hown (hT _ m_855) d_M_plain_139 ?_
      refine lv_goto (tgt := 219) hx hb d_M_plain_142 (by decide) ?_
      rw [q_M_plain_122, if_neg c_1, if_pos c_2] at kk
      exact kk
  · refine lv_ldc2 (v := 7107949) hx hb hown (hT _ m_854) d_M_plain_125 ?_
    refine lv_goto (tgt := 219) hx hb d_M_plain_128 (by decide) ?_
    rw [q_M_plain_122, if_pos c_1] at kk
    exact kk
def q_M_plain_9 (bi d a b f x1 : Int32) : Int64 :=
  if f = 0 then
    6579297
  else
    if f = 1 then
      7105651
    else
      if f = 2 then
        7629939
      else
        if f = 3 then
          1970564211
        else
          if f = 4 then
            7499640
          else
            if f = 5 then
              7107187
            else
              if f = 6 then
                29295
              else
                6581857
set_option maxRecDepth 100000 in
set_option maxHeartbeats 4000000 in
theorem rg_M_plain_9 {p : Program} {l : Launch} {e : Env} {R : Room} {s : State} {m : MethodId} {args : Array Value} {below : List Frame} {meth : Method} {c : Code} {cells slots : Nat} {Q : State → Prop} {Ts : List Cond} {dC : Nat → ClassId} {dI : Nat → Nat → Nat} {cI cC : ClassId} {m0 mt ms mr mk : Nat} {th yb bi d a b f : Int32} {str fk : Nat → Int32} {st : MT} {H : Heap} {locs : List Loc} {ls : Array Slot} {x1 : Int32} (S : CallFix p m c b_M_plain 2 s args Ts R_M) (hTs : ∀ w ∈ WT, w ∈ Ts) (hT : ∀ w ∈ WT, w.before args s = true) (hfr : 1 ≤ R.frames) (hlo : 1 ≤ R.locals) (hc : cells ≤ R.cells ∧ slots ≤ R.slots) (hK : rK dC dI cI cC s) (hw : mwd dC dI cI cC m0 mt ms mr mk th yb bi d a b f str fk st H) (hl : lv_has ls 2 [(0, .ref m0), (1, .int x1)]) (kk : W p l e R s m args below meth c H locs cells slots Q (F0 m 106 ls (.long (q_M_plain_9 bi d a b f x1) :: [.ref m0]))) : W p l e R s m args below meth c H locs cells slots Q (F0 m 9 ls (.int f :: [.ref m0])) := by
  have hx := S.1
  have hb := S.2.1
  have hown := S.2.2.2.1
  refine lv_if_ne (tgt := 18) hx hb d_M_plain_9 (by decide) (fun c_1 => ?_) (fun c_1 => ?_)
  · refine lv_aload_n hx hb d_M_plain_18 rfl (lv_at hl 0 rfl) ?_
    obtain ⟨rg, ft, h1, h2, hP⟩ := id hw
    refine va_get (D := (dC, dI)) (ci := 2) (v := .int f) (C := R_M) (T := F_M) (N := 14) hx hb hT i_M hown hK hP 0 rfl rfl 11 (by decide) (hT _ m_764) (fun _ h9 => h9) rfl d_M_plain_19 ?_
    refine lv_iconst (v := 1) hx hb d_M_plain_22 (by decide) ?_
    refine lv_icmp_ne (tgt := 32) hx hb d_M_plain_23 (by decide) (fun c_2 => ?_) (fun c_2 => ?_)
    · refine lv_aload_n hx hb d_M_plain_32 rfl (lv_at hl 0 rfl) ?_
      obtain ⟨rg, ft, h1, h2, hP⟩ := id hw
      refine va_get (D := (dC, dI)) (ci := 2) (v := .int f) (C := R_M) (T := F_M) (N := 14) hx hb hT i_M hown hK hP 0 rfl rfl 11 (by decide) (hT _ m_764) (fun _ h9 => h9) rfl d_M_plain_33 ?_
      refine lv_iconst (v := 2) hx hb d_M_plain_36 (by decide) ?_
      refine lv_icmp_ne (tgt := 46) hx hb d_M_plain_37 (by decide) (fun c_3 => ?_) (fun c_3 => ?_)
      · refine lv_aload_n hx hb d_M_plain_46 rfl (lv_at hl 0 rfl) ?_
        obtain ⟨rg, ft, h1, h2, hP⟩ := id hw
        refine va_get (D := (dC, dI)) (ci := 2) (v := .int f) (C := R_M) (T := F_M) (N := 14) hx hb hT i_M hown hK hP 0 rfl rfl 11 (by decide) (hT _ m_764) (fun _ h9 => h9) rfl d_M_plain_47 ?_
        refine lv_iconst (v := 3) hx hb d_M_plain_50 (by decide) ?_
        refine lv_icmp_ne (tgt := 60) hx hb d_M_plain_51 (by decide) (fun c_4 => ?_) (fun c_4 => ?_)
        · refine lv_aload_n hx hb d_M_plain_60 rfl (lv_at hl 0 rfl) ?_
          obtain ⟨rg, ft, h1, h2, hP⟩ := id hw
          refine va_get (D := (dC, dI)) (ci := 2) (v := .int f) (C := R_M) (T := F_M) (N := 14) hx hb hT i_M hown hK hP 0 rfl rfl 11 (by decide) (hT _ m_764) (fun _ h9 => h9) rfl d_M_plain_61 ?_
          refine lv_iconst (v := 4) hx hb d_M_plain_64 (by decide) ?_
          refine lv_icmp_ne (tgt := 74) hx hb d_M_plain_65 (by decide) (fun c_5 => ?_) (fun c_5 => ?_)
          · refine lv_aload_n hx hb d_M_plain_74 rfl (lv_at hl 0 rfl) ?_
            obtain ⟨rg, ft, h1, h2, hP⟩ := id hw
            refine va_get (D := (dC, dI)) (ci := 2) (v := .int f) (C := R_M) (T := F_M) (N := 14) hx hb hT i_M hown hK hP 0 rfl rfl 11 (by decide) (hT _ m_764) (fun _ h9 => h9) rfl d_M_plain_75 ?_
            refine lv_iconst (v := 5) hx hb d_M_plain_78 (by decide) ?_
            refine lv_icmp_ne (tgt := 88) hx hb d_M_plain_79 (by decide) (fun c_6 => ?_) (fun c_6 => ?_)
            · refine lv_aload_n hx hb d_M_plain_88 rfl (lv_at hl 0 rfl) ?_
              obtain ⟨rg, ft, h1, h2, hP⟩ := id hw
              refine va_get (D := (dC, dI)) (ci := 2) (v := .int f) (C := R_M) (T := F_M) (N := 14) hx hb hT i_M hown hK hP 0 rfl rfl 11 (by decide) (hT _ m_764) (fun _ h9 => h9) rfl d_M_plain_89 ?_
              refine lv_bipush (v := 6) hx hb d_M_plain_92 (by decide) ?_
              refine lv_icmp_ne (tgt := 103) hx hb d_M_plain_94 (by decide) (fun c_7 => ?_) (fun c_7 => ?_)
              · refine lv_ldc2 (v := 6581857) hx hb hown (hT _ m_828) d_M_plain_103 ?_
                rw [q_M_plain_9, if_neg c_1, if_neg c_2, if_neg c_3, if_neg c_4, if_neg c_5, if_neg c_6, if_neg c_7] at kk
                exact kk
              · refine lv_ldc2 (v := 29295) hx hb hown (hT _ m_827) d_M_plain_97 ?_
                refine lv_goto (tgt := 106) hx hb d_M_plain_100 (by decide) ?_
                rw [q_M_plain_9, if_neg c_1, if_neg c_2, if_neg c_3, if_neg c_4, if_neg c_5, if_neg c_6, if_pos c_7] at kk
                exact kk
            · refine lv_ldc2 (v := 7107187) hx hb hown (hT _ m_826) d_M_plain_82 ?_
              refine lv_goto (tgt := 106) hx hb d_M_plain_85 (by decide) ?_
              rw [q_M_plain_9, if_neg c_1, if_neg c_2, if_neg c_3, if_neg c_4, if_neg c_5, if_pos c_6] at kk
              exact kk
          · refine lv_ldc2 (v := 7499640) hx hb hown (hT _ m_825) d_M_plain_68 ?_
            refine lv_goto (tgt := 106) hx hb d_M_plain_71 (by decide) ?_
            rw [q_M_plain_9, if_neg c_1, if_neg c_2, if_neg c_3, if_neg c_4, if_pos c_5] at kk
            exact kk
        · refine lv_ldc2 (v := 1970564211) hx hb hown (hT _ m_824) d_M_plain_54 ?_
          refine lv_goto (tgt := 106) hx hb d_M_plain_57 (by decide) ?_
          rw [q_M_plain_9, if_neg c_1, if_neg c_2, if_neg c_3, if_pos c_4] at kk
          exact kk
      · refine lv_ldc2 (v := 7629939) hx hb hown (hT _ m_823) d_M_plain_40 ?_
        refine lv_goto (tgt := 106) hx hb d_M_plain_43 (by decide) ?_
        rw [q_M_plain_9, if_neg c_1, if_neg c_2, if_pos c_3] at kk
        exact kk
    · refine lv_ldc2 (v := 7105651) hx hb hown (hT _ m_822) d_M_plain_26 ?_
      refine lv_goto (tgt := 106) hx hb d_M_plain_29 (by decide) ?_
      rw [q_M_plain_9, if_neg c_1, if_pos c_2] at kk
      exact kk
  · refine lv_ldc2 (v := 6579297) hx hb hown (hT _ m_821) d_M_plain_12 ?_
    refine lv_goto (tgt := 106) hx hb d_M_plain_15 (by decide) ?_
    rw [q_M_plain_9, if_pos c_1] at kk
    exact kk
def g_M_plain (bi d a b f : Int32) (x1 : Int32) (st : MT) : MT :=
  if x1 = 0 then
    g_M_threes bi d a b f (q_M_plain_9 bi d a b f x1) st
  else
    if x1 = 1 then
      g_M_threes bi d a b f (q_M_plain_122 bi d a b f x1) st
    else
      if x1 = 32 then
        if f = 0 then
          g_M_threes bi d a b f (q_M_plain_251 bi d a b f x1) st
        else
          if f = 5 then
            g_M_threes bi d a b f (q_M_plain_251 bi d a b f x1) st
          else
            st
      else
        st
set_option maxRecDepth 20000 in
theorem gl_M_plain (bi d a b f : Int32) (x1 : Int32) (st : MT) : (g_M_plain bi d a b f x1 st).2.2.length ≤ st.2.2.length + 38 := by
  unfold g_M_plain
  exact (it_len _ (by have h0 := gl_M_threes bi d a b f (q_M_plain_9 bi d a b f x1) st; omega) (it_len _ (by have h0 := gl_M_threes bi d a b f (q_M_plain_122 bi d a b f x1) st; omega) (it_len _ (it_len _ (by have h0 := gl_M_threes bi d a b f (q_M_plain_251 bi d a b f x1) st; omega) (it_len _ (by have h0 := gl_M_threes bi d a b f (q_M_plain_251 bi d a b f x1) st; omega) (by omega))) (by omega))))
set_option maxRecDepth 100000 in
set_option maxHeartbeats 4000000 in
theorem c_M_plain (l : Launch) (dC : Nat → ClassId) (dI : Nat → Nat → Nat) (cI cC : ClassId) (m0 mt ms mr mk : Nat) (th yb bi d a b f : Int32) (str fk : Nat → Int32) (st : MT) (x1 : Int32) : Met l y_M_plain (Cond.code y_M_plain b_M_plain 2 none :: WT) ({ frames := 4, cells := 0, slots := 0, locals := 89 }) (va_Pc [.ref m0, .int x1] (fun U => mU dC dI cI cC m0 mt ms mr mk th yb bi d a b f str fk st U ∧ st.2.2.length + 38 ≤ 64)) (va_Qv (fun _ : Unit => True) (fun _ t => mwd dC dI cI cC m0 mt ms mr mk th yb bi d a b f str fk (g_M_plain bi d a b f x1 st) t.heap) (aM m0 mt ms mr mk)) 0 0 (aM m0 mt ms mr mk) := by
  refine va_MetF (cc := b_M_plain) (maxL := 2) (ret := none) (by decide +kernel) rfl ?_
  intro p e s m args below meth c s₁ B hml hv
  obtain ⟨rfl, ⟨hK, ap, ok, hw⟩, hlen⟩ := hv
  have hx := B.exec
  have hb := B.bytes
  have hr := B.returns
  have hts := atoms_spec (ws := (Cond.code y_M_plain b_M_plain 2 none :: WT)) B.pre
  have hT : ∀ w ∈ WT, w.before _ s = true := fun w h => hts w (inC w h)
  have hown : s.vm.findClass R_M = some m.cls := findClass_of_methodNamed B.named
  have hlocks := B.notSynchronized
  have hS : va_S (aM m0 mt ms mr mk) s.heap s.heap [] := va_S.rf
  have S : CallFix p m c b_M_plain 2 s _ (Cond.code y_M_plain b_M_plain 2 none :: WT) R_M := ⟨hx, hb, hml, hown, hts⟩
  have hl := lv_entry ([.ref m0, .int x1]) (n := 2) (Nat.le_of_ble_eq_true rfl)
  rw [lg_entry_eq]
  generalize (lg_sl ([.ref m0, .int x1]) ++ List.replicate (2 - (lg_sl ([.ref m0, .int x1])).length) Slot.unset).toArray = ls at hl ⊢
  have hl : lv_has ls 2 [(0, .ref m0), (1, .int x1)] := hl
  have hA : ∀ q, aM m0 mt ms mr mk q → aM m0 mt ms mr mk q := fun _ h => h
  refine lv_iload_n hx hb d_M_plain_0 rfl (lv_at hl 1 rfl) ?_
  refine lv_if_ne (tgt := 112) hx hb d_M_plain_1 (by decide) (fun c_1 => ?_) (fun c_1 => ?_)
  · refine lv_iload_n hx hb d_M_plain_112 rfl (lv_at hl 1 rfl) ?_
    refine lv_iconst (v := 1) hx hb d_M_plain_113 (by decide) ?_
    refine lv_icmp_ne (tgt := 225) hx hb d_M_plain_114 (by decide) (fun c_2 => ?_) (fun c_2 => ?_)
    · refine lv_iload_n hx hb d_M_plain_225 rfl (lv_at hl 1 rfl) ?_
      refine lv_bipush (v := 32) hx hb d_M_plain_226 (by decide) ?_
      refine lv_icmp_ne (tgt := 266) hx hb d_M_plain_228 (by decide) (fun c_3 => ?_) (fun c_3 => ?_)
      · exact W.vret hx hb hr (fun t ht hW => ⟨⟨(), rfl, trivial, mwd_at ht (mwd_eq (by rw [g_M_plain, if_neg c_1, if_neg c_2, if_neg c_3]) hw)⟩, hS.F ht⟩) hS.2.2 d_M_plain_266
      · refine lv_aload_n hx hb d_M_plain_231 rfl (lv_at hl 0 rfl) ?_
        obtain ⟨rg, ft, h1, h2, hP⟩ := id hw
        refine va_get (D := (dC, dI)) (ci := 2) (v := .int f) (C := R_M) (T := F_M) (N := 14) hx hb hT i_M hown hK hP 0 rfl rfl 11 (by decide) (hT _ m_764) (fun _ h9 => h9) rfl d_M_plain_232 ?_
        refine lv_if_eq (tgt := 246) hx hb d_M_plain_235 (by decide) (fun c_4 => ?_) (fun c_4 => ?_)
        · refine lv_aload_n hx hb d_M_plain_246 rfl (lv_at hl 0 rfl) ?_
          refine lv_aload_n hx hb d_M_plain_247 rfl (lv_at hl 0 rfl) ?_
          obtain ⟨rg, ft, h1, h2, hP⟩ := id hw
          refine va_get (D := (dC, dI)) (ci := 2) (v := .int f) (C := R_M) (T := F_M) (N := 14) hx hb hT i_M hown hK hP 0 rfl rfl 11 (by decide) (hT _ m_764) (fun _ h9 => h9) rfl d_M_plain_248 ?_
          refine rg_M_plain_251 S inC hT (Nat.le_of_ble_eq_true rfl) (Nat.le_of_ble_eq_true rfl) ⟨(Nat.le_of_ble_eq_true rfl), (Nat.le_of_ble_eq_true rfl)⟩ hK hw hl ?_
          refine call_M_threes S inC m_829 ⟨(Nat.le_of_ble_eq_true rfl), (Nat.le_of_ble_eq_true rfl)⟩ hl.1 (Nat.le_of_ble_eq_true rfl) d_M_plain_263 ⟨(Nat.le_of_ble_eq_true rfl), (Nat.le_of_ble_eq_true rfl)⟩ hK ap ok hS hA hw (by omega) (fun H locs hw hS _ => ?_)
          have hL1 := gl_M_threes bi d a b f (q_M_plain_251 bi d a b f x1) st
          exact W.vret hx hb hr (fun t ht hW => ⟨⟨(), rfl, trivial, mwd_at ht (mwd_eq (by rw [g_M_plain, if_neg c_1, if_neg c_2, if_pos c_3, if_pos c_4]) hw)⟩, hS.F ht⟩) hS.2.2 d_M_plain_266
        · refine lv_aload_n hx hb d_M_plain_238 rfl (lv_at hl 0 rfl) ?_
          obtain ⟨rg, ft, h1, h2, hP⟩ := id hw
          refine va_get (D := (dC, dI)) (ci := 2) (v := .int f) (C := R_M) (T := F_M) (N := 14) hx hb hT i_M hown hK hP 0 rfl rfl 11 (by decide) (hT _ m_764) (fun _ h9 => h9) rfl d_M_plain_239 ?_
          refine lv_iconst (v := 5) hx hb d_M_plain_242 (by decide) ?_
          refine lv_icmp_ne (tgt := 266) hx hb d_M_plain_243 (by decide) (fun c_5 => ?_) (fun c_5 => ?_)
          · exact W.vret hx hb hr (fun t ht hW => ⟨⟨(), rfl, trivial, mwd_at ht (mwd_eq (by rw [g_M_plain, if_neg c_1, if_neg c_2, if_pos c_3, if_neg c_4, if_neg c_5]) hw)⟩, hS.F ht⟩) hS.2.2 d_M_plain_266
          · refine lv_aload_n hx hb d_M_plain_246 rfl (lv_at hl 0 rfl) ?_
            refine lv_aload_n hx hb d_M_plain_247 rfl (lv_at hl 0 rfl) ?_
            obtain ⟨rg, ft, h1, h2, hP⟩ := id hw
            refine va_get (D := (dC, dI)) (ci := 2) (v := .int f) (C := R_M) (T := F_M) (N := 14) hx hb hT i_M hown hK hP 0 rfl rfl 11 (by decide) (hT _ m_764) (fun _ h9 => h9) rfl d_M_plain_248 ?_
            refine rg_M_plain_251 S inC hT (Nat.le_of_ble_eq_true rfl) (Nat.le_of_ble_eq_true rfl) ⟨(Nat.le_of_ble_eq_true rfl), (Nat.le_of_ble_eq_true rfl)⟩ hK hw hl ?_
            refine call_M_threes S inC m_829 ⟨(Nat.le_of_ble_eq_true rfl), (Nat.le_of_ble_eq_true rfl)⟩ hl.1 (Nat.le_of_ble_eq_true rfl) d_M_plain_263 ⟨(Nat.le_of_ble_eq_true rfl), (Nat.le_of_ble_eq_true rfl)⟩ hK ap ok hS hA hw (by omega) (fun H locs hw hS _ => ?_)
            have hL2 := gl_M_threes bi d a b f (q_M_plain_251 bi d a b f x1) st
            exact W.vret hx hb hr (fun t ht hW => ⟨⟨(), rfl, trivial, mwd_at ht (mwd_eq (by rw [g_M_plain, if_neg c_1, if_neg c_2, if_pos c_3, if_neg c_4, if_pos c_5]) hw)⟩, hS.F ht⟩) hS.2.2 d_M_plain_266
    · refine lv_aload_n hx hb d_M_plain_117 rfl (lv_at hl 0 rfl) ?_
      refine lv_aload_n hx hb d_M_plain_118 rfl (lv_at hl 0 rfl) ?_
      obtain ⟨rg, ft, h1, h2, hP⟩ := id hw
      refine va_get (D := (dC, dI)) (ci := 2) (v := .int f) (C := R_M) (T := F_M) (N := 14) hx hb hT i_M hown hK hP 0 rfl rfl 11 (by decide) (hT _ m_764) (fun _ h9 => h9) rfl d_M_plain_119 ?_
      refine rg_M_plain_122 S inC hT (Nat.le_of_ble_eq_true rfl) (Nat.le_of_ble_eq_true rfl) ⟨(Nat.le_of_ble_eq_true rfl), (Nat.le_of_ble_eq_true rfl)⟩ hK hw hl ?_
      refine call_M_threes S inC m_829 ⟨(Nat.le_of_ble_eq_true rfl), (Nat.le_of_ble_eq_true rfl)⟩ hl.1 (Nat.le_of_ble_eq_true rfl) d_M_plain_219 ⟨(Nat.le_of_ble_eq_true rfl), (Nat.le_of_ble_eq_true rfl)⟩ hK ap ok hS hA hw (by omega) (fun H locs hw hS _ => ?_)
      have hL3 := gl_M_threes bi d a b f (q_M_plain_122 bi d a b f x1) st
      refine lv_goto (tgt := 266) hx hb d_M_plain_222 (by decide) ?_
      exact W.vret hx hb hr (fun t ht hW => ⟨⟨(), rfl, trivial, mwd_at ht (mwd_eq (by rw [g_M_plain, if_neg c_1, if_pos c_2]) hw)⟩, hS.F ht⟩) hS.2.2 d_M_plain_266
  · refine lv_aload_n hx hb d_M_plain_4 rfl (lv_at hl 0 rfl) ?_
    refine lv_aload_n hx hb d_M_plain_5 rfl (lv_at hl 0 rfl) ?_
    obtain ⟨rg, ft, h1, h2, hP⟩ := id hw
    refine va_get (D := (dC, dI)) (ci := 2) (v := .int f) (C := R_M) (T := F_M) (N := 14) hx hb hT i_M hown hK hP 0 rfl rfl 11 (by decide) (hT _ m_764) (fun _ h9 => h9) rfl d_M_plain_6 ?_
    refine rg_M_plain_9 S inC hT (Nat.le_of_ble_eq_true rfl) (Nat.le_of_ble_eq_true rfl) ⟨(Nat.le_of_ble_eq_true rfl), (Nat.le_of_ble_eq_true rfl)⟩ hK hw hl ?_
    refine call_M_threes S inC m_829 ⟨(Nat.le_of_ble_eq_true rfl), (Nat.le_of_ble_eq_true rfl)⟩ hl.1 (Nat.le_of_ble_eq_true rfl) d_M_plain_106 ⟨(Nat.le_of_ble_eq_true rfl), (Nat.le_of_ble_eq_true rfl)⟩ hK ap ok hS hA hw (by omega) (fun H locs hw hS _ => ?_)
    have hL4 := gl_M_threes bi d a b f (q_M_plain_9 bi d a b f x1) st
    refine lv_goto (tgt := 266) hx hb d_M_plain_109 (by decide) ?_
    exact W.vret hx hb hr (fun t ht hW => ⟨⟨(), rfl, trivial, mwd_at ht (mwd_eq (by rw [g_M_plain, if_pos c_1]) hw)⟩, hS.F ht⟩) hS.2.2 d_M_plain_266
theorem call_M_plain {p : Program} {l : Launch} {e : Env} {R : Room} {s : State} {m : MethodId} {args : Array Value} {below : List Frame} {meth : Method} {c : Code} {H : Heap} {locs : List Loc} {cells slots : Nat} {Q : State → Prop} {cc : ByteArray} {pc nL idx : Nat} {ls : Array Slot} {rest : List Value} {Ts : List Cond} {own : String} {A0 : Nat → Prop} {H0 : Heap} {dC : Nat → ClassId} {dI : Nat → Nat → Nat} {cI cC : ClassId} {m0 mt ms mr mk : Nat} {th yb bi d a b f : Int32} {str fk : Nat → Int32} {st : MT} {x1 : Int32} (S : CallFix p m c cc nL s args Ts own) (hTs : ∀ w ∈ WT, w ∈ Ts) (hlk : Cond.methodLink own idx y_M_plain ∈ WT) (hR : 4 + 1 ≤ R.frames ∧ 8 + (2 + 11) + 89 ≤ R.locals) (hsz : ls.size = nL) (hrm : (rest.map fun v => v.category).sum ≤ 8) (hdg : decode cc pc = .ok (.invokevirtual idx, 3)) (hc : cells ≤ R.cells ∧ slots ≤ R.slots) (hK : rK dC dI cI cC s) (ap : apM m0 mt ms mr mk) (ok : mOk d a b) (hS : va_S A0 H0 H locs) (hA : ∀ q, aM m0 mt ms mr mk q → A0 q) (hw : mwd dC dI cI cC m0 mt ms mr mk th yb bi d a b f str fk st H) (hlen : st.2.2.length + 38 ≤ 64) (kk : ∀ (H1 : Heap) (locs1 : List Loc), mwd dC dI cI cC m0 mt ms mr mk th yb bi d a b f str fk (g_M_plain bi d a b f x1 st) H1 → va_S A0 H0 H1 locs1 → (H.size ≤ H1.size ∧ ∀ q : Nat, q < H.size → ¬ aM m0 mt ms mr mk q → H1[q]? = H[q]?) → W p l e R s m args below meth c H1 locs1 cells slots Q (F0 m (pc + 3) ls (rest))) : W p l e R s m args below meth c H locs cells slots Q (F0 m pc ls (.int x1 :: .ref m0 :: rest)) :=
  va_callv (va_runV (As := [.int x1]) (rest := rest) S (c_M_plain l dC dI cI cC m0 mt ms mr mk th yb bi d a b f str fk st x1) (cwV 1 S.2.2.2.2 (gV hTs hlk m_819 m_19 m_52 m_820) rfl rfl rfl (by decide +kernel) hR) ⟨fun a U g mk q => ⟨q.1, ⟨q.2.1.blind, q.2.2⟩⟩, mwd.recv hK hw, fun U hU hW => ⟨rfl, ⟨mU.at hK ap ok hw hU hW, hlen⟩⟩⟩ rfl rfl hsz rfl (lv_room hrm) hdg hc) hS (fun q _ h => hA q h) hA (fun u t H1 locs1 ht hvm hp hB hz hk hS1 => kk H1 locs1 (by rw [← ht]; exact hB) hS1 ⟨hz, hk⟩)

def q_M_twos_5 (bi d a b f x1 : Int32) : Int32 :=
  if f = 1 then
    1
  else
    if f = 5 then
      1
    else
      0
set_option maxRecDepth 100000 in
set_option maxHeartbeats 4000000 in
theorem rg_M_twos_5 {p : Program} {l : Launch} {e : Env} {R : Room} {s : State} {m : MethodId} {args : Array Value} {below : List Frame} {meth : Method} {c : Code} {cells slots : Nat} {Q : State → Prop} {Ts : List Cond} {dC : Nat → ClassId} {dI : Nat → Nat → Nat} {cI cC : ClassId} {m0 mt ms mr mk : Nat} {th yb bi d a b f : Int32} {str fk : Nat → Int32} {st : MT} {H : Heap} {locs : List Loc} {ls : Array Slot} {x1 : Int32} (S : CallFix p m c b_M_twos 3 s args Ts R_M) (hTs : ∀ w ∈ WT, w ∈ Ts) (hT : ∀ w ∈ WT, w.before args s = true) (hfr : 1 ≤ R.frames) (hlo : 1 ≤ R.locals) (hc : cells ≤ R.cells ∧ slots ≤ R.slots) (hK : rK dC dI cI cC s) (hw : mwd dC dI cI cC m0 mt ms mr mk th yb bi d a b f str fk st H) (hl : lv_has ls 3 [(0, .ref m0), (1, .int x1)]) (kk : W p l e R s m args below meth c H locs cells slots Q (F0 m 21 ls (.int (q_M_twos_5 bi d a b f x1) :: []))) : W p l e R s m args below meth c H locs cells slots Q (F0 m 5 ls (.int 1 :: .int f :: [])) := by
  have hx := S.1
  have hb := S.2.1
  have hown := S.2.2.2.1
  refine lv_icmp_eq (tgt := 16) hx hb d_M_twos_5 (by decide) (fun c_1 => ?_) (fun c_1 => ?_)
  · refine lv_iconst (v := 1) hx hb d_M_twos_16 (by decide) ?_
    refine lv_goto (tgt := 21) hx hb d_M_twos_17 (by decide) ?_
    rw [q_M_twos_5, if_pos c_1] at kk
    exact kk
  · refine lv_aload_n hx hb d_M_twos_8 rfl (lv_at hl 0 rfl) ?_
    obtain ⟨rg, ft, h1, h2, hP⟩ := id hw
    refine va_get (D := (dC, dI)) (ci := 2) (v := .int f) (C := R_M) (T := F_M) (N := 14) hx hb hT i_M hown hK hP 0 rfl rfl 11 (by decide) (hT _ m_764) (fun _ h9 => h9) rfl d_M_twos_9 ?_
    refine lv_iconst (v := 5) hx hb d_M_twos_12 (by decide) ?_
    refine lv_icmp_ne (tgt := 20) hx hb d_M_twos_13 (by decide) (fun c_2 => ?_) (fun c_2 => ?_)
    · refine lv_iconst (v := 0) hx hb d_M_twos_20 (by decide) ?_
      rw [q_M_twos_5, if_neg c_1, if_neg c_2] at kk
      exact kk
    · refine lv_iconst (v := 1) hx hb d_M_twos_16 (by decide) ?_
      refine lv_goto (tgt := 21) hx hb d_M_twos_17 (by decide) ?_
      rw [q_M_twos_5, if_neg c_1, if_pos c_2] at kk
      exact kk
def q_M_twos_49 (bi d a b f x1 y2 : Int32) : Int64 :=
  if x1 = 32 then
    if y2 = 0 then
      if f = 0 then
        1768186977
      else
        if f = 1 then
          1768713331
        else
          if f = 2 then
            1769237619
          else
            if f = 3 then
              504280411251
            else
              if f = 4 then
                1769107320
              else
                if f = 5 then
                  1768714867
                else
                  if f = 6 then
                    6910575
                  else
                    1768189537
    else
      1767993971
  else
    if f = 0 then
      1768186977
    else
      if f = 1 then
        1768713331
      else
        if f = 2 then
          1769237619
        else
          if f = 3 then
            504280411251
          else
            if f = 4 then
              1769107320
            else
              if f = 5 then
                1768714867
              else
                if f = 6 then
                  6910575
                else
                  1768189537
set_option maxRecDepth 100000 in
set_option maxHeartbeats 4000000 in
theorem rg_M_twos_49 {p : Program} {l : Launch} {e : Env} {R : Room} {s : State} {m : MethodId} {args : Array Value} {below : List Frame} {meth : Method} {c : Code} {cells slots : Nat} {Q : State → Prop} {Ts : List Cond} {dC : Nat → ClassId} {dI : Nat → Nat → Nat} {cI cC : ClassId} {m0 mt ms mr mk : Nat} {th yb bi d a b f : Int32} {str fk : Nat → Int32} {st : MT} {H : Heap} {locs : List Loc} {ls : Array Slot} {x1 y2 : Int32} (S : CallFix p m c b_M_twos 3 s args Ts R_M) (hTs : ∀ w ∈ WT, w ∈ Ts) (hT : ∀ w ∈ WT, w.before args s = true) (hfr : 1 ≤ R.frames) (hlo : 1 ≤ R.locals) (hc : cells ≤ R.cells ∧ slots ≤ R.slots) (hK : rK dC dI cI cC s) (hw : mwd dC dI cI cC m0 mt ms mr mk th yb bi d a b f str fk st H) (hl : lv_has ls 3 [(2, .int y2), (0, .ref m0), (1, .int x1)]) (kk : W p l e R s m args below meth c H locs cells slots Q (F0 m 163 ls (.long (q_M_twos_49 bi d a b f x1 y2) :: [.ref m0]))) : W p l e R s m args below meth c H locs cells slots Q (F0 m 49 ls (.int 32 :: .int x1 :: [.ref m0])) := by
  have hx := S.1
  have hb := S.2.1
  have hown := S.2.2.2.1
  refine lv_icmp_ne (tgt := 62) hx hb d_M_twos_49 (by decide) (fun c_1 => ?_) (fun c_1 => ?_)
  · refine lv_aload_n hx hb d_M_twos_62 rfl (lv_at hl 1 rfl) ?_
    obtain ⟨rg, ft, h1, h2, hP⟩ := id hw
    refine va_get (D := (dC, dI)) (ci := 2) (v := .int f) (C := R_M) (T := F_M) (N := 14) hx hb hT i_M hown hK hP 0 rfl rfl 11 (by decide) (hT _ m_764) (fun _ h9 => h9) rfl d_M_twos_63 ?_
    refine lv_if_ne (tgt := 75) hx hb d_M_twos_66 (by decide) (fun c_2 => ?_) (fun c_2 => ?_)
    · refine lv_aload_n hx hb d_M_twos_75 rfl (lv_at hl 1 rfl) ?_
      obtain ⟨rg, ft, h1, h2, hP⟩ := id hw
      refine va_get (D := (dC, dI)) (ci := 2) (v := .int f) (C := R_M) (T := F_M) (N := 14) hx hb hT i_M hown hK hP 0 rfl rfl 11 (by decide) (hT _ m_764) (fun _ h9 => h9) rfl d_M_twos_76 ?_
      refine lv_iconst (v := 1) hx hb d_M_twos_79 (by decide) ?_
      refine lv_icmp_ne (tgt := 89) hx hb d_M_twos_80 (by decide) (fun c_3 => ?_) (fun c_3 => ?_)
      · refine lv_aload_n hx hb d_M_twos_89 rfl (lv_at hl 1 rfl) ?_
        obtain ⟨rg, ft, h1, h2, hP⟩ := id hw
        refine va_get (D := (dC, dI)) (ci := 2) (v := .int f) (C := R_M) (T := F_M) (N := 14) hx hb hT i_M hown hK hP 0 rfl rfl 11 (by decide) (hT _ m_764) (fun _ h9 => h9) rfl d_M_twos_90 ?_
        refine lv_iconst (v := 2) hx hb d_M_twos_93 (by decide) ?_
        refine lv_icmp_ne (tgt := 103) hx hb d_M_twos_94 (by decide) (fun c_4 => ?_) (fun c_4 => ?_)
        · refine lv_aload_n hx hb d_M_twos_103 rfl (lv_at hl 1 rfl) ?_
          obtain ⟨rg, ft, h1, h2, hP⟩ := id hw
          refine va_get (D := (dC, dI)) (ci := 2) (v := .int f) (C := R_M) (T := F_M) (N := 14) hx hb hT i_M hown hK hP 0 rfl rfl 11 (by decide) (hT _ m_764) (fun _ h9 => h9) rfl d_M_twos_104 ?_
          refine lv_iconst (v := 3) hx hb d_M_twos_107 (by decide) ?_
          refine lv_icmp_ne (tgt := 117) hx hb d_M_twos_108 (by decide) (fun c_5 => ?_) (fun c_5 => ?_)
          · refine lv_aload_n hx hb d_M_twos_117 rfl (lv_at hl 1 rfl) ?_
            obtain ⟨rg, ft, h1, h2, hP⟩ := id hw
            refine va_get (D := (dC, dI)) (ci := 2) (v := .int f) (C := R_M) (T := F_M) (N := 14) hx hb hT i_M hown hK hP 0 rfl rfl 11 (by decide) (hT _ m_764) (fun _ h9 => h9) rfl d_M_twos_118 ?_
            refine lv_iconst (v := 4) hx hb d_M_twos_121 (by decide) ?_
            refine lv_icmp_ne (tgt := 131) hx hb d_M_twos_122 (by decide) (fun c_6 => ?_) (fun c_6 => ?_)
            · refine lv_aload_n hx hb d_M_twos_131 rfl (lv_at hl 1 rfl) ?_
              obtain ⟨rg, ft, h1, h2, hP⟩ := id hw
              refine va_get (D := (dC, dI)) (ci := 2) (v := .int f) (C := R_M) (T := F_M) (N := 14) hx hb hT i_M hown hK hP 0 rfl rfl 11 (by decide) (hT _ m_764) (fun _ h9 => h9) rfl d_M_twos_132 ?_
              refine lv_iconst (v := 5) hx hb d_M_twos_135 (by decide) ?_
              refine lv_icmp_ne (tgt := 145) hx hb d_M_twos_136 (by decide) (fun c_7 => ?_) (fun c_7 => ?_)
              · refine lv_aload_n hx hb d_M_twos_145 rfl (lv_at hl 1 rfl) ?_
                obtain ⟨rg, ft, h1, h2, hP⟩ := id hw
                refine va_get (D := (dC, dI)) (ci := 2) (v := .int f) (C := R_M) (T := F_M) (N := 14) hx hb hT i_M hown hK hP 0 rfl rfl 11 (by decide) (hT _ m_764) (fun _ h9 => h9) rfl d_M_twos_146 ?_
                refine lv_bipush (v := 6) hx hb d_M_twos_149 (by decide) ?_
                refine lv_icmp_ne (tgt := 160) hx hb d_M_twos_151 (by decide) (fun c_8 => ?_) (fun c_8 => ?_)
                · refine lv_ldc2 (v := 1768189537) hx hb hown (hT _ m_876) d_M_twos_160 ?_
                  rw [q_M_twos_49, if_neg c_1, if_neg c_2, if_neg c_3, if_neg c_4, if_neg c_5, if_neg c_6, if_neg c_7, if_neg c_8] at kk
                  exact kk
                · refine lv_ldc2 (v := 6910575) hx hb hown (hT _ m_875) d_M_twos_154 ?_
                  refine lv_goto (tgt := 163) hx hb d_M_twos_157 (by decide) ?_
                  rw [q_M_twos_49, if_neg c_1, if_neg c_2, if_neg c_3, if_neg c_4, if_neg c_5, if_neg c_6, if_neg c_7, if_pos c_8] at kk
                  exact kk
              · refine lv_ldc2 (v := 1768714867) hx hb hown (hT _ m_874) d_M_twos_139 ?_
                refine lv_goto (tgt := 163) hx hb d_M_twos_142 (by decide) ?_
                rw [q_M_twos_49, if_neg c_1, if_neg c_2, if_neg c_3, if_neg c_4, if_neg c_5, if_neg c_6, if_pos c_7] at kk
                exact kk
            · refine lv_ldc2 (v := 1769107320) hx hb hown (hT _ m_873) d_M_twos_125 ?_
              refine lv_goto (tgt := 163) hx hb d_M_twos_128 (by decide) ?_
              rw [q_M_twos_49, if_neg c_1, if_neg c_2, if_neg c_3, if_neg c_4, if_neg c_5, if_pos c_6] at kk
              exact kk
          · refine lv_ldc2 (v := 504280411251) hx hb hown (hT _ m_872) d_M_twos_111 ?_
            refine lv_goto (tgt := 163) hx hb d_M_twos_114 (by decide) ?_
            rw [q_M_twos_49, if_neg c_1, if_neg c_2, if_neg c_3, if_neg c_4, if_pos c_5] at kk
            exact kk
        · refine lv_ldc2 (v := 1769237619) hx hb hown (hT _ m_871) d_M_twos_97 ?_
          refine lv_goto (tgt := 163) hx hb d_M_twos_100 (by decide) ?_
          rw [q_M_twos_49, if_neg c_1, if_neg c_2, if_neg c_3, if_pos c_4] at kk
          exact kk
      · refine lv_ldc2 (v := 1768713331) hx hb hown (hT _ m_870) d_M_twos_83 ?_
        refine lv_goto (tgt := 163) hx hb d_M_twos_86 (by decide) ?_
        rw [q_M_twos_49, if_neg c_1, if_neg c_2, if_pos c_3] at kk
        exact kk
    · refine lv_ldc2 (v := 1768186977) hx hb hown (hT _ m_869) d_M_twos_69 ?_
      refine lv_goto (tgt := 163) hx hb d_M_twos_72 (by decide) ?_
      rw [q_M_twos_49, if_neg c_1, if_pos c_2] at kk
      exact kk
  · refine lv_iload_n hx hb d_M_twos_52 rfl (lv_at hl 0 rfl) ?_
    refine lv_if_eq (tgt := 62) hx hb d_M_twos_53 (by decide) (fun c_9 => ?_) (fun c_9 => ?_)
    · refine lv_aload_n hx hb d_M_twos_62 rfl (lv_at hl 1 rfl) ?_
      obtain ⟨rg, ft, h1, h2, hP⟩ := id hw
      refine va_get (D := (dC, dI)) (ci := 2) (v := .int f) (C := R_M) (T := F_M) (N := 14) hx hb hT i_M hown hK hP 0 rfl rfl 11 (by decide) (hT _ m_764) (fun _ h9 => h9) rfl d_M_twos_63 ?_
      refine lv_if_ne (tgt := 75) hx hb d_M_twos_66 (by decide) (fun c_10 => ?_) (fun c_10 => ?_)
      · refine lv_aload_n hx hb d_M_twos_75 rfl (lv_at hl 1 rfl) ?_
        obtain ⟨rg, ft, h1, h2, hP⟩ := id hw
        refine va_get (D := (dC, dI)) (ci := 2) (v := .int f) (C := R_M) (T := F_M) (N := 14) hx hb hT i_M hown hK hP 0 rfl rfl 11 (by decide) (hT _ m_764) (fun _ h9 => h9) rfl d_M_twos_76 ?_
        refine lv_iconst (v := 1) hx hb d_M_twos_79 (by decide) ?_
        refine lv_icmp_ne (tgt := 89) hx hb d_M_twos_80 (by decide) (fun c_11 => ?_) (fun c_11 => ?_)
        · refine lv_aload_n hx hb d_M_twos_89 rfl (lv_at hl 1 rfl) ?_
          obtain ⟨rg, ft, h1, h2, hP⟩ := id hw
          refine va_get (D := (dC, dI)) (ci := 2) (v := .int f) (C := R_M) (T := F_M) (N := 14) hx hb hT i_M hown hK hP 0 rfl rfl 11 (by decide) (hT _ m_764) (fun _ h9 => h9) rfl d_M_twos_90 ?_
          refine lv_iconst (v := 2) hx hb d_M_twos_93 (by decide) ?_
          refine lv_icmp_ne (tgt := 103) hx hb d_M_twos_94 (by decide) (fun c_12 => ?_) (fun c_12 => ?_)
          · refine lv_aload_n hx hb d_M_twos_103 rfl (lv_at hl 1 rfl) ?_
            obtain ⟨rg, ft, h1, h2, hP⟩ := id hw
            refine va_get (D := (dC, dI)) (ci := 2) (v := .int f) (C := R_M) (T := F_M) (N := 14) hx hb hT i_M hown hK hP 0 rfl rfl 11 (by decide) (hT _ m_764) (fun _ h9 => h9) rfl d_M_twos_104 ?_
            refine lv_iconst (v := 3) hx hb d_M_twos_107 (by decide) ?_
            refine lv_icmp_ne (tgt := 117) hx hb d_M_twos_108 (by decide) (fun c_13 => ?_) (fun c_13 => ?_)
            · refine lv_aload_n hx hb d_M_twos_117 rfl (lv_at hl 1 rfl) ?_
              obtain ⟨rg, ft, h1, h2, hP⟩ := id hw
              refine va_get (D := (dC, dI)) (ci := 2) (v := .int f) (C := R_M) (T := F_M) (N := 14) hx hb hT i_M hown hK hP 0 rfl rfl 11 (by decide) (hT _ m_764) (fun _ h9 => h9) rfl d_M_twos_118 ?_
              refine lv_iconst (v := 4) hx hb d_M_twos_121 (by decide) ?_
              refine lv_icmp_ne (tgt := 131) hx hb d_M_twos_122 (by decide) (fun c_14 => ?_) (fun c_14 => ?_)
              · refine lv_aload_n hx hb d_M_twos_131 rfl (lv_at hl 1 rfl) ?_
                obtain ⟨rg, ft, h1, h2, hP⟩ := id hw
                refine va_get (D := (dC, dI)) (ci := 2) (v := .int f) (C := R_M) (T := F_M) (N := 14) hx hb hT i_M hown hK hP 0 rfl rfl 11 (by decide) (hT _ m_764) (fun _ h9 => h9) rfl d_M_twos_132 ?_
                refine lv_iconst (v := 5) hx hb d_M_twos_135 (by decide) ?_
                refine lv_icmp_ne (tgt := 145) hx hb d_M_twos_136 (by decide) (fun c_15 => ?_) (fun c_15 => ?_)
                · refine lv_aload_n hx hb d_M_twos_145 rfl (lv_at hl 1 rfl) ?_
                  obtain ⟨rg, ft, h1, h2, hP⟩ := id hw
                  refine va_get (D := (dC, dI)) (ci := 2) (v := .int f) (C := R_M) (T := F_M) (N := 14) hx hb hT i_M hown hK hP 0 rfl rfl 11 (by decide) (hT _ m_764) (fun _ h9 => h9) rfl d_M_twos_146 ?_
                  refine lv_bipush (v := 6) hx hb d_M_twos_149 (by decide) ?_
                  refine lv_icmp_ne (tgt := 160) hx hb d_M_twos_151 (by decide) (fun c_16 => ?_) (fun c_16 => ?_)
                  · refine lv_ldc2 (v := 1768189537) hx hb hown (hT _ m_876) d_M_twos_160 ?_
                    rw [q_M_twos_49, if_pos c_1, if_pos c_9, if_neg c_10, if_neg c_11, if_neg c_12, if_neg c_13, if_neg c_14, if_neg c_15, if_neg c_16] at kk
                    exact kk
                  · refine lv_ldc2 (v := 6910575) hx hb hown (hT _ m_875) d_M_twos_154 ?_
                    refine lv_goto (tgt := 163) hx hb d_M_twos_157 (by decide) ?_
                    rw [q_M_twos_49, if_pos c_1, if_pos c_9, if_neg c_10, if_neg c_11, if_neg c_12, if_neg c_13, if_neg c_14, if_neg c_15, if_pos c_16] at kk
                    exact kk
                · refine lv_ldc2 (v := 1768714867) hx hb hown (hT _ m_874) d_M_twos_139 ?_
                  refine lv_goto (tgt := 163) hx hb d_M_twos_142 (by decide) ?_
                  rw [q_M_twos_49, if_pos c_1, if_pos c_9, if_neg c_10, if_neg c_11, if_neg c_12, if_neg c_13, if_neg c_14, if_pos c_15] at kk
                  exact kk
              · refine lv_ldc2 (v := 1769107320) hx hb hown (hT _ m_873) d_M_twos_125 ?_
                refine lv_goto (tgt := 163) hx hb d_M_twos_128 (by decide) ?_
                rw [q_M_twos_49, if_pos c_1, if_pos c_9, if_neg c_10, if_neg c_11, if_neg c_12, if_neg c_13, if_pos c_14] at kk
                exact kk
            · refine lv_ldc2 (v := 504280411251) hx hb hown (hT _ m_872) d_M_twos_111 ?_
              refine lv_goto (tgt := 163) hx hb d_M_twos_114 (by decide) ?_
              rw [q_M_twos_49, if_pos c_1, if_pos c_9, if_neg c_10, if_neg c_11, if_neg c_12, if_pos c_13] at kk
              exact kk
          · refine lv_ldc2 (v := 1769237619) hx hb hown (hT _ m_871) d_M_twos_97 ?_
            refine lv_goto (tgt := 163) hx hb d_M_twos_100 (by decide) ?_
            rw [q_M_twos_49, if_pos c_1, if_pos c_9, if_neg c_10, if_neg c_11, if_pos c_12] at kk
            exact kk
        · refine lv_ldc2 (v := 1768713331) hx hb hown (hT _ m_870) d_M_twos_83 ?_
          refine lv_goto (tgt := 163) hx hb d_M_twos_86 (by decide) ?_
          rw [q_M_twos_49, if_pos c_1, if_pos c_9, if_neg c_10, if_pos c_11] at kk
          exact kk
      · refine lv_ldc2 (v := 1768186977) hx hb hown (hT _ m_869) d_M_twos_69 ?_
        refine lv_goto (tgt := 163) hx hb d_M_twos_72 (by decide) ?_
        rw [q_M_twos_49, if_pos c_1, if_pos c_9, if_pos c_10] at kk
        exact kk
    · refine lv_ldc2 (v := 1767993971) hx hb hown (hT _ m_868) d_M_twos_56 ?_
      refine lv_goto (tgt := 163) hx hb d_M_twos_59 (by decide) ?_
      rw [q_M_twos_49, if_pos c_1, if_neg c_9] at kk
      exact kk
def q_M_twos_184 (bi d a b f x1 y2 : Int32) : Int32 :=
  if y2 = 0 then
    bi >>> ((20 : Int32) &&& 31)
  else
    b
set_option maxRecDepth 100000 in
set_option maxHeartbeats 4000000 in
theorem rg_M_twos_184 {p : Program} {l : Launch} {e : Env} {R : Room} {s : State} {m : MethodId} {args : Array Value} {below : List Frame} {meth : Method} {c : Code} {cells slots : Nat} {Q : State → Prop} {Ts : List Cond} {dC : Nat → ClassId} {dI : Nat → Nat → Nat} {cI cC : ClassId} {m0 mt ms mr mk : Nat} {th yb bi d a b f : Int32} {str fk : Nat → Int32} {st : MT} {H : Heap} {locs : List Loc} {ls : Array Slot} {x1 y2 : Int32} (S : CallFix p m c b_M_twos 3 s args Ts R_M) (hTs : ∀ w ∈ WT, w ∈ Ts) (hT : ∀ w ∈ WT, w.before args s = true) (hfr : 1 ≤ R.frames) (hlo : 1 ≤ R.locals) (hc : cells ≤ R.cells ∧ slots ≤ R.slots) (hK : rK dC dI cI cC s) (hw : mwd dC dI cI cC m0 mt ms mr mk th yb bi d a b f str fk st H) (hl : lv_has ls 3 [(2, .int y2), (0, .ref m0), (1, .int x1)]) (kk : W p l e R s m args below meth c H locs cells slots Q (F0 m 201 ls (.int (q_M_twos_184 bi d a b f x1 y2) :: [.ref m0]))) : W p l e R s m args below meth c H locs cells slots Q (F0 m 184 ls (.int y2 :: [.ref m0])) := by
  have hx := S.1
  have hb := S.2.1
  have hown := S.2.2.2.1
  refine lv_if_eq (tgt := 194) hx hb d_M_twos_184 (by decide) (fun c_1 => ?_) (fun c_1 => ?_)
  · refine lv_aload_n hx hb d_M_twos_194 rfl (lv_at hl 1 rfl) ?_
    obtain ⟨rg, ft, h1, h2, hP⟩ := id hw
    refine va_get (D := (dC, dI)) (ci := 2) (v := .int bi) (C := R_M) (T := F_M) (N := 14) hx hb hT i_M hown hK hP 0 rfl rfl 7 (by decide) (hT _ m_760) (fun _ h9 => h9) rfl d_M_twos_195 ?_
    refine lv_bipush (v := 20) hx hb d_M_twos_198 (by decide) ?_
    refine lv_ishr hx hb d_M_twos_200 ?_
    rw [q_M_twos_184, if_pos c_1] at kk
    exact kk
  · refine lv_aload_n hx hb d_M_twos_187 rfl (lv_at hl 1 rfl) ?_
    obtain ⟨rg, ft, h1, h2, hP⟩ := id hw
    refine va_get (D := (dC, dI)) (ci := 2) (v := .int b) (C := R_M) (T := F_M) (N := 14) hx hb hT i_M hown hK hP 0 rfl rfl 10 (by decide) (hT _ m_763) (fun _ h9 => h9) rfl d_M_twos_188 ?_
    refine lv_goto (tgt := 201) hx hb d_M_twos_191 (by decide) ?_
    rw [q_M_twos_184, if_neg c_1] at kk
    exact kk
def g_M_twos (bi d a b f : Int32) (x1 : Int32) (st : MT) : MT :=
  if (q_M_twos_5 bi d a b f x1) = 0 then
    g_M_immediate bi d a b f (q_M_twos_184 bi d a b f x1 (q_M_twos_5 bi d a b f x1)) (sReg a (sReg d (sName (q_M_twos_49 bi d a b f x1 (q_M_twos_5 bi d a b f x1)) st)))
  else
    if x1 = 0 then
      g_M_immediate bi d a b f (q_M_twos_184 bi d a b f x1 (q_M_twos_5 bi d a b f x1)) (sReg a (sReg d (sName (q_M_twos_49 bi d a b f x1 (q_M_twos_5 bi d a b f x1)) st)))
    else
      if x1 = 32 then
        if f = 1 then
          st
        else
          g_M_immediate bi d a b f (q_M_twos_184 bi d a b f x1 (q_M_twos_5 bi d a b f x1)) (sReg a (sReg d (sName (q_M_twos_49 bi d a b f x1 (q_M_twos_5 bi d a b f x1)) st)))
      else
        st
set_option maxRecDepth 20000 in
theorem gl_M_twos (bi d a b f : Int32) (x1 : Int32) (st : MT) : (g_M_twos bi d a b f x1 st).2.2.length ≤ st.2.2.length + 41 := by
  unfold g_M_twos
  exact (it_len _ (by have h0 := sName_le (q_M_twos_49 bi d a b f x1 (q_M_twos_5 bi d a b f x1)) st; have h1 := sReg_le d (sName (q_M_twos_49 bi d a b f x1 (q_M_twos_5 bi d a b f x1)) st); have h2 := sReg_le a (sReg d (sName (q_M_twos_49 bi d a b f x1 (q_M_twos_5 bi d a b f x1)) st)); have h3 := gl_M_immediate bi d a b f (q_M_twos_184 bi d a b f x1 (q_M_twos_5 bi d a b f x1)) (sReg a (sReg d (sName (q_M_twos_49 bi d a b f x1 (q_M_twos_5 bi d a b f x1)) st))); omega) (it_len _ (by have h0 := sName_le (q_M_twos_49 bi d a b f x1 (q_M_twos_5 bi d a b f x1)) st; have h1 := sReg_le d (sName (q_M_twos_49 bi d a b f x1 (q_M_twos_5 bi d a b f x1)) st); have h2 := sReg_le a (sReg d (sName (q_M_twos_49 bi d a b f x1 (q_M_twos_5 bi d a b f x1)) st)); have h3 := gl_M_immediate bi d a b f (q_M_twos_184 bi d a b f x1 (q_M_twos_5 bi d a b f x1)) (sReg a (sReg d (sName (q_M_twos_49 bi d a b f x1 (q_M_twos_5 bi d a b f x1)) st))); omega) (it_len _ (it_len _ (by omega) (by have h0 := sName_le (q_M_twos_49 bi d a b f x1 (q_M_twos_5 bi d a b f x1)) st; have h1 := sReg_le d (sName (q_M_twos_49 bi d a b f x1 (q_M_twos_5 bi d a b f x1)) st); have h2 := sReg_le a (sReg d (sName (q_M_twos_49 bi d a b f x1 (q_M_twos_5 bi d a b f x1)) st)); have h3 := gl_M_immediate bi d a b f (q_M_twos_184 bi d a b f x1 (q_M_twos_5 bi d a b f x1)) (sReg a (sReg d (sName (q_M_twos_49 bi d a b f x1 (q_M_twos_5 bi d a b f x1)) st))); omega)) (by omega))))
set_option maxRecDepth 100000 in
set_option maxHeartbeats 4000000 in
theorem c_M_twos (l : Launch) (dC : Nat → ClassId) (dI : Nat → Nat → Nat) (cI cC : ClassId) (m0 mt ms mr mk : Nat) (th yb bi d a b f : Int32) (str fk : Nat → Int32) (st : MT) (x1 : Int32) : Met l y_M_twos (Cond.code y_M_twos b_M_twos 3 none :: WT) ({ frames := 4, cells := 0, slots := 0, locals := 89 }) (va_Pc [.ref m0, .int x1] (fun U => mU dC dI cI cC m0 mt ms mr mk th yb bi d a b f str fk st U ∧ st.2.2.length + 41 ≤ 64)) (va_Qv (fun _ : Unit => True) (fun _ t => mwd dC dI cI cC m0 mt ms mr mk th yb bi d a b f str fk (g_M_twos bi d a b f x1 st) t.heap) (aM m0 mt ms mr mk)) 0 0 (aM m0 mt ms mr mk) := by
  refine va_MetF (cc := b_M_twos) (maxL := 3) (ret := none) (by decide +kernel) rfl ?_
  intro p e s m args below meth c s₁ B hml hv
  obtain ⟨rfl, ⟨hK, ap, ok, hw⟩, hlen⟩ := hv
  have hx := B.exec
  have hb := B.bytes
  have hr := B.returns
  have hts := atoms_spec (ws := (Cond.code y_M_twos b_M_twos 3 none :: WT)) B.pre
  have hT : ∀ w ∈ WT, w.before _ s = true := fun w h => hts w (inC w h)
  have hown : s.vm.findClass R_M = some m.cls := findClass_of_methodNamed B.named
  have hlocks := B.notSynchronized
  have hS : va_S (aM m0 mt ms mr mk) s.heap s.heap [] := va_S.rf
  have S : CallFix p m c b_M_twos 3 s _ (Cond.code y_M_twos b_M_twos 3 none :: WT) R_M := ⟨hx, hb, hml, hown, hts⟩
  have hl := lv_entry ([.ref m0, .int x1]) (n := 3) (Nat.le_of_ble_eq_true rfl)
  rw [lg_entry_eq]
  generalize (lg_sl ([.ref m0, .int x1]) ++ List.replicate (3 - (lg_sl ([.ref m0, .int x1])).length) Slot.unset).toArray = ls at hl ⊢
  have hl : lv_has ls 3 [(0, .ref m0), (1, .int x1)] := hl
  have hA : ∀ q, aM m0 mt ms mr mk q → aM m0 mt ms mr mk q := fun _ h => h
  refine lv_aload_n hx hb d_M_twos_0 rfl (lv_at hl 0 rfl) ?_
  obtain ⟨rg, ft, h1, h2, hP⟩ := id hw
  refine va_get (D := (dC, dI)) (ci := 2) (v := .int f) (C := R_M) (T := F_M) (N := 14) hx hb hT i_M hown hK hP 0 rfl rfl 11 (by decide) (hT _ m_764) (fun _ h9 => h9) rfl d_M_twos_1 ?_
  refine lv_iconst (v := 1) hx hb d_M_twos_4 (by decide) ?_
  refine rg_M_twos_5 S inC hT (Nat.le_of_ble_eq_true rfl) (Nat.le_of_ble_eq_true rfl) ⟨(Nat.le_of_ble_eq_true rfl), (Nat.le_of_ble_eq_true rfl)⟩ hK hw hl ?_
  refine lv_istore_n (lv' := [(2, .int (q_M_twos_5 bi d a b f x1)), (0, .ref m0), (1, .int x1)]) hx hb d_M_twos_21 rfl hl (by decide) rfl (fun ls hl => ?_)
  refine lv_iload_n hx hb d_M_twos_22 rfl (lv_at hl 0 rfl) ?_
  refine lv_if_eq (tgt := 45) hx hb d_M_twos_23 (by decide) (fun c_1 => ?_) (fun c_1 => ?_)
  · refine lv_aload_n hx hb d_M_twos_45 rfl (lv_at hl 1 rfl) ?_
    refine lv_iload_n hx hb d_M_twos_46 rfl (lv_at hl 2 rfl) ?_
    refine lv_bipush (v := 32) hx hb d_M_twos_47 (by decide) ?_
    refine rg_M_twos_49 S inC hT (Nat.le_of_ble_eq_true rfl) (Nat.le_of_ble_eq_true rfl) ⟨(Nat.le_of_ble_eq_true rfl), (Nat.le_of_ble_eq_true rfl)⟩ hK hw hl ?_
    refine call_M_name S inC m_833 ⟨(Nat.le_of_ble_eq_true rfl), (Nat.le_of_ble_eq_true rfl)⟩ hl.1 (Nat.le_of_ble_eq_true rfl) d_M_twos_163 ⟨(Nat.le_of_ble_eq_true rfl), (Nat.le_of_ble_eq_true rfl)⟩ hK ap ok hS hA hw (by omega) (fun H locs hw hS _ => ?_)
    have hL1 := sName_le (q_M_twos_49 bi d a b f x1 (q_M_twos_5 bi d a b f x1)) st
    refine lv_aload_n hx hb d_M_twos_166 rfl (lv_at hl 1 rfl) ?_
    refine lv_aload_n hx hb d_M_twos_167 rfl (lv_at hl 1 rfl) ?_
    obtain ⟨rg, ft, h1, h2, hP⟩ := id hw
    refine va_get (D := (dC, dI)) (ci := 2) (v := .int d) (C := R_M) (T := F_M) (N := 14) hx hb hT i_M hown hK hP 0 rfl rfl 8 (by decide) (hT _ m_761) (fun _ h9 => h9) rfl d_M_twos_168 ?_
    refine call_M_register S inC m_846 ⟨(Nat.le_of_ble_eq_true rfl), (Nat.le_of_ble_eq_true rfl)⟩ hl.1 (Nat.le_of_ble_eq_true rfl) d_M_twos_171 ⟨(Nat.le_of_ble_eq_true rfl), (Nat.le_of_ble_eq_true rfl)⟩ hK ap ok hS hA hw ok.1 (by omega) (fun H locs hw hS _ => ?_)
    have hL2 := sReg_le d (sName (q_M_twos_49 bi d a b f x1 (q_M_twos_5 bi d a b f x1)) st)
    refine lv_aload_n hx hb d_M_twos_174 rfl (lv_at hl 1 rfl) ?_
    refine lv_aload_n hx hb d_M_twos_175 rfl (lv_at hl 1 rfl) ?_
    obtain ⟨rg, ft, h1, h2, hP⟩ := id hw
    refine va_get (D := (dC, dI)) (ci := 2) (v := .int a) (C := R_M) (T := F_M) (N := 14) hx hb hT i_M hown hK hP 0 rfl rfl 9 (by decide) (hT _ m_762) (fun _ h9 => h9) rfl d_M_twos_176 ?_
    refine call_M_register S inC m_846 ⟨(Nat.le_of_ble_eq_true rfl), (Nat.le_of_ble_eq_true rfl)⟩ hl.1 (Nat.le_of_ble_eq_true rfl) d_M_twos_179 ⟨(Nat.le_of_ble_eq_true rfl), (Nat.le_of_ble_eq_true rfl)⟩ hK ap ok hS hA hw ok.2.1 (by omega) (fun H locs hw hS _ => ?_)
    have hL3 := sReg_le a (sReg d (sName (q_M_twos_49 bi d a b f x1 (q_M_twos_5 bi d a b f x1)) st))
    refine lv_aload_n hx hb d_M_twos_182 rfl (lv_at hl 1 rfl) ?_
    refine lv_iload_n hx hb d_M_twos_183 rfl (lv_at hl 0 rfl) ?_
    refine rg_M_twos_184 S inC hT (Nat.le_of_ble_eq_true rfl) (Nat.le_of_ble_eq_true rfl) ⟨(Nat.le_of_ble_eq_true rfl), (Nat.le_of_ble_eq_true rfl)⟩ hK hw hl ?_
    refine call_M_immediate S inC m_877 ⟨(Nat.le_of_ble_eq_true rfl), (Nat.le_of_ble_eq_true rfl)⟩ hl.1 (Nat.le_of_ble_eq_true rfl) d_M_twos_201 ⟨(Nat.le_of_ble_eq_true rfl), (Nat.le_of_ble_eq_true rfl)⟩ hK ap ok hS hA hw (by omega) (fun H locs hw hS _ => ?_)
    have hL4 := gl_M_immediate bi d a b f (q_M_twos_184 bi d a b f x1 (q_M_twos_5 bi d a b f x1)) (sReg a (sReg d (sName (q_M_twos_49 bi d a b f x1 (q_M_twos_5 bi d a b f x1)) st)))
    exact W.vret hx hb hr (fun t ht hW => ⟨⟨(), rfl, trivial, mwd_at ht (mwd_eq (by rw [g_M_twos, if_pos c_1]) hw)⟩, hS.F ht⟩) hS.2.2 d_M_twos_204
  · refine lv_iload_n hx hb d_M_twos_26 rfl (lv_at hl 2 rfl) ?_
    refine lv_if_eq (tgt := 45) hx hb d_M_twos_27 (by decide) (fun c_2 => ?_) (fun c_2 => ?_)
    · refine lv_aload_n hx hb d_M_twos_45 rfl (lv_at hl 1 rfl) ?_
      refine lv_iload_n hx hb d_M_twos_46 rfl (lv_at hl 2 rfl) ?_
      refine lv_bipush (v := 32) hx hb d_M_twos_47 (by decide) ?_
      refine rg_M_twos_49 S inC hT (Nat.le_of_ble_eq_true rfl) (Nat.le_of_ble_eq_true rfl) ⟨(Nat.le_of_ble_eq_true rfl), (Nat.le_of_ble_eq_true rfl)⟩ hK hw hl ?_
      refine call_M_name S inC m_833 ⟨(Nat.le_of_ble_eq_true rfl), (Nat.le_of_ble_eq_true rfl)⟩ hl.1 (Nat.le_of_ble_eq_true rfl) d_M_twos_163 ⟨(Nat.le_of_ble_eq_true rfl), (Nat.le_of_ble_eq_true rfl)⟩ hK ap ok hS hA hw (by omega) (fun H locs hw hS _ => ?_)
      have hL5 := sName_le (q_M_twos_49 bi d a b f x1 (q_M_twos_5 bi d a b f x1)) st
      refine lv_aload_n hx hb d_M_twos_166 rfl (lv_at hl 1 rfl) ?_
      refine lv_aload_n hx hb d_M_twos_167 rfl (lv_at hl 1 rfl) ?_
      obtain ⟨rg, ft, h1, h2, hP⟩ := id hw
      refine va_get (D := (dC, dI)) (ci := 2) (v := .int d) (C := R_M) (T := F_M) (N := 14) hx hb hT i_M hown hK hP 0 rfl rfl 8 (by decide) (hT _ m_761) (fun _ h9 => h9) rfl d_M_twos_168 ?_
      refine call_M_register S inC m_846 ⟨(Nat.le_of_ble_eq_true rfl), (Nat.le_of_ble_eq_true rfl)⟩ hl.1 (Nat.le_of_ble_eq_true rfl) d_M_twos_171 ⟨(Nat.le_of_ble_eq_true rfl), (Nat.le_of_ble_eq_true rfl)⟩ hK ap ok hS hA hw ok.1 (by omega) (fun H locs hw hS _ => ?_)
      have hL6 := sReg_le d (sName (q_M_twos_49 bi d a b f x1 (q_M_twos_5 bi d a b f x1)) st)
      refine lv_aload_n hx hb d_M_twos_174 rfl (lv_at hl 1 rfl) ?_
      refine lv_aload_n hx hb d_M_twos_175 rfl (lv_at hl 1 rfl) ?_
      obtain ⟨rg, ft, h1, h2, hP⟩ := id hw
      refine va_get (D := (dC, dI)) (ci := 2) (v := .int a) (C := R_M) (T := F_M) (N := 14) hx hb hT i_M hown hK hP 0 rfl rfl 9 (by decide) (hT _ m_762) (fun _ h9 => h9) rfl d_M_twos_176 ?_
      refine call_M_register S inC m_846 ⟨(Nat.le_of_ble_eq_true rfl), (Nat.le_of_ble_eq_true rfl)⟩ hl.1 (Nat.le_of_ble_eq_true rfl) d_M_twos_179 ⟨(Nat.le_of_ble_eq_true rfl), (Nat.le_of_ble_eq_true rfl)⟩ hK ap ok hS hA hw ok.2.1 (by omega) (fun H locs hw hS _ => ?_)
      have hL7 := sReg_le a (sReg d (sName (q_M_twos_49 bi d a b f x1 (q_M_twos_5 bi d a b f x1)) st))
      refine lv_aload_n hx hb d_M_twos_182 rfl (lv_at hl 1 rfl) ?_
      refine lv_iload_n hx hb d_M_twos_183 rfl (lv_at hl 0 rfl) ?_
      refine rg_M_twos_184 S inC hT (Nat.le_of_ble_eq_true rfl) (Nat.le_of_ble_eq_true rfl) ⟨(Nat.le_of_ble_eq_true rfl), (Nat.le_of_ble_eq_true rfl)⟩ hK hw hl ?_
      refine call_M_immediate S inC m_877 ⟨(Nat.le_of_ble_eq_true rfl), (Nat.le_of_ble_eq_true rfl)⟩ hl.1 (Nat.le_of_ble_eq_true rfl) d_M_twos_201 ⟨(Nat.le_of_ble_eq_true rfl), (Nat.le_of_ble_eq_true rfl)⟩ hK ap ok hS hA hw (by omega) (fun H locs hw hS _ => ?_)
      have hL8 := gl_M_immediate bi d a b f (q_M_twos_184 bi d a b f x1 (q_M_twos_5 bi d a b f x1)) (sReg a (sReg d (sName (q_M_twos_49 bi d a b f x1 (q_M_twos_5 bi d a b f x1)) st)))
      exact W.vret hx hb hr (fun t ht hW => ⟨⟨(), rfl, trivial, mwd_at ht (mwd_eq (by rw [g_M_twos, if_neg c_1, if_pos c_2]) hw)⟩, hS.F ht⟩) hS.2.2 d_M_twos_204
    · refine lv_iload_n hx hb d_M_twos_30 rfl (lv_at hl 2 rfl) ?_
      refine lv_bipush (v := 32) hx hb d_M_twos_31 (by decide) ?_
      refine lv_icmp_ne (tgt := 44) hx hb d_M_twos_33 (by decide) (fun c_3 => ?_) (fun c_3 => ?_)
      · exact W.vret hx hb hr (fun t ht hW => ⟨⟨(), rfl, trivial, mwd_at ht (mwd_eq (by rw [g_M_twos, if_neg c_1, if_neg c_2, if_neg c_3]) hw)⟩, hS.F ht⟩) hS.2.2 d_M_twos_44
      · refine lv_aload_n hx hb d_M_twos_36 rfl (lv_at hl 1 rfl) ?_
        obtain ⟨rg, ft, h1, h2, hP⟩ := id hw
        refine va_get (D := (dC, dI)) (ci := 2) (v := .int f) (C := R_M) (T := F_M) (N := 14) hx hb hT i_M hown hK hP 0 rfl rfl 11 (by decide) (hT _ m_764) (fun _ h9 => h9) rfl d_M_twos_37 ?_
        refine lv_iconst (v := 1) hx hb d_M_twos_40 (by decide) ?_
        refine lv_icmp_ne (tgt := 45) hx hb d_M_twos_41 (by decide) (fun c_4 => ?_) (fun c_4 => ?_)
        · refine lv_aload_n hx hb d_M_twos_45 rfl (lv_at hl 1 rfl) ?_
          refine lv_iload_n hx hb d_M_twos_46 rfl (lv_at hl 2 rfl) ?_
          refine lv_bipush (v := 32) hx hb d_M_twos_47 (by decide) ?_
          refine rg_M_twos_49 S inC hT (Nat.le_of_ble_eq_true rfl) (Nat.le_of_ble_eq_true rfl) ⟨(Nat.le_of_ble_eq_true rfl), (Nat.le_of_ble_eq_true rfl)⟩ hK hw hl ?_
          refine call_M_name S inC m_833 ⟨(Nat.le_of_ble_eq_true rfl), (Nat.le_of_ble_eq_true rfl)⟩ hl.1 (Nat.le_of_ble_eq_true rfl) d_M_twos_163 ⟨(Nat.le_of_ble_eq_true rfl), (Nat.le_of_ble_eq_true rfl)⟩ hK ap ok hS hA hw (by omega) (fun H locs hw hS _ => ?_)
          have hL9 := sName_le (q_M_twos_49 bi d a b f x1 (q_M_twos_5 bi d a b f x1)) st
          refine lv_aload_n hx hb d_M_twos_166 rfl (lv_at hl 1 rfl) ?_
          refine lv_aload_n hx hb d_M_twos_167 rfl (lv_at hl 1 rfl) ?_
          obtain ⟨rg, ft, h1, h2, hP⟩ := id hw
          refine va_get (D := (dC, dI)) (ci := 2) (v := .int d) (C := R_M) (T := F_M) (N := 14) hx hb hT i_M hown hK hP 0 rfl rfl 8 (by decide) (hT _ m_761) (fun _ h9 => h9) rfl d_M_twos_168 ?_
          refine call_M_register S inC m_846 ⟨(Nat.le_of_ble_eq_true rfl), (Nat.le_of_ble_eq_true rfl)⟩ hl.1 (Nat.le_of_ble_eq_true rfl) d_M_twos_171 ⟨(Nat.le_of_ble_eq_true rfl), (Nat.le_of_ble_eq_true rfl)⟩ hK ap ok hS hA hw ok.1 (by omega) (fun H locs hw hS _ => ?_)
          have hL10 := sReg_le d (sName (q_M_twos_49 bi d a b f x1 (q_M_twos_5 bi d a b f x1)) st)
          refine lv_aload_n hx hb d_M_twos_174 rfl (lv_at hl 1 rfl) ?_
          refine lv_aload_n hx hb d_M_twos_175 rfl (lv_at hl 1 rfl) ?_
          obtain ⟨rg, ft, h1, h2, hP⟩ := id hw
          refine va_get (D := (dC, dI)) (ci := 2) (v := .int a) (C := R_M) (T := F_M) (N := 14) hx hb hT i_M hown hK hP 0 rfl rfl 9 (by decide) (hT _ m_762) (fun _ h9 => h9) rfl d_M_twos_176 ?_
          refine call_M_register S inC m_846 ⟨(Nat.le_of_ble_eq_true rfl), (Nat.le_of_ble_eq_true rfl)⟩ hl.1 (Nat.le_of_ble_eq_true rfl) d_M_twos_179 ⟨(Nat.le_of_ble_eq_true rfl), (Nat.le_of_ble_eq_true rfl)⟩ hK ap ok hS hA hw ok.2.1 (by omega) (fun H locs hw hS _ => ?_)
          have hL11 := sReg_le a (sReg d (sName (q_M_twos_49 bi d a b f x1 (q_M_twos_5 bi d a b f x1)) st))
          refine lv_aload_n hx hb d_M_twos_182 rfl (lv_at hl 1 rfl) ?_
          refine lv_iload_n hx hb d_M_twos_183 rfl (lv_at hl 0 rfl) ?_
          refine rg_M_twos_184 S inC hT (Nat.le_of_ble_eq_true rfl) (Nat.le_of_ble_eq_true rfl) ⟨(Nat.le_of_ble_eq_true rfl), (Nat.le_of_ble_eq_true rfl)⟩ hK hw hl ?_
          refine call_M_immediate S inC m_877 ⟨(Nat.le_of_ble_eq_true rfl), (Nat.le_of_ble_eq_true rfl)⟩ hl.1 (Nat.le_of_ble_eq_true rfl) d_M_twos_201 ⟨(Nat.le_of_ble_eq_true rfl), (Nat.le_of_ble_eq_true rfl)⟩ hK ap ok hS hA hw (by omega) (fun H locs hw hS _ => ?_)
          have hL12 := gl_M_immediate bi d a b f (q_M_twos_184 bi d a b f x1 (q_M_twos_5 bi d a b f x1)) (sReg a (sReg d (sName (q_M_twos_49 bi d a b f x1 (q_M_twos_5 bi d a b f x1)) st)))
          exact W.vret hx hb hr (fun t ht hW => ⟨⟨(), rfl, trivial, mwd_at ht (mwd_eq (by rw [g_M_twos, if_neg c_1, if_neg c_2, if_pos c_3, if_neg c_4]) hw)⟩, hS.F ht⟩) hS.2.2 d_M_twos_204
        · exact W.vret hx hb hr (fun t ht hW => ⟨⟨(), rfl, trivial, mwd_at ht (mwd_eq (by rw [g_M_twos, if_neg c_1, if_neg c_2, if_pos c_3, if_pos c_4]) hw)⟩, hS.F ht⟩) hS.2.2 d_M_twos_44
theorem call_M_twos {p : Program} {l : Launch} {e : Env} {R : Room} {s : State} {m : MethodId} {args : Array Value} {below : List Frame} {meth : Method} {c : Code} {H : Heap} {locs : List Loc} {cells slots : Nat} {Q : State → Prop} {cc : ByteArray} {pc nL idx : Nat} {ls : Array Slot} {rest : List Value} {Ts : List Cond} {own : String} {A0 : Nat → Prop} {H0 : Heap} {dC : Nat → ClassId} {dI : Nat → Nat → Nat} {cI cC : ClassId} {m0 mt ms mr mk : Nat} {th yb bi d a b f : Int32} {str fk : Nat → Int32} {st : MT} {x1 : Int32} (S : CallFix p m c cc nL s args Ts own) (hTs : ∀ w ∈ WT, w ∈ Ts) (hlk : Cond.methodLink own idx y_M_twos ∈ WT) (hR : 4 + 1 ≤ R.frames ∧ 8 + (3 + 11) + 89 ≤ R.locals) (hsz : ls.size = nL) (hrm : (rest.map fun v => v.category).sum ≤ 8) (hdg : decode cc pc = .ok (.invokevirtual idx, 3)) (hc : cells ≤ R.cells ∧ slots ≤ R.slots) (hK : rK dC dI cI cC s) (ap : apM m0 mt ms mr mk) (ok : mOk d a b) (hS : va_S A0 H0 H locs) (hA : ∀ q, aM m0 mt ms mr mk q → A0 q) (hw : mwd dC dI cI cC m0 mt ms mr mk th yb bi d a b f str fk st H) (hlen : st.2.2.length + 41 ≤ 64) (kk : ∀ (H1 : Heap) (locs1 : List Loc), mwd dC dI cI cC m0 mt ms mr mk th yb bi d a b f str fk (g_M_twos bi d a b f x1 st) H1 → va_S A0 H0 H1 locs1 → (H.size ≤ H1.size ∧ ∀ q : Nat, q < H.size → ¬ aM m0 mt ms mr mk q → H1[q]? = H[q]?) → W p l e R s m args below meth c H1 locs1 cells slots Q (F0 m (pc + 3) ls (rest))) : W p l e R s m args below meth c H locs cells slots Q (F0 m pc ls (.int x1 :: .ref m0 :: rest)) :=
  va_callv (va_runV (As := [.int x1]) (rest := rest) S (c_M_twos l dC dI cI cC m0 mt ms mr mk th yb bi d a b f str fk st x1) (cwV 1 S.2.2.2.2 (gV hTs hlk m_866 m_26 m_52 m_867) rfl rfl rfl (by decide +kernel) hR) ⟨fun a U g mk q => ⟨q.1, ⟨q.2.1.blind, q.2.2⟩⟩, mwd.recv hK hw, fun U hU hW => ⟨rfl, ⟨mU.at hK ap ok hw hU hW, hlen⟩⟩⟩ rfl rfl hsz rfl (lv_room hrm) hdg hc) hS (fun q _ h => hA q h) hA (fun u t H1 locs1 ht hvm hp hB hz hk hS1 => kk H1 locs1 (by rw [← ht]; exact hB) hS1 ⟨hz, hk⟩)

def q_M_loads_22 (bi d a b f : Int32) : Int64 :=
  if f = 0 then
    25196
  else
    if f = 1 then
      26732
    else
      if f = 2 then
        30572
      else
        if f = 4 then
          7692908
        else
          7694444
set_option maxRecDepth 100000 in
set_option maxHeartbeats 4000000 in
theorem rg_M_loads_22 {p : Program} {l : Launch} {e : Env} {R : Room} {s : State} {m : MethodId} {args : Array Value} {below : List Frame} {meth : Method} {c : Code} {cells slots : Nat} {Q : State → Prop} {Ts : List Cond} {dC : Nat → ClassId} {dI : Nat → Nat → Nat} {cI cC : ClassId} {m0 mt ms mr mk : Nat} {th yb bi d a b f : Int32} {str fk : Nat → Int32} {st : MT} {H : Heap} {locs : List Loc} {ls : Array Slot} (S : CallFix p m c b_M_loads 1 s args Ts R_M) (hTs : ∀ w ∈ WT, w ∈ Ts) (hT : ∀ w ∈ WT, w.before args s = true) (hfr : 1 ≤ R.frames) (hlo : 1 ≤ R.locals) (hc : cells ≤ R.cells ∧ slots ≤ R.slots) (hK : rK dC dI cI cC s) (hw : mwd dC dI cI cC m0 mt ms mr mk th yb bi d a b f str fk st H) (hl : lv_has ls 1 [(0, .ref m0)]) (kk : W p l e R s m args below meth c H locs cells slots Q (F0 m 76 ls (.long (q_M_loads_22 bi d a b f) :: [.ref m0]))) : W p l e R s m args below meth c H locs cells slots Q (F0 m 22 ls (.int f :: [.ref m0])) := by
  have hx := S.1
  have hb := S.2.1
  have hown := S.2.2.2.1
  refine lv_if_ne (tgt := 31) hx hb d_M_loads_22 (by decide) (fun c_1 => ?_) (fun c_1 => ?_)
  · refine lv_aload_n hx hb d_M_loads_31 rfl (lv_at hl 0 rfl) ?_
    obtain ⟨rg, ft, h1, h2, hP⟩ := id hw
    refine va_get (D := (dC, dI)) (ci := 2) (v := .int f) (C := R_M) (T := F_M) (N := 14) hx hb hT i_M hown hK hP 0 rfl rfl 11 (by decide) (hT _ m_764) (fun _ h9 => h9) rfl d_M_loads_32 ?_
    refine lv_iconst (v := 1) hx hb d_M_loads_35 (by decide) ?_
    refine lv_icmp_ne (tgt := 45) hx hb d_M_loads_36 (by decide) (fun c_2 => ?_) (fun c_2 => ?_)
    · refine lv_aload_n hx hb d_M_loads_45 rfl (lv_at hl 0 rfl) ?_
      obtain ⟨rg, ft, h1, h2, hP⟩ := id hw
      refine va_get (D := (dC, dI)) (ci := 2) (v := .int f) (C := R_M) (T := F_M) (N := 14) hx hb hT i_M hown hK hP 0 rfl rfl 11 (by decide) (hT _ m_764) (fun _ h9 => h9) rfl d_M_loads_46 ?_
      refine lv_iconst (v := 2) hx hb d_M_loads_49 (by decide) ?_
      refine lv_icmp_ne (tgt := 59) hx hb d_M_loads_50 (by decide) (fun c_3 => ?_) (fun c_3 => ?_)
      · refine lv_aload_n hx hb d_M_loads_59 rfl (lv_at hl 0 rfl) ?_
        obtain ⟨rg, ft, h1, h2, hP⟩ := id hw
        refine va_get (D := (dC, dI)) (ci := 2) (v := .int f) (C := R_M) (T := F_M) (N := 14) hx hb hT i_M hown hK hP 0 rfl rfl 11 (by decide) (hT _ m_764) (fun _ h9 => h9) rfl d_M_loads_60 ?_
        refine lv_iconst (v := 4) hx hb d_M_loads_63 (by decide) ?_
        refine lv_icmp_ne (tgt := 73) hx hb d_M_loads_64 (by decide) (fun c_4 => ?_) (fun c_4 => ?_)
        · refine lv_ldc2 (v := 7694444) hx hb hown (hT _ m_900) d_M_loads_73 ?_
          rw [q_M_loads_22, if_neg c_1, if_neg c_2, if_neg c_3, if_neg c_4] at kk
          exact kk
        · refine lv_ldc2 (v := 7692908) hx hb hown (hT _ m_899) d_M_loads_67 ?_
          refine lv_goto (tgt := 76) hx hb d_M_loads_70 (by decide) ?_
          rw [q_M_loads_22, if_neg c_1, if_neg c_2, if_neg c_3, if_pos c_4] at kk
          exact kk
      · refine lv_ldc2 (v := 30572) hx hb hown (hT _ m_898) d_M_loads_53 ?_
        refine lv_goto (tgt := 76) hx hb d_M_loads_56 (by decide) ?_
        rw [q_M_loads_22, if_neg c_1, if_neg c_2, if_pos c_3] at kk
        exact kk
    · refine lv_ldc2 (v := 26732) hx hb hown (hT _ m_897) d_M_loads_39 ?_
      refine lv_goto (tgt := 76) hx hb d_M_loads_42 (by decide) ?_
      rw [q_M_loads_22, if_neg c_1, if_pos c_2] at kk
      exact kk
  · refine lv_ldc2 (v := 25196) hx hb hown (hT _ m_896) d_M_loads_25 ?_
    refine lv_goto (tgt := 76) hx hb d_M_loads_28 (by decide) ?_
    rw [q_M_loads_22, if_pos c_1] at kk
    exact kk
def g_M_loads (bi d a b f : Int32)  (st : MT) : MT :=
  if f = 3 then
    st
  else
    if f ≤ 5 then
      g_M_memory bi d a b f (bi >>> ((20 : Int32) &&& 31)) a (sReg d (sName (q_M_loads_22 bi d a b f) st))
    else
      st
set_option maxRecDepth 20000 in
theorem gl_M_loads (bi d a b f : Int32)  (st : MT) : (g_M_loads bi d a b f  st).2.2.length ≤ st.2.2.length + 41 := by
  unfold g_M_loads
  exact (it_len _ (by omega) (it_len _ (by have h0 := sName_le (q_M_loads_22 bi d a b f) st; have h1 := sReg_le d (sName (q_M_loads_22 bi d a b f) st); have h2 := gl_M_memory bi d a b f (bi >>> ((20 : Int32) &&& 31)) a (sReg d (sName (q_M_loads_22 bi d a b f) st)); omega) (by omega)))
set_option maxRecDepth 100000 in
set_option maxHeartbeats 4000000 in
theorem c_M_loads (l : Launch) (dC : Nat → ClassId) (dI : Nat → Nat → Nat) (cI cC : ClassId) (m0 mt ms mr mk : Nat) (th yb bi d a b f : Int32) (str fk : Nat → Int32) (st : MT)  : Met l y_M_loads (Cond.code y_M_loads b_M_loads 1 none :: WT) ({ frames := 5, cells := 0, slots := 0, locals := 111 }) (va_Pc [.ref m0] (fun U => mU dC dI cI cC m0 mt ms mr mk th yb bi d a b f str fk st U ∧ st.2.2.length + 41 ≤ 64)) (va_Qv (fun _ : Unit => True) (fun _ t => mwd dC dI cI cC m0 mt ms mr mk th yb bi d a b f str fk (g_M_loads bi d a b f  st) t.heap) (aM m0 mt ms mr mk)) 0 0 (aM m0 mt ms mr mk) := by
  refine va_MetF (cc := b_M_loads) (maxL := 1) (ret := none) (by decide +kernel) rfl ?_
  intro p e s m args below meth c s₁ B hml hv
  obtain ⟨rfl, ⟨hK, ap, ok, hw⟩, hlen⟩ := hv
  have hx := B.exec
  have hb := B.bytes
  have hr := B.returns
  have hts := atoms_spec (ws := (Cond.code y_M_loads b_M_loads 1 none :: WT)) B.pre
  have hT : ∀ w ∈ WT, w.before _ s = true := fun w h => hts w (inC w h)
  have hown : s.vm.findClass R_M = some m.cls := findClass_of_methodNamed B.named
  have hlocks := B.notSynchronized
  have hS : va_S (aM m0 mt ms mr mk) s.heap s.heap [] := va_S.rf
  have S : CallFix p m c b_M_loads 1 s _ (Cond.code y_M_loads b_M_loads 1 none :: WT) R_M := ⟨hx, hb, hml, hown, hts⟩
  have hl := lv_entry ([.ref m0]) (n := 1) (Nat.le_of_ble_eq_true rfl)
  rw [lg_entry_eq]
  generalize (lg_sl ([.ref m0]) ++ List.replicate (1 - (lg_sl ([.ref m0])).length) Slot.unset).toArray = ls at hl ⊢
  have hl : lv_has ls 1 [(0, .ref m0)] := hl
  have hA : ∀ q, aM m0 mt ms mr mk q → aM m0 mt ms mr mk q := fun _ h => h
  refine lv_aload_n hx hb d_M_loads_0 rfl (lv_at hl 0 rfl) ?_
  obtain ⟨rg, ft, h1, h2, hP⟩ := id hw
  refine va_get (D := (dC, dI)) (ci := 2) (v := .int f) (C := R_M) (T := F_M) (N := 14) hx hb hT i_M hown hK hP 0 rfl rfl 11 (by decide) (hT _ m_764) (fun _ h9 => h9) rfl d_M_loads_1 ?_
  refine lv_iconst (v := 3) hx hb d_M_loads_4 (by decide) ?_
  refine lv_icmp_eq (tgt := 16) hx hb d_M_loads_5 (by decide) (fun c_1 => ?_) (fun c_1 => ?_)
  · exact W.vret hx hb hr (fun t ht hW => ⟨⟨(), rfl, trivial, mwd_at ht (mwd_eq (by rw [g_M_loads, if_pos c_1]) hw)⟩, hS.F ht⟩) hS.2.2 d_M_loads_16
  · refine lv_aload_n hx hb d_M_loads_8 rfl (lv_at hl 0 rfl) ?_
    obtain ⟨rg, ft, h1, h2, hP⟩ := id hw
    refine va_get (D := (dC, dI)) (ci := 2) (v := .int f) (C := R_M) (T := F_M) (N := 14) hx hb hT i_M hown hK hP 0 rfl rfl 11 (by decide) (hT _ m_764) (fun _ h9 => h9) rfl d_M_loads_9 ?_
    refine lv_iconst (v := 5) hx hb d_M_loads_12 (by decide) ?_
    refine lv_icmp_le (tgt := 17) hx hb d_M_loads_13 (by decide) (fun c_2 => ?_) (fun c_2 => ?_)
    · refine lv_aload_n hx hb d_M_loads_17 rfl (lv_at hl 0 rfl) ?_
      refine lv_aload_n hx hb d_M_loads_18 rfl (lv_at hl 0 rfl) ?_
      obtain ⟨rg, ft, h1, h2, hP⟩ := id hw
      refine va_get (D := (dC, dI)) (ci := 2) (v := .int f) (C := R_M) (T := F_M) (N := 14) hx hb hT i_M hown hK hP 0 rfl rfl 11 (by decide) (hT _ m_764) (fun _ h9 => h9) rfl d_M_loads_19 ?_
      refine rg_M_loads_22 S inC hT (Nat.le_of_ble_eq_true rfl) (Nat.le_of_ble_eq_true rfl) ⟨(Nat.le_of_ble_eq_true rfl), (Nat.le_of_ble_eq_true rfl)⟩ hK hw hl ?_
      refine call_M_name S inC m_833 ⟨(Nat.le_of_ble_eq_true rfl), (Nat.le_of_ble_eq_true rfl)⟩ hl.1 (Nat.le_of_ble_eq_true rfl) d_M_loads_76 ⟨(Nat.le_of_ble_eq_true rfl), (Nat.le_of_ble_eq_true rfl)⟩ hK ap ok hS hA hw (by omega) (fun H locs hw hS _ => ?_)
      have hL1 := sName_le (q_M_loads_22 bi d a b f) st
      refine lv_aload_n hx hb d_M_loads_79 rfl (lv_at hl 0 rfl) ?_
      refine lv_aload_n hx hb d_M_loads_80 rfl (lv_at hl 0 rfl) ?_
      obtain ⟨rg, ft, h1, h2, hP⟩ := id hw
      refine va_get (D := (dC, dI)) (ci := 2) (v := .int d) (C := R_M) (T := F_M) (N := 14) hx hb hT i_M hown hK hP 0 rfl rfl 8 (by decide) (hT _ m_761) (fun _ h9 => h9) rfl d_M_loads_81 ?_
      refine call_M_register S inC m_846 ⟨(Nat.le_of_ble_eq_true rfl), (Nat.le_of_ble_eq_true rfl)⟩ hl.1 (Nat.le_of_ble_eq_true rfl) d_M_loads_84 ⟨(Nat.le_of_ble_eq_true rfl), (Nat.le_of_ble_eq_true rfl)⟩ hK ap ok hS hA hw ok.1 (by omega) (fun H locs hw hS _ => ?_)
      have hL2 := sReg_le d (sName (q_M_loads_22 bi d a b f) st)
      refine lv_aload_n hx hb d_M_loads_87 rfl (lv_at hl 0 rfl) ?_
      refine lv_aload_n hx hb d_M_loads_88 rfl (lv_at hl 0 rfl) ?_
      obtain ⟨rg, ft, h1, h2, hP⟩ := id hw
      refine va_get (D := (dC, dI)) (ci := 2) (v := .int bi) (C := R_M) (T := F_M) (N := 14) hx hb hT i_M hown hK hP 0 rfl rfl 7 (by decide) (hT _ m_760) (fun _ h9 => h9) rfl d_M_loads_89 ?_
      refine lv_bipush (v := 20) hx hb d_M_loads_92 (by decide) ?_
      refine lv_ishr hx hb d_M_loads_94 ?_
      refine lv_aload_n hx hb d_M_loads_95 rfl (lv_at hl 0 rfl) ?_
      obtain ⟨rg, ft, h1, h2, hP⟩ := id hw
      refine va_get (D := (dC, dI)) (ci := 2) (v := .int a) (C := R_M) (T := F_M) (N := 14) hx hb hT i_M hown hK hP 0 rfl rfl 9 (by decide) (hT _ m_762) (fun _ h9 => h9) rfl d_M_loads_96 ?_
      refine call_M_memory S inC m_901 ⟨(Nat.le_of_ble_eq_true rfl), (Nat.le_of_ble_eq_true rfl)⟩ hl.1 (Nat.le_of_ble_eq_true rfl) d_M_loads_99 ⟨(Nat.le_of_ble_eq_true rfl), (Nat.le_of_ble_eq_true rfl)⟩ hK ap ok hS hA hw ok.2.1 (by omega) (fun H locs hw hS _ => ?_)
      have hL3 := gl_M_memory bi d a b f (bi >>> ((20 : Int32) &&& 31)) a (sReg d (sName (q_M_loads_22 bi d a b f) st))
      exact W.vret hx hb hr (fun t ht hW => ⟨⟨(), rfl, trivial, mwd_at ht (mwd_eq (by rw [g_M_loads, if_neg c_1, if_pos c_2]) hw)⟩, hS.F ht⟩) hS.2.2 d_M_loads_102
    · exact W.vret hx hb hr (fun t ht hW => ⟨⟨(), rfl, trivial, mwd_at ht (mwd_eq (by rw [g_M_loads, if_neg c_1, if_neg c_2]) hw)⟩, hS.F ht⟩) hS.2.2 d_M_loads_16
theorem call_M_loads {p : Program} {l : Launch} {e : Env} {R : Room} {s : State} {m : MethodId} {args : Array Value} {below : List Frame} {meth : Method} {c : Code} {H : Heap} {locs : List Loc} {cells slots : Nat} {Q : State → Prop} {cc : ByteArray} {pc nL idx : Nat} {ls : Array Slot} {rest : List Value} {Ts : List Cond} {own : String} {A0 : Nat → Prop} {H0 : Heap} {dC : Nat → ClassId} {dI : Nat → Nat → Nat} {cI cC : ClassId} {m0 mt ms mr mk : Nat} {th yb bi d a b f : Int32} {str fk : Nat → Int32} {st : MT}  (S : CallFix p m c cc nL s args Ts own) (hTs : ∀ w ∈ WT, w ∈ Ts) (hlk : Cond.methodLink own idx y_M_loads ∈ WT) (hR : 5 + 1 ≤ R.frames ∧ 8 + (1 + 11) + 111 ≤ R.locals) (hsz : ls.size = nL) (hrm : (rest.map fun v => v.category).sum ≤ 8) (hdg : decode cc pc = .ok (.invokevirtual idx, 3)) (hc : cells ≤ R.cells ∧ slots ≤ R.slots) (hK : rK dC dI cI cC s) (ap : apM m0 mt ms mr mk) (ok : mOk d a b) (hS : va_S A0 H0 H locs) (hA : ∀ q, aM m0 mt ms mr mk q → A0 q) (hw : mwd dC dI cI cC m0 mt ms mr mk th yb bi d a b f str fk st H) (hlen : st.2.2.length + 41 ≤ 64) (kk : ∀ (H1 : Heap) (locs1 : List Loc), mwd dC dI cI cC m0 mt ms mr mk th yb bi d a b f str fk (g_M_loads bi d a b f  st) H1 → va_S A0 H0 H1 locs1 → (H.size ≤ H1.size ∧ ∀ q : Nat, q < H.size → ¬ aM m0 mt ms mr mk q → H1[q]? = H[q]?) → W p l e R s m args below meth c H1 locs1 cells slots Q (F0 m (pc + 3) ls (rest))) : W p l e R s m args below meth c H locs cells slots Q (F0 m pc ls (.ref m0 :: rest)) :=
  va_callv (va_runV (As := []) (rest := rest) S (c_M_loads l dC dI cI cC m0 mt ms mr mk th yb bi d a b f str fk st ) (cwV 0 S.2.2.2.2 (gV hTs hlk m_894 m_30 m_52 m_895) rfl rfl rfl (by decide +kernel) hR) ⟨fun a U g mk q => ⟨q.1, ⟨q.2.1.blind, q.2.2⟩⟩, mwd.recv hK hw, fun U hU hW => ⟨rfl, ⟨mU.at hK ap ok hw hU hW, hlen⟩⟩⟩ rfl rfl hsz rfl (lv_room hrm) hdg hc) hS (fun q _ h => hA q h) hA (fun u t H1 locs1 ht hvm hp hB hz hk hS1 => kk H1 locs1 (by rw [← ht]; exact hB) hS1 ⟨hz, hk⟩)

def q_M_stores_14 (bi d a b f : Int32) : Int64 :=
  if f = 0 then
    25203
  else
    if f = 1 then
      26739
    else
      30579
set_option maxRecDepth 100000 in
set_option maxHeartbeats 4000000 in
theorem rg_M_stores_14 {p : Program} {l : Launch} {e : Env} {R : Room} {s : State} {m : MethodId} {args : Array Value} {below : List Frame} {meth : Method} {c : Code} {cells slots : Nat} {Q : State → Prop} {Ts : List Cond} {dC : Nat → ClassId} {dI : Nat → Nat → Nat} {cI cC : ClassId} {m0 mt ms mr mk : Nat} {th yb bi d a b f : Int32} {str fk : Nat → Int32} {st : MT} {H : Heap} {locs : List Loc} {ls : Array Slot} (S : CallFix p m c b_M_stores 1 s args Ts R_M) (hTs : ∀ w ∈ WT, w ∈ Ts) (hT : ∀ w ∈ WT, w.before args s = true) (hfr : 1 ≤ R.frames) (hlo : 1 ≤ R.locals) (hc : cells ≤ R.cells ∧ slots ≤ R.slots) (hK : rK dC dI cI cC s) (hw : mwd dC dI cI cC m0 mt ms mr mk th yb bi d a b f str fk st H) (hl : lv_has ls 1 [(0, .ref m0)]) (kk : W p l e R s m args below meth c H locs cells slots Q (F0 m 40 ls (.long (q_M_stores_14 bi d a b f) :: [.ref m0]))) : W p l e R s m args below meth c H locs cells slots Q (F0 m 14 ls (.int f :: [.ref m0])) := by
  have hx := S.1
  have hb := S.2.1
  have hown := S.2.2.2.1
  refine lv_if_ne (tgt := 23) hx hb d_M_stores_14 (by decide) (fun c_1 => ?_) (fun c_1 => ?_)
  · refine lv_aload_n hx hb d_M_stores_23 rfl (lv_at hl 0 rfl) ?_
    obtain ⟨rg, ft, h1, h2, hP⟩ := id hw
    refine va_get (D := (dC, dI)) (ci := 2) (v := .int f) (C := R_M) (T := F_M) (N := 14) hx hb hT i_M hown hK hP 0 rfl rfl 11 (by decide) (hT _ m_764) (fun _ h9 => h9) rfl d_M_stores_24 ?_
    refine lv_iconst (v := 1) hx hb d_M_stores_27 (by decide) ?_
    refine lv_icmp_ne (tgt := 37) hx hb d_M_stores_28 (by decide) (fun c_2 => ?_) (fun c_2 => ?_)
    · refine lv_ldc2 (v := 30579) hx hb hown (hT _ m_915) d_M_stores_37 ?_
      rw [q_M_stores_14, if_neg c_1, if_neg c_2] at kk
      exact kk
    · refine lv_ldc2 (v := 26739) hx hb hown (hT _ m_914) d_M_stores_31 ?_
      refine lv_goto (tgt := 40) hx hb d_M_stores_34 (by decide) ?_
      rw [q_M_stores_14, if_neg c_1, if_pos c_2] at kk
      exact kk
  · refine lv_ldc2 (v := 25203) hx hb hown (hT _ m_913) d_M_stores_17 ?_
    refine lv_goto (tgt := 40) hx hb d_M_stores_20 (by decide) ?_
    rw [q_M_stores_14, if_pos c_1] at kk
    exact kk
def g_M_stores (bi d a b f : Int32)  (st : MT) : MT :=
  if f ≤ 2 then
    g_M_memory bi d a b f (((bi >>> ((25 : Int32) &&& 31)) <<< ((5 : Int32) &&& 31)) ||| d) a (sReg b (sName (q_M_stores_14 bi d a b f) st))
  else
    st
set_option maxRecDepth 20000 in
theorem gl_M_stores (bi d a b f : Int32)  (st : MT) : (g_M_stores bi d a b f  st).2.2.length ≤ st.2.2.length + 41 := by
  unfold g_M_stores
  exact (it_len _ (by have h0 := sName_le (q_M_stores_14 bi d a b f) st; have h1 := sReg_le b (sName (q_M_stores_14 bi d a b f) st); have h2 := gl_M_memory bi d a b f (((bi >>> ((25 : Int32) &&& 31)) <<< ((5 : Int32) &&& 31)) ||| d) a (sReg b (sName (q_M_stores_14 bi d a b f) st)); omega) (by omega))
set_option maxRecDepth 100000 in
set_option maxHeartbeats 4000000 in
theorem c_M_stores (l : Launch) (dC : Nat → ClassId) (dI : Nat → Nat → Nat) (cI cC : ClassId) (m0 mt ms mr mk : Nat) (th yb bi d a b f : Int32) (str fk : Nat → Int32) (st : MT)  : Met l y_M_stores (Cond.code y_M_stores b_M_stores 1 none :: WT) ({ frames := 5, cells := 0, slots := 0, locals := 111 }) (va_Pc [.ref m0] (fun U => mU dC dI cI cC m0 mt ms mr mk th yb bi d a b f str fk st U ∧ st.2.2.length + 41 ≤ 64)) (va_Qv (fun _ : Unit => True) (fun _ t => mwd dC dI cI cC m0 mt ms mr mk th yb bi d a b f str fk (g_M_stores bi d a b f  st) t.heap) (aM m0 mt ms mr mk)) 0 0 (aM m0 mt ms mr mk) := by
  refine va_MetF (cc := b_M_stores) (maxL := 1) (ret := none) (by decide +kernel) rfl ?_
  intro p e s m args below meth c s₁ B hml hv
  obtain ⟨rfl, ⟨hK, ap, ok, hw⟩, hlen⟩ := hv
  have hx := B.exec
  have hb := B.bytes
  have hr := B.returns
  have hts := atoms_spec (ws := (Cond.code y_M_stores b_M_stores 1 none :: WT)) B.pre
  have hT : ∀ w ∈ WT, w.before _ s = true := fun w h => hts w (inC w h)
  have hown : s.vm.findClass R_M = some m.cls := findClass_of_methodNamed B.named
  have hlocks := B.notSynchronized
  have hS : va_S (aM m0 mt ms mr mk) s.heap s.heap [] := va_S.rf
  have S : CallFix p m c b_M_stores 1 s _ (Cond.code y_M_stores b_M_stores 1 none :: WT) R_M := ⟨hx, hb, hml, hown, hts⟩
  have hl := lv_entry ([.ref m0]) (n := 1) (Nat.le_of_ble_eq_true rfl)
  rw [lg_entry_eq]
  generalize (lg_sl ([.ref m0]) ++ List.replicate (1 - (lg_sl ([.ref m0])).length) Slot.unset).toArray = ls at hl ⊢
  have hl : lv_has ls 1 [(0, .ref m0)] := hl
  have hA : ∀ q, aM m0 mt ms mr mk q → aM m0 mt ms mr mk q := fun _ h => h
  refine lv_aload_n hx hb d_M_stores_0 rfl (lv_at hl 0 rfl) ?_
  obtain ⟨rg, ft, h1, h2, hP⟩ := id hw
  refine va_get (D := (dC, dI)) (ci := 2) (v := .int f) (C := R_M) (T := F_M) (N := 14) hx hb hT i_M hown hK hP 0 rfl rfl 11 (by decide) (hT _ m_764) (fun _ h9 => h9) rfl d_M_stores_1 ?_
  refine lv_iconst (v := 2) hx hb d_M_stores_4 (by decide) ?_
  refine lv_icmp_le (tgt := 9) hx hb d_M_stores_5 (by decide) (fun c_1 => ?_) (fun c_1 => ?_)
  · refine lv_aload_n hx hb d_M_stores_9 rfl (lv_at hl 0 rfl) ?_
    refine lv_aload_n hx hb d_M_stores_10 rfl (lv_at hl 0 rfl) ?_
    obtain ⟨rg, ft, h1, h2, hP⟩ := id hw
    refine va_get (D := (dC, dI)) (ci := 2) (v := .int f) (C := R_M) (T := F_M) (N := 14) hx hb hT i_M hown hK hP 0 rfl rfl 11 (by decide) (hT _ m_764) (fun _ h9 => h9) rfl d_M_stores_11 ?_
    refine rg_M_stores_14 S inC hT (Nat.le_of_ble_eq_true rfl) (Nat.le_of_ble_eq_true rfl) ⟨(Nat.le_of_ble_eq_true rfl), (Nat.le_of_ble_eq_true rfl)⟩ hK hw hl ?_
    refine call_M_name S inC m_833 ⟨(Nat.le_of_ble_eq_true rfl), (Nat.le_of_ble_eq_true rfl)⟩ hl.1 (Nat.le_of_ble_eq_true rfl) d_M_stores_40 ⟨(Nat.le_of_ble_eq_true rfl), (Nat.le_of_ble_eq_true rfl)⟩ hK ap ok hS hA hw (by omega) (fun H locs hw hS _ => ?_)
    have hL1 := sName_le (q_M_stores_14 bi d a b f) st
    refine lv_aload_n hx hb d_M_stores_43 rfl (lv_at hl 0 rfl) ?_
    refine lv_aload_n hx hb d_M_stores_44 rfl (lv_at hl 0 rfl) ?_
    obtain ⟨rg, ft, h1, h2, hP⟩ := id hw
    refine va_get (D := (dC, dI)) (ci := 2) (v := .int b) (C := R_M) (T := F_M) (N := 14) hx hb hT i_M hown hK hP 0 rfl rfl 10 (by decide) (hT _ m_763) (fun _ h9 => h9) rfl d_M_stores_45 ?_
    refine call_M_register S inC m_846 ⟨(Nat.le_of_ble_eq_true rfl), (Nat.le_of_ble_eq_true rfl)⟩ hl.1 (Nat.le_of_ble_eq_true rfl) d_M_stores_48 ⟨(Nat.le_of_ble_eq_true rfl), (Nat.le_of_ble_eq_true rfl)⟩ hK ap ok hS hA hw ok.2.2 (by omega) (fun H locs hw hS _ => ?_)
    have hL2 := sReg_le b (sName (q_M_stores_14 bi d a b f) st)
    refine lv_aload_n hx hb d_M_stores_51 rfl (lv_at hl 0 rfl) ?_
    refine lv_aload_n hx hb d_M_stores_52 rfl (lv_at hl 0 rfl) ?_
    obtain ⟨rg, ft, h1, h2, hP⟩ := id hw
    refine va_get (D := (dC, dI)) (ci := 2) (v := .int bi) (C := R_M) (T := F_M) (N := 14) hx hb hT i_M hown hK hP 0 rfl rfl 7 (by decide) (hT _ m_760) (fun _ h9 => h9) rfl d_M_stores_53 ?_
    refine lv_bipush (v := 25) hx hb d_M_stores_56 (by decide) ?_
    refine lv_ishr hx hb d_M_stores_58 ?_
    refine lv_iconst (v := 5) hx hb d_M_stores_59 (by decide) ?_
    refine lv_ishl hx hb d_M_stores_60 ?_
    refine lv_aload_n hx hb d_M_stores_61 rfl (lv_at hl 0 rfl) ?_
    obtain ⟨rg, ft, h1, h2, hP⟩ := id hw
    refine va_get (D := (dC, dI)) (ci := 2) (v := .int d) (C := R_M) (T := F_M) (N := 14) hx hb hT i_M hown hK hP 0 rfl rfl 8 (by decide) (hT _ m_761) (fun _ h9 => h9) rfl d_M_stores_62 ?_
    refine lv_ior hx hb d_M_stores_65 ?_
    refine lv_aload_n hx hb d_M_stores_66 rfl (lv_at hl 0 rfl) ?_
    obtain ⟨rg, ft, h1, h2, hP⟩ := id hw
    refine va_get (D := (dC, dI)) (ci := 2) (v := .int a) (C := R_M) (T := F_M) (N := 14) hx hb hT i_M hown hK hP 0 rfl rfl 9 (by decide) (hT _ m_762) (fun _ h9 => h9) rfl d_M_stores_67 ?_
    refine call_M_memory S inC m_901 ⟨(Nat.le_of_ble_eq_true rfl), (Nat.le_of_ble_eq_true rfl)⟩ hl.1 (Nat.le_of_ble_eq_true rfl) d_M_stores_70 ⟨(Nat.le_of_ble_eq_true rfl), (Nat.le_of_ble_eq_true rfl)⟩ hK ap ok hS hA hw ok.2.1 (by omega) (fun H locs hw hS _ => ?_)
    have hL3 := gl_M_memory bi d a b f (((bi >>> ((25 : Int32) &&& 31)) <<< ((5 : Int32) &&& 31)) ||| d) a (sReg b (sName (q_M_stores_14 bi d a b f) st))
    exact W.vret hx hb hr (fun t ht hW => ⟨⟨(), rfl, trivial, mwd_at ht (mwd_eq (by rw [g_M_stores, if_pos c_1]) hw)⟩, hS.F ht⟩) hS.2.2 d_M_stores_73
  · exact W.vret hx hb hr (fun t ht hW => ⟨⟨(), rfl, trivial, mwd_at ht (mwd_eq (by rw [g_M_stores, if_neg c_1]) hw)⟩, hS.F ht⟩) hS.2.2 d_M_stores_8
theorem call_M_stores {p : Program} {l : Launch} {e : Env} {R : Room} {s : State} {m : MethodId} {args : Array Value} {below : List Frame} {meth : Method} {c : Code} {H : Heap} {locs : List Loc} {cells slots : Nat} {Q : State → Prop} {cc : ByteArray} {pc nL idx : Nat} {ls : Array Slot} {rest : List Value} {Ts : List Cond} {own : String} {A0 : Nat → Prop} {H0 : Heap} {dC : Nat → ClassId} {dI : Nat → Nat → Nat} {cI cC : ClassId} {m0 mt ms mr mk : Nat} {th yb bi d a b f : Int32} {str fk : Nat → Int32} {st : MT}  (S : CallFix p m c cc nL s args Ts own) (hTs : ∀ w ∈ WT, w ∈ Ts) (hlk : Cond.methodLink own idx y_M_stores ∈ WT) (hR : 5 + 1 ≤ R.frames ∧ 8 + (1 + 11) + 111 ≤ R.locals) (hsz : ls.size = nL) (hrm : (rest.map fun v => v.category).sum ≤ 8) (hdg : decode cc pc = .ok (.invokevirtual idx, 3)) (hc : cells ≤ R.cells ∧ slots ≤ R.slots) (hK : rK dC dI cI cC s) (ap : apM m0 mt ms mr mk) (ok : mOk d a b) (hS : va_S A0 H0 H locs) (hA : ∀ q, aM m0 mt ms mr mk q → A0 q) (hw : mwd dC dI cI cC m0 mt ms mr mk th yb bi d a b f str fk st H) (hlen : st.2.2.length + 41 ≤ 64) (kk : ∀ (H1 : Heap) (locs1 : List Loc), mwd dC dI cI cC m0 mt ms mr mk th yb bi d a b f str fk (g_M_stores bi d a b f  st) H1 → va_S A0 H0 H1 locs1 → (H.size ≤ H1.size ∧ ∀ q : Nat, q < H.size → ¬ aM m0 mt ms mr mk q → H1[q]? = H[q]?) → W p l e R s m args below meth c H1 locs1 cells slots Q (F0 m (pc + 3) ls (rest))) : W p l e R s m args below meth c H locs cells slots Q (F0 m pc ls (.ref m0 :: rest)) :=
  va_callv (va_runV (As := []) (rest := rest) S (c_M_stores l dC dI cI cC m0 mt ms mr mk th yb bi d a b f str fk st ) (cwV 0 S.2.2.2.2 (gV hTs hlk m_911 m_33 m_52 m_912) rfl rfl rfl (by decide +kernel) hR) ⟨fun a U g mk q => ⟨q.1, ⟨q.2.1.blind, q.2.2⟩⟩, mwd.recv hK hw, fun U hU hW => ⟨rfl, ⟨mU.at hK ap ok hw hU hW, hlen⟩⟩⟩ rfl rfl hsz rfl (lv_room hrm) hdg hc) hS (fun q _ h => hA q h) hA (fun u t H1 locs1 ht hvm hp hB hz hk hS1 => kk H1 locs1 (by rw [← ht]; exact hB) hS1 ⟨hz, hk⟩)

def q_M_branches_22 (bi d a b f : Int32) : Int64 :=
  if f = 0 then
    7431522
  else
    if f = 1 then
      6647394
    else
      if f = 4 then
        7629922
      else
        if f = 5 then
          6645602
        else
          if f = 6 then
            1970564194
          else
            1969579874
set_option maxRecDepth 100000 in
set_option maxHeartbeats 4000000 in
theorem rg_M_branches_22 {p : Program} {l : Launch} {e : Env} {R : Room} {s : State} {m : MethodId} {args : Array Value} {below : List Frame} {meth : Method} {c : Code} {cells slots : Nat} {Q : State → Prop} {Ts : List Cond} {dC : Nat → ClassId} {dI : Nat → Nat → Nat} {cI cC : ClassId} {m0 mt ms mr mk : Nat} {th yb bi d a b f : Int32} {str fk : Nat → Int32} {st : MT} {H : Heap} {locs : List Loc} {ls : Array Slot} (S : CallFix p m c b_M_branches 1 s args Ts R_M) (hTs : ∀ w ∈ WT, w ∈ Ts) (hT : ∀ w ∈ WT, w.before args s = true) (hfr : 1 ≤ R.frames) (hlo : 1 ≤ R.locals) (hc : cells ≤ R.cells ∧ slots ≤ R.slots) (hK : rK dC dI cI cC s) (hw : mwd dC dI cI cC m0 mt ms mr mk th yb bi d a b f str fk st H) (hl : lv_has ls 1 [(0, .ref m0)]) (kk : W p l e R s m args below meth c H locs cells slots Q (F0 m 91 ls (.long (q_M_branches_22 bi d a b f) :: [.ref m0]))) : W p l e R s m args below meth c H locs cells slots Q (F0 m 22 ls (.int f :: [.ref m0])) := by
  have hx := S.1
  have hb := S.2.1
  have hown := S.2.2.2.1
  refine lv_if_ne (tgt := 31) hx hb d_M_branches_22 (by decide) (fun c_1 => ?_) (fun c_1 => ?_)
  · refine lv_aload_n hx hb d_M_branches_31 rfl (lv_at hl 0 rfl) ?_
    obtain ⟨rg, ft, h1, h2, hP⟩ := id hw
    refine va_get (D := (dC, dI)) (ci := 2) (v := .int f) (C := R_M) (T := F_M) (N := 14) hx hb hT i_M hown hK hP 0 rfl rfl 11 (by decide) (hT _ m_764) (fun _ h9 => h9) rfl d_M_branches_32 ?_
    refine lv_iconst (v := 1) hx hb d_M_branches_35 (by decide) ?_
    refine lv_icmp_ne (tgt := 45) hx hb d_M_branches_36 (by decide) (fun c_2 => ?_) (fun c_2 => ?_)
    · refine lv_aload_n hx hb d_M_branches_45 rfl (lv_at hl 0 rfl) ?_
      obtain ⟨rg, ft, h1, h2, hP⟩ := id hw
      refine va_get (D := (dC, dI)) (ci := 2) (v := .int f) (C := R_M) (T := F_M) (N := 14) hx hb hT i_M hown hK hP 0 rfl rfl 11 (by decide) (hT _ m_764) (fun _ h9 => h9) rfl d_M_branches_46 ?_
      refine lv_iconst (v := 4) hx hb d_M_branches_49 (by decide) ?_
      refine lv_icmp_ne (tgt := 59) hx hb d_M_branches_50 (by decide) (fun c_3 => ?_) (fun c_3 => ?_)
      · refine lv_aload_n hx hb d_M_branches_59 rfl (lv_at hl 0 rfl) ?_
        obtain ⟨rg, ft, h1, h2, hP⟩ := id hw
        refine va_get (D := (dC, dI)) (ci := 2) (v := .int f) (C := R_M) (T := F_M) (N := 14) hx hb hT i_M hown hK hP 0 rfl rfl 11 (by decide) (hT _ m_764) (fun _ h9 => h9) rfl d_M_branches_60 ?_
        refine lv_iconst (v := 5) hx hb d_M_branches_63 (by decide) ?_
        refine lv_icmp_ne (tgt := 73) hx hb d_M_branches_64 (by decide) (fun c_4 => ?_) (fun c_4 => ?_)
        · refine lv_aload_n hx hb d_M_branches_73 rfl (lv_at hl 0 rfl) ?_
          obtain ⟨rg, ft, h1, h2, hP⟩ := id hw
          refine va_get (D := (dC, dI)) (ci := 2) (v := .int f) (C := R_M) (T := F_M) (N := 14) hx hb hT i_M hown hK hP 0 rfl rfl 11 (by decide) (hT _ m_764) (fun _ h9 => h9) rfl d_M_branches_74 ?_
          refine lv_bipush (v := 6) hx hb d_M_branches_77 (by decide) ?_
          refine lv_icmp_ne (tgt := 88) hx hb d_M_branches_79 (by decide) (fun c_5 => ?_) (fun c_5 => ?_)
          · refine lv_ldc2 (v := 1969579874) hx hb hown (hT _ m_925) d_M_branches_88 ?_
            rw [q_M_branches_22, if_neg c_1, if_neg c_2, if_neg c_3, if_neg c_4, if_neg c_5] at kk
            exact kk
          · refine lv_ldc2 (v := 1970564194) hx hb hown (hT _ m_924) d_M_branches_82 ?_
            refine lv_goto (tgt := 91) hx hb d_M_branches_85 (by decide) ?_
            rw [q_M_branches_22, if_neg c_1, if_neg c_2, if_neg c_3, if_neg c_4, if_pos c_5] at kk
            exact kk
        · refine lv_ldc2 (v := 6645602) hx hb hown (hT _ m_923) d_M_branches_67 ?_
          refine lv_goto (tgt := 91) hx hb d_M_branches_70 (by decide) ?_
          rw [q_M_branches_22, if_neg c_1, if_neg c_2, if_neg c_3, if_pos c_4] at kk
          exact kk
      · refine lv_ldc2 (v := 7629922) hx hb hown (hT _ m_922) d_M_branches_53 ?_
        refine lv_goto (tgt := 91) hx hb d_M_branches_56 (by decide) ?_
        rw [q_M_branches_22, if_neg c_1, if_neg c_2, if_pos c_3] at kk
        exact kk
    · refine lv_ldc2 (v := 6647394) hx hb hown (hT _ m_921) d_M_branches_39 ?_
      refine lv_goto (tgt := 91) hx hb d_M_branches_42 (by decide) ?_
      rw [q_M_branches_22, if_neg c_1, if_pos c_2] at kk
      exact kk
  · refine lv_ldc2 (v := 7431522) hx hb hown (hT _ m_920) d_M_branches_25 ?_
    refine lv_goto (tgt := 91) hx hb d_M_branches_28 (by decide) ?_
    rw [q_M_branches_22, if_pos c_1] at kk
    exact kk
def g_M_branches (bi d a b f : Int32)  (st : MT) : MT :=
  if f = 2 then
    st
  else
    if f = 3 then
      st
    else
      g_M_target bi d a b f (((((bi >>> ((31 : Int32) &&& 31)) <<< ((12 : Int32) &&& 31)) ||| ((f_M_part bi 7 1) <<< ((11 : Int32) &&& 31))) ||| ((f_M_part bi 25 6) <<< ((5 : Int32) &&& 31))) ||| ((f_M_part bi 8 4) <<< ((1 : Int32) &&& 31))) (sReg b (sReg a (sName (q_M_branches_22 bi d a b f) st)))
set_option maxRecDepth 20000 in
theorem gl_M_branches (bi d a b f : Int32)  (st : MT) : (g_M_branches bi d a b f  st).2.2.length ≤ st.2.2.length + 43 := by
  unfold g_M_branches
  exact (it_len _ (by omega) (it_len _ (by omega) (by have h0 := sName_le (q_M_branches_22 bi d a b f) st; have h1 := sReg_le a (sName (q_M_branches_22 bi d a b f) st); have h2 := sReg_le b (sReg a (sName (q_M_branches_22 bi d a b f) st)); have h3 := gl_M_target bi d a b f (((((bi >>> ((31 : Int32) &&& 31)) <<< ((12 : Int32) &&& 31)) ||| ((f_M_part bi 7 1) <<< ((11 : Int32) &&& 31))) ||| ((f_M_part bi 25 6) <<< ((5 : Int32) &&& 31))) ||| ((f_M_part bi 8 4) <<< ((1 : Int32) &&& 31))) (sReg b (sReg a (sName (q_M_branches_22 bi d a b f) st))); omega)))
set_option maxRecDepth 100000 in
set_option maxHeartbeats 4000000 in
theorem c_M_branches (l : Launch) (dC : Nat → ClassId) (dI : Nat → Nat → Nat) (cI cC : ClassId) (m0 mt ms mr mk : Nat) (th yb bi d a b f : Int32) (str fk : Nat → Int32) (st : MT)  : Met l y_M_branches (Cond.code y_M_branches b_M_branches 1 none :: WT) ({ frames := 4, cells := 0, slots := 0, locals := 89 }) (va_Pc [.ref m0] (fun U => mU dC dI cI cC m0 mt ms mr mk th yb bi d a b f str fk st U ∧ st.2.2.length + 43 ≤ 64)) (va_Qv (fun _ : Unit => True) (fun _ t => mwd dC dI cI cC m0 mt ms mr mk th yb bi d a b f str fk (g_M_branches bi d a b f  st) t.heap) (aM m0 mt ms mr mk)) 0 0 (aM m0 mt ms mr mk) := by
  refine va_MetF (cc := b_M_branches) (maxL := 1) (ret := none) (by decide +kernel) rfl ?_
  intro p e s m args below meth c s₁ B hml hv
  obtain ⟨rfl, ⟨hK, ap, ok, hw⟩, hlen⟩ := hv
  have hx := B.exec
  have hb := B.bytes
  have hr := B.returns
  have hts := atoms_spec (ws := (Cond.code y_M_branches b_M_branches 1 none :: WT)) B.pre
  have hT : ∀ w ∈ WT, w.before _ s = true := fun w h => hts w (inC w h)
  have hown : s.vm.findClass R_M = some m.cls := findClass_of_methodNamed B.named
  have hlocks := B.notSynchronized
  have hS : va_S (aM m0 mt ms mr mk) s.heap s.heap [] := va_S.rf
  have S : CallFix p m c b_M_branches 1 s _ (Cond.code y_M_branches b_M_branches 1 none :: WT) R_M := ⟨hx, hb, hml, hown, hts⟩
  have hl := lv_entry ([.ref m0]) (n := 1) (Nat.le_of_ble_eq_true rfl)
  rw [lg_entry_eq]
  generalize (lg_sl ([.ref m0]) ++ List.replicate (1 - (lg_sl ([.ref m0])).length) Slot.unset).toArray = ls at hl ⊢
  have hl : lv_has ls 1 [(0, .ref m0)] := hl
  have hA : ∀ q, aM m0 mt ms mr mk q → aM m0 mt ms mr mk q := fun _ h => h
  refine lv_aload_n hx hb d_M_branches_0 rfl (lv_at hl 0 rfl) ?_
  obtain ⟨rg, ft, h1, h2, hP⟩ := id hw
  refine va_get (D := (dC, dI)) (ci := 2) (v := .int f) (C := R_M) (T := F_M) (N := 14) hx hb hT i_M hown hK hP 0 rfl rfl 11 (by decide) (hT _ m_764) (fun _ h9 => h9) rfl d_M_branches_1 ?_
  refine lv_iconst (v := 2) hx hb d_M_branches_4 (by decide) ?_
  refine lv_icmp_eq (tgt := 16) hx hb d_M_branches_5 (by decide) (fun c_1 => ?_) (fun c_1 => ?_)
  · exact W.vret hx hb hr (fun t ht hW => ⟨⟨(), rfl, trivial, mwd_at ht (mwd_eq (by rw [g_M_branches, if_pos c_1]) hw)⟩, hS.F ht⟩) hS.2.2 d_M_branches_16
  · refine lv_aload_n hx hb d_M_branches_8 rfl (lv_at hl 0 rfl) ?_
    obtain ⟨rg, ft, h1, h2, hP⟩ := id hw
    refine va_get (D := (dC, dI)) (ci := 2) (v := .int f) (C := R_M) (T := F_M) (N := 14) hx hb hT i_M hown hK hP 0 rfl rfl 11 (by decide) (hT _ m_764) (fun _ h9 => h9) rfl d_M_branches_9 ?_
    refine lv_iconst (v := 3) hx hb d_M_branches_12 (by decide) ?_
    refine lv_icmp_ne (tgt := 17) hx hb d_M_branches_13 (by decide) (fun c_2 => ?_) (fun c_2 => ?_)
    · refine lv_aload_n hx hb d_M_branches_17 rfl (lv_at hl 0 rfl) ?_
      refine lv_aload_n hx hb d_M_branches_18 rfl (lv_at hl 0 rfl) ?_
      obtain ⟨rg, ft, h1, h2, hP⟩ := id hw
      refine va_get (D := (dC, dI)) (ci := 2) (v := .int f) (C := R_M) (T := F_M) (N := 14) hx hb hT i_M hown hK hP 0 rfl rfl 11 (by decide) (hT _ m_764) (fun _ h9 => h9) rfl d_M_branches_19 ?_
      refine rg_M_branches_22 S inC hT (Nat.le_of_ble_eq_true rfl) (Nat.le_of_ble_eq_true rfl) ⟨(Nat.le_of_ble_eq_true rfl), (Nat.le_of_ble_eq_true rfl)⟩ hK hw hl ?_
      refine call_M_name S inC m_833 ⟨(Nat.le_of_ble_eq_true rfl), (Nat.le_of_ble_eq_true rfl)⟩ hl.1 (Nat.le_of_ble_eq_true rfl) d_M_branches_91 ⟨(Nat.le_of_ble_eq_true rfl), (Nat.le_of_ble_eq_true rfl)⟩ hK ap ok hS hA hw (by omega) (fun H locs hw hS _ => ?_)
      have hL1 := sName_le (q_M_branches_22 bi d a b f) st
      refine lv_aload_n hx hb d_M_branches_94 rfl (lv_at hl 0 rfl) ?_
      refine lv_aload_n hx hb d_M_branches_95 rfl (lv_at hl 0 rfl) ?_
      obtain ⟨rg, ft, h1, h2, hP⟩ := id hw
      refine va_get (D := (dC, dI)) (ci := 2) (v := .int a) (C := R_M) (T := F_M) (N := 14) hx hb hT i_M hown hK hP 0 rfl rfl 9 (by decide) (hT _ m_762) (fun _ h9 => h9) rfl d_M_branches_96 ?_
      refine call_M_register S inC m_846 ⟨(Nat.le_of_ble_eq_true rfl), (Nat.le_of_ble_eq_true rfl)⟩ hl.1 (Nat.le_of_ble_eq_true rfl) d_M_branches_99 ⟨(Nat.le_of_ble_eq_true rfl), (Nat.le_of_ble_eq_true rfl)⟩ hK ap ok hS hA hw ok.2.1 (by omega) (fun H locs hw hS _ => ?_)
      have hL2 := sReg_le a (sName (q_M_branches_22 bi d a b f) st)
      refine lv_aload_n hx hb d_M_branches_102 rfl (lv_at hl 0 rfl) ?_
      refine lv_aload_n hx hb d_M_branches_103 rfl (lv_at hl 0 rfl) ?_
      obtain ⟨rg, ft, h1, h2, hP⟩ := id hw
      refine va_get (D := (dC, dI)) (ci := 2) (v := .int b) (C := R_M) (T := F_M) (N := 14) hx hb hT i_M hown hK hP 0 rfl rfl 10 (by decide) (hT _ m_763) (fun _ h9 => h9) rfl d_M_branches_104 ?_
      refine call_M_register S inC m_846 ⟨(Nat.le_of_ble_eq_true rfl), (Nat.le_of_ble_eq_true rfl)⟩ hl.1 (Nat.le_of_ble_eq_true rfl) d_M_branches_107 ⟨(Nat.le_of_ble_eq_true rfl), (Nat.le_of_ble_eq_true rfl)⟩ hK ap ok hS hA hw ok.2.2 (by omega) (fun H locs hw hS _ => ?_)
      have hL3 := sReg_le b (sReg a (sName (q_M_branches_22 bi d a b f) st))
      refine lv_aload_n hx hb d_M_branches_110 rfl (lv_at hl 0 rfl) ?_
      refine lv_aload_n hx hb d_M_branches_111 rfl (lv_at hl 0 rfl) ?_
      obtain ⟨rg, ft, h1, h2, hP⟩ := id hw
      refine va_get (D := (dC, dI)) (ci := 2) (v := .int bi) (C := R_M) (T := F_M) (N := 14) hx hb hT i_M hown hK hP 0 rfl rfl 7 (by decide) (hT _ m_760) (fun _ h9 => h9) rfl d_M_branches_112 ?_
      refine lv_bipush (v := 31) hx hb d_M_branches_115 (by decide) ?_
      refine lv_ishr hx hb d_M_branches_117 ?_
      refine lv_bipush (v := 12) hx hb d_M_branches_118 (by decide) ?_
      refine lv_ishl hx hb d_M_branches_120 ?_
      refine lv_aload_n hx hb d_M_branches_121 rfl (lv_at hl 0 rfl) ?_
      refine lv_bipush (v := 7) hx hb d_M_branches_122 (by decide) ?_
      refine lv_iconst (v := 1) hx hb d_M_branches_124 (by decide) ?_
      refine call_M_part S inC m_809 ⟨(Nat.le_of_ble_eq_true rfl), (Nat.le_of_ble_eq_true rfl)⟩ hl.1 (Nat.le_of_ble_eq_true rfl) d_M_branches_125 ⟨(Nat.le_of_ble_eq_true rfl), (Nat.le_of_ble_eq_true rfl)⟩ hK hw ?_
      refine lv_bipush (v := 11) hx hb d_M_branches_128 (by decide) ?_
      refine lv_ishl hx hb d_M_branches_130 ?_
      refine lv_ior hx hb d_M_branches_131 ?_
      refine lv_aload_n hx hb d_M_branches_132 rfl (lv_at hl 0 rfl) ?_
      refine lv_bipush (v := 25) hx hb d_M_branches_133 (by decide) ?_
      refine lv_bipush (v := 6) hx hb d_M_branches_135 (by decide) ?_
      refine call_M_part S inC m_809 ⟨(Nat.le_of_ble_eq_true rfl), (Nat.le_of_ble_eq_true rfl)⟩ hl.1 (Nat.le_of_ble_eq_true rfl) d_M_branches_137 ⟨(Nat.le_of_ble_eq_true rfl), (Nat.le_of_ble_eq_true rfl)⟩ hK hw ?_
      refine lv_iconst (v := 5) hx hb d_M_branches_140 (by decide) ?_
      refine lv_ishl hx hb d_M_branches_141 ?_
      refine lv_ior hx hb d_M_branches_142 ?_
      refine lv_aload_n hx hb d_M_branches_143 rfl (lv_at hl 0 rfl) ?_
      refine lv_bipush (v := 8) hx hb d_M_branches_144 (by decide) ?_
      refine lv_iconst (v := 4) hx hb d_M_branches_146 (by decide) ?_
      refine call_M_part S inC m_809 ⟨(Nat.le_of_ble_eq_true rfl), (Nat.le_of_ble_eq_true rfl)⟩ hl.1 (Nat.le_of_ble_eq_true rfl) d_M_branches_147 ⟨(Nat.le_of_ble_eq_true rfl), (Nat.le_of_ble_eq_true rfl)⟩ hK hw ?_
      refine lv_iconst (v := 1) hx hb d_M_branches_150 (by decide) ?_
      refine lv_ishl hx hb d_M_branches_151 ?_
      refine lv_ior hx hb d_M_branches_152 ?_
      refine call_M_target S inC m_926 ⟨(Nat.le_of_ble_eq_true rfl), (Nat.le_of_ble_eq_true rfl)⟩ hl.1 (Nat.le_of_ble_eq_true rfl) d_M_branches_153 ⟨(Nat.le_of_ble_eq_true rfl), (Nat.le_of_ble_eq_true rfl)⟩ hK ap ok hS hA hw (by omega) (fun H locs hw hS _ => ?_)
      have hL4 := gl_M_target bi d a b f (((((bi >>> ((31 : Int32) &&& 31)) <<< ((12 : Int32) &&& 31)) ||| ((f_M_part bi 7 1) <<< ((11 : Int32) &&& 31))) ||| ((f_M_part bi 25 6) <<< ((5 : Int32) &&& 31))) ||| ((f_M_part bi 8 4) <<< ((1 : Int32) &&& 31))) (sReg b (sReg a (sName (q_M_branches_22 bi d a b f) st)))
      exact W.vret hx hb hr (fun t ht hW => ⟨⟨(), rfl, trivial, mwd_at ht (mwd_eq (by rw [g_M_branches, if_neg c_1, if_neg c_2]) hw)⟩, hS.F ht⟩) hS.2.2 d_M_branches_156
    · exact W.vret hx hb hr (fun t ht hW => ⟨⟨(), rfl, trivial, mwd_at ht (mwd_eq (by rw [g_M_branches, if_neg c_1, if_pos c_2]) hw)⟩, hS.F ht⟩) hS.2.2 d_M_branches_16
theorem call_M_branches {p : Program} {l : Launch} {e : Env} {R : Room} {s : State} {m : MethodId} {args : Array Value} {below : List Frame} {meth : Method} {c : Code} {H : Heap} {locs : List Loc} {cells slots : Nat} {Q : State → Prop} {cc : ByteArray} {pc nL idx : Nat} {ls : Array Slot} {rest : List Value} {Ts : List Cond} {own : String} {A0 : Nat → Prop} {H0 : Heap} {dC : Nat → ClassId} {dI : Nat → Nat → Nat} {cI cC : ClassId} {m0 mt ms mr mk : Nat} {th yb bi d a b f : Int32} {str fk : Nat → Int32} {st : MT}  (S : CallFix p m c cc nL s args Ts own) (hTs : ∀ w ∈ WT, w ∈ Ts) (hlk : Cond.methodLink own idx y_M_branches ∈ WT) (hR : 4 + 1 ≤ R.frames ∧ 8 + (1 + 11) + 89 ≤ R.locals) (hsz : ls.size = nL) (hrm : (rest.map fun v => v.category).sum ≤ 8) (hdg : decode cc pc = .ok (.invokevirtual idx, 3)) (hc : cells ≤ R.cells ∧ slots ≤ R.slots) (hK : rK dC dI cI cC s) (ap : apM m0 mt ms mr mk) (ok : mOk d a b) (hS : va_S A0 H0 H locs) (hA : ∀ q, aM m0 mt ms mr mk q → A0 q) (hw : mwd dC dI cI cC m0 mt ms mr mk th yb bi d a b f str fk st H) (hlen : st.2.2.length + 43 ≤ 64) (kk : ∀ (H1 : Heap) (locs1 : List Loc), mwd dC dI cI cC m0 mt ms mr mk th yb bi d a b f str fk (g_M_branches bi d a b f  st) H1 → va_S A0 H0 H1 locs1 → (H.size ≤ H1.size ∧ ∀ q : Nat, q < H.size → ¬ aM m0 mt ms mr mk q → H1[q]? = H[q]?) → W p l e R s m args below meth c H1 locs1 cells slots Q (F0 m (pc + 3) ls (rest))) : W p l e R s m args below meth c H locs cells slots Q (F0 m pc ls (.ref m0 :: rest)) :=
  va_callv (va_runV (As := []) (rest := rest) S (c_M_branches l dC dI cI cC m0 mt ms mr mk th yb bi d a b f str fk st ) (cwV 0 S.2.2.2.2 (gV hTs hlk m_918 m_34 m_52 m_919) rfl rfl rfl (by decide +kernel) hR) ⟨fun a U g mk q => ⟨q.1, ⟨q.2.1.blind, q.2.2⟩⟩, mwd.recv hK hw, fun U hU hW => ⟨rfl, ⟨mU.at hK ap ok hw hU hW, hlen⟩⟩⟩ rfl rfl hsz rfl (lv_room hrm) hdg hc) hS (fun q _ h => hA q h) hA (fun u t H1 locs1 ht hvm hp hB hz hk hS1 => kk H1 locs1 (by rw [← ht]; exact hB) hS1 ⟨hz, hk⟩)
