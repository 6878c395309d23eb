set_option maxRecDepth 100000 in
set_option maxHeartbeats 4000000 in
theorem lp_M_next2 {p : Program} {l : Launch} {e : Env} {R : Room} {s : State} {m : MethodId} {args : Array Value} {below : List Frame} {meth : Method} {c : Code} {cells slots : Nat} {Q : State → Prop} {Ts : List Cond} {dC : Nat → ClassId} {dI : Nat → Nat → Nat} {cI cC : ClassId} {m0 mt ms mr mk : Nat} {th yb bi d a b f : Int32} {str fk : Nat → Int32} {st : MT} {H : Heap} {locs : List Loc} {x : Int32} {N G : Nat} (S : CallFix p m c b_M_next2 5 s args Ts R_M) (hTs : ∀ w ∈ WT, w ∈ Ts) (hT : ∀ w ∈ WT, w.before args s = true) (hfr : 1 ≤ R.frames) (hlo : 21 ≤ R.locals) (hc : cells ≤ R.cells ∧ slots ≤ R.slots) (hK : rK dC dI cI cC s) (hw : mwd dC dI cI cC m0 mt ms mr mk th yb bi d a b f str fk st H) (hN : N < 2 ^ 31)
    (kk : ∀ (ls : Array Slot), lv_has ls 5 [(3, .int (nI G))] → W p l e R s m args below meth c H locs cells slots Q (F0 m 61 ls [])) :
    ∀ (k h q r : Nat), q + r = N → 255 ≤ h + 2 * k → h ≤ 258 → goN str k r h = G → ∀ (ls : Array Slot), lv_has ls 5 [(4, .int (nI q)), (3, .int (nI h)), (0, .ref m0), (1, .int x), (2, .int (nI N))] → W p l e R s m args below meth c H locs cells slots Q (F0 m 34 ls []) := by
  have hx := S.1
  have hb := S.2.1
  have hown := S.2.2.2.1
  intro k
  induction k with
  | zero =>
    intro h q r hq hk hh hG ls hl
    have hG : h = G := by rw [← hG]; exact (goN_stop (Or.inr (by omega))).symm
    subst hG
    refine lv_iload hx hb d_M_next2_34 (lv_at hl 0 rfl) ?_
    refine lv_iload_n hx hb d_M_next2_36 rfl (lv_at hl 4 rfl) ?_
    refine lv_icmp_ge (tgt := 61) hx hb d_M_next2_37 (by decide) (fun _ => kk ls (lv_sub hl [1] rfl)) (fun _ => ?_)
    refine lv_iload_n hx hb d_M_next2_40 rfl (lv_at hl 1 rfl) ?_
    refine lv_sipush (v := nI 255) hx hb d_M_next2_41 (by decide) ?_
    exact lv_icmp_ge (tgt := 61) hx hb d_M_next2_44 (by decide) (fun _ => kk ls (lv_sub hl [1] rfl)) (fun z => absurd (nI_le (by omega) (by omega)) z)
  | succ k ih =>
    intro h q r hq hk hh hG ls hl
    refine lv_iload hx hb d_M_next2_34 (lv_at hl 0 rfl) ?_
    refine lv_iload_n hx hb d_M_next2_36 rfl (lv_at hl 4 rfl) ?_
    refine lv_icmp_ge (tgt := 61) hx hb d_M_next2_37 (by decide) (fun z => ?_) (fun z => ?_)
    · have hr0 : r = 0 := by have := (nI_leI (by omega) (by omega)).mp z; omega
      rw [goN_stop (Or.inl hr0)] at hG
      subst hG
      exact kk ls (lv_sub hl [1] rfl)
    · have hr0 : ¬ r = 0 := by have := _root_.mt (nI_leI (a := N) (b := q) (by omega) (by omega)).mpr z; omega
      refine lv_iload_n hx hb d_M_next2_40 rfl (lv_at hl 1 rfl) ?_
      refine lv_sipush (v := nI 255) hx hb d_M_next2_41 (by decide) ?_
      refine lv_icmp_ge (tgt := 61) hx hb d_M_next2_44 (by decide) (fun z2 => ?_) (fun z2 => ?_)
      · rw [goN_stop (Or.inr ((nI_leI (by omega) (by omega)).mp z2))] at hG
        subst hG
        exact kk ls (lv_sub hl [1] rfl)
      · have h255 : ¬ 255 ≤ h := _root_.mt (nI_leI (a := 255) (b := h) (by omega) (by omega)).mpr z2
        rw [goN, if_neg (by omega)] at hG
        have hb4 := bt_24 str h
        refine lv_iload_n hx hb d_M_next2_47 rfl (lv_at hl 1 rfl) ?_
        refine lv_aload_n hx hb d_M_next2_48 rfl (lv_at hl 2 rfl) ?_
        refine lv_iload_n hx hb d_M_next2_49 rfl (lv_at hl 1 rfl) ?_
        refine call_M_long4 S hTs m_1048 ⟨by omega, by omega⟩ hl.1 (Nat.le_of_ble_eq_true rfl) d_M_next2_50 hc hK hw (by omega) ?_
        refine lv_iadd hx hb d_M_next2_53 ?_
        rw [nI_add]
        refine lv_istore_n (lv' := [(3, .int (nI (h + bt str h))), (4, .int (nI q)), (0, .ref m0), (1, .int x), (2, .int (nI N))]) hx hb d_M_next2_54 rfl hl (by decide) rfl (fun ls hl => ?_)
        refine lv_iinc (v := nI (q + 1)) (lv' := [(4, .int (nI (q + 1))), (3, .int (nI (h + bt str h))), (0, .ref m0), (1, .int x), (2, .int (nI N))]) hx hb d_M_next2_55 hl (k := 1) rfl (nI_inc q) (by decide) rfl (fun ls hl => ?_)
        refine lv_goto (tgt := 34) hx hb d_M_next2_58 (by decide) ?_
        exact ih (h + bt str h) (q + 1) (r - 1) (by omega) (by omega) (by omega) hG ls hl

set_option maxRecDepth 100000 in
set_option maxHeartbeats 4000000 in
theorem c_M_next2X (l : Launch) (dC : Nat → ClassId) (dI : Nat → Nat → Nat) (cI cC : ClassId) (m0 mt ms mr mk : Nat) (th yb bi d a b f : Int32) (str fk : Nat → Int32) (st : MT) (x y : Int32) : Met l y_M_next2 (Cond.code y_M_next2 b_M_next2 5 (some .int) :: WT) ({ frames := 1, cells := 0, slots := 0, locals := 21 }) (va_Pc [.ref m0, .int x, .int y] (fun U => mU dC dI cI cC m0 mt ms mr mk th yb bi d a b f str fk st U ∧ ¬ rf x = 0)) (va_Qi (fun (r : Int32) (_ : Unit) => r = 0) (fun _ t => mtp dC dI cI cC m0 mt ms mr mk (rf x) yb str st t.heap) (aM m0 mt ms mr mk)) 0 0 (aM m0 mt ms mr mk) := by
  refine va_MetF (cc := b_M_next2) (maxL := 5) (ret := (some .int)) (by decide +kernel) rfl ?_
  intro p e s m args below meth c s₁ B hml hv
  obtain ⟨rfl, ⟨hK, ap, ok, hw⟩, hr1⟩ := hv
  have hx := B.exec
  have hb := B.bytes
  have hr := B.returns
  have hts := atoms_spec (ws := (Cond.code y_M_next2 b_M_next2 5 (some .int) :: WT)) B.pre
  have hT : ∀ w ∈ WT, w.before _ s = true := fun w h => hts w (inC w h)
  have hown : s.vm.findClass R_M = some m.cls := findClass_of_methodNamed B.named
  have hlocks := B.notSynchronized
  have hS : va_S (aM m0 mt ms mr mk) s.heap s.heap [] := va_S.rf
  have S : CallFix p m c b_M_next2 5 s _ (Cond.code y_M_next2 b_M_next2 5 (some .int) :: WT) R_M := ⟨hx, hb, hml, hown, hts⟩
  have hl := lv_entry ([.ref m0, .int x, .int y]) (n := 5) (Nat.le_of_ble_eq_true rfl)
  rw [lg_entry_eq]
  generalize (lg_sl ([.ref m0, .int x, .int y]) ++ List.replicate (5 - (lg_sl ([.ref m0, .int x, .int y])).length) Slot.unset).toArray = ls at hl ⊢
  have hl : lv_has ls 5 [(0, .ref m0), (1, .int x), (2, .int y)] := hl
  have hA : ∀ q, aM m0 mt ms mr mk q → aM m0 mt ms mr mk q := fun _ h => h
  refine lv_aload_n hx hb d_M_next2_0 rfl (lv_at hl 0 rfl) ?_
  refine lv_iload_n hx hb d_M_next2_1 rfl (lv_at hl 1 rfl) ?_
  refine call_M_refuses S inC m_1040 ⟨(Nat.le_of_ble_eq_true rfl), (Nat.le_of_ble_eq_true rfl)⟩ hl.1 (Nat.le_of_ble_eq_true rfl) d_M_next2_2 ⟨(Nat.le_of_ble_eq_true rfl), (Nat.le_of_ble_eq_true rfl)⟩ hK ap ok hS hA hw (fun H locs hw hS _ => ?_)
  refine lv_if_eq (tgt := 10) hx hb d_M_next2_5 (by decide) (fun q => absurd q hr1) (fun _ => ?_)
  refine lv_iconst (v := 0) hx hb d_M_next2_8 (by decide) ?_
  exact W.iret (v := 0) hx hb hr (fun t ht hW => ⟨⟨_, (), rfl, rfl, mtp_at ht (⟨_, _, _, _, _, _, ok, hw⟩)⟩, hS.F ht⟩) hS.2.2 d_M_next2_9

theorem call_M_next2X {p : Program} {l : Launch} {e : Env} {R : Room} {s : State} {m : MethodId} {args : Array Value} {below : List Frame} {meth : Method} {c : Code} {H : Heap} {locs : List Loc} {cells slots : Nat} {Q : State → Prop} {cc : ByteArray} {pc nL idx : Nat} {ls : Array Slot} {rest : List Value} {Ts : List Cond} {own : String} {A0 : Nat → Prop} {H0 : Heap} {dC : Nat → ClassId} {dI : Nat → Nat → Nat} {cI cC : ClassId} {m0 mt ms mr mk : Nat} {th yb bi d a b f : Int32} {str fk : Nat → Int32} {st : MT} {x y : Int32} (S : CallFix p m c cc nL s args Ts own) (hTs : ∀ w ∈ WT, w ∈ Ts) (hlk : Cond.methodLink own idx y_M_next2 ∈ WT) (hR : 1 + 1 ≤ R.frames ∧ 8 + (5 + 11) + 21 ≤ R.locals) (hsz : ls.size = nL) (hrm : (rest.map fun v => v.category).sum ≤ 8) (hdg : decode cc pc = .ok (.invokevirtual idx, 3)) (hc : cells ≤ R.cells ∧ slots ≤ R.slots) (hK : rK dC dI cI cC s) (ap : apM m0 mt ms mr mk) (ok : mOk d a b) (hS : va_S A0 H0 H locs) (hA : ∀ q, aM m0 mt ms mr mk q → A0 q) (hw : mwd dC dI cI cC m0 mt ms mr mk th yb bi d a b f str fk st H) (hr1 : ¬ rf x = 0) (kk : ∀ (H1 : Heap) (locs1 : List Loc), mtp dC dI cI cC m0 mt ms mr mk (rf x) yb str st H1 → va_S A0 H0 H1 locs1 → (H.size ≤ H1.size ∧ ∀ q : Nat, q < H.size → ¬ aM m0 mt ms mr mk q → H1[q]? = H[q]?) → W p l e R s m args below meth c H1 locs1 cells slots Q (F0 m (pc + 3) ls (.int (0) :: rest))) : W p l e R s m args below meth c H locs cells slots Q (F0 m pc ls (.int y :: .int x :: .ref m0 :: rest)) :=
  va_calli (va_runV (As := [.int x, .int y]) (rest := rest) S (c_M_next2X l dC dI cI cC m0 mt ms mr mk th yb bi d a b f str fk st x y) (cwV 2 S.2.2.2.2 (gV hTs hlk m_1057 m_1058 m_52 m_1059) rfl rfl rfl (by decide +kernel) hR) ⟨fun a U g mk q => ⟨q.1, ⟨q.2.1.blind, q.2.2⟩⟩, mwd.recv hK hw, fun U hU hW => ⟨rfl, ⟨mU.at hK ap ok hw hU hW, hr1⟩⟩⟩ rfl rfl hsz rfl (lv_room hrm) hdg hc) hS (fun q _ h => hA q h) hA (fun r u t H1 locs1 ht hvm hp hB hz hk hS1 => by subst hp; exact kk H1 locs1 (by rw [← ht]; exact hB) hS1 ⟨hz, hk⟩)

set_option maxRecDepth 100000 in
set_option maxHeartbeats 4000000 in
theorem c_M_next2G (l : Launch) (dC : Nat → ClassId) (dI : Nat → Nat → Nat) (cI cC : ClassId) (m0 mt ms mr mk : Nat) (th yb bi d a b f : Int32) (str fk : Nat → Int32) (st : MT) (h : Nat) (y : Int32) : Met l y_M_next2 (Cond.code y_M_next2 b_M_next2 5 (some .int) :: WT) ({ frames := 1, cells := 0, slots := 0, locals := 21 }) (va_Pc [.ref m0, .int (nI h), .int y] (fun U => mU dC dI cI cC m0 mt ms mr mk th yb bi d a b f str fk st U ∧ h < 256 ∧ ¬ 0 ≤ y)) (va_Qi (fun (r : Int32) (_ : Unit) => r = 0) (fun _ t => mtp dC dI cI cC m0 mt ms mr mk 2 yb str st t.heap) (aM m0 mt ms mr mk)) 0 0 (aM m0 mt ms mr mk) := by
  refine va_MetF (cc := b_M_next2) (maxL := 5) (ret := (some .int)) (by decide +kernel) rfl ?_
  intro p e s m args below meth c s₁ B hml hv
  obtain ⟨rfl, ⟨hK, ap, ok, hw⟩, hh, hy⟩ := hv
  have hx := B.exec
  have hb := B.bytes
  have hr := B.returns
  have hts := atoms_spec (ws := (Cond.code y_M_next2 b_M_next2 5 (some .int) :: WT)) B.pre
  have hT : ∀ w ∈ WT, w.before _ s = true := fun w h => hts w (inC w h)
  have hown : s.vm.findClass R_M = some m.cls := findClass_of_methodNamed B.named
  have hlocks := B.notSynchronized
  have hS : va_S (aM m0 mt ms mr mk) s.heap s.heap [] := va_S.rf
  have S : CallFix p m c b_M_next2 5 s _ (Cond.code y_M_next2 b_M_next2 5 (some .int) :: WT) R_M := ⟨hx, hb, hml, hown, hts⟩
  have hl := lv_entry ([.ref m0, .int (nI h), .int y]) (n := 5) (Nat.le_of_ble_eq_true rfl)
  rw [lg_entry_eq]
  generalize (lg_sl ([.ref m0, .int (nI h), .int y]) ++ List.replicate (5 - (lg_sl ([.ref m0, .int (nI h), .int y])).length) Slot.unset).toArray = ls at hl ⊢
  have hl : lv_has ls 5 [(0, .ref m0), (1, .int (nI h)), (2, .int y)] := hl
  have hA : ∀ q, aM m0 mt ms mr mk q → aM m0 mt ms mr mk q := fun _ h => h
  refine lv_aload_n hx hb d_M_next2_0 rfl (lv_at hl 0 rfl) ?_
  refine lv_iload_n hx hb d_M_next2_1 rfl (lv_at hl 1 rfl) ?_
  refine call_M_refuses S inC m_1040 ⟨(Nat.le_of_ble_eq_true rfl), (Nat.le_of_ble_eq_true rfl)⟩ hl.1 (Nat.le_of_ble_eq_true rfl) d_M_next2_2 ⟨(Nat.le_of_ble_eq_true rfl), (Nat.le_of_ble_eq_true rfl)⟩ hK ap ok hS hA hw (fun H locs hw hS _ => ?_)
  rw [rf_in hh] at hw
  rw [rf_in hh]
  refine lv_if_eq (tgt := 10) hx hb d_M_next2_5 (by decide) (fun _ => ?_) (fun q => absurd rfl q)
  obtain ⟨rg, ft, h1, h2, hP⟩ := hw
  have hD := wM_D ap hA (cI := cI) (cC := cC) (th := 0) (yb := yb) (bi := bi) (d := d) (a := a) (b := b) (f := f) (op := (st).1) (ln := (st).2.1) (sz := nI (st).2.2.length) (str := str) (rg := rg) (ft := ft) (fk := fk)
  refine lv_aload_n hx hb d_M_next2_10 rfl (lv_at hl 0 rfl) ?_
  refine lv_iload_n hx hb d_M_next2_11 rfl (lv_at hl 2 rfl) ?_
  refine lv_if_ge (tgt := 19) hx hb d_M_next2_12 (by decide) (fun q => absurd q hy) (fun _ => ?_)
  refine lv_iconst (v := 2) hx hb d_M_next2_15 (by decide) ?_
  refine lv_goto (tgt := 20) hx hb d_M_next2_16 (by decide) ?_
  refine va_put (D := (dC, dI)) (ci := 2) (v := .int 2) (ty := .int) (C := R_M) (T := F_M) (N := 14) hx hb hT i_M ft_M ft_M_ok n_M hown hK hP hD hS 0 rfl rfl 0 (by decide) (hT _ m_753) (fun _ h9 => h9) rfl (by decide +kernel) rfl rfl (Nat.le_of_ble_eq_true rfl) d_M_next2_20 (fun H locs hP hD hS => ?_)
  have hw : mwd dC dI cI cC m0 mt ms mr mk 2 yb bi d a b f str fk st H := ⟨rg, ft, h1, h2, hP⟩
  refine lv_iload_n hx hb d_M_next2_23 rfl (lv_at hl 2 rfl) ?_
  refine lv_if_ge (tgt := 29) hx hb d_M_next2_24 (by decide) (fun q => absurd q hy) (fun _ => ?_)
  refine lv_iconst (v := 0) hx hb d_M_next2_27 (by decide) ?_
  exact W.iret (v := 0) hx hb hr (fun t ht hW => ⟨⟨_, (), rfl, rfl, mtp_at ht (⟨_, _, _, _, _, _, ok, hw⟩)⟩, hS.F ht⟩) hS.2.2 d_M_next2_28

theorem call_M_next2G {p : Program} {l : Launch} {e : Env} {R : Room} {s : State} {m : MethodId} {args : Array Value} {below : List Frame} {meth : Method} {c : Code} {H : Heap} {locs : List Loc} {cells slots : Nat} {Q : State → Prop} {cc : ByteArray} {pc nL idx : Nat} {ls : Array Slot} {rest : List Value} {Ts : List Cond} {own : String} {A0 : Nat → Prop} {H0 : Heap} {dC : Nat → ClassId} {dI : Nat → Nat → Nat} {cI cC : ClassId} {m0 mt ms mr mk : Nat} {th yb bi d a b f : Int32} {str fk : Nat → Int32} {st : MT} {h : Nat} {y : Int32} (S : CallFix p m c cc nL s args Ts own) (hTs : ∀ w ∈ WT, w ∈ Ts) (hlk : Cond.methodLink own idx y_M_next2 ∈ WT) (hR : 1 + 1 ≤ R.frames ∧ 8 + (5 + 11) + 21 ≤ R.locals) (hsz : ls.size = nL) (hrm : (rest.map fun v => v.category).sum ≤ 8) (hdg : decode cc pc = .ok (.invokevirtual idx, 3)) (hc : cells ≤ R.cells ∧ slots ≤ R.slots) (hK : rK dC dI cI cC s) (ap : apM m0 mt ms mr mk) (ok : mOk d a b) (hS : va_S A0 H0 H locs) (hA : ∀ q, aM m0 mt ms mr mk q → A0 q) (hw : mwd dC dI cI cC m0 mt ms mr mk th yb bi d a b f str fk st H) (hh : h < 256) (hy : ¬ 0 ≤ y) (kk : ∀ (H1 : Heap) (locs1 : List Loc), mtp dC dI cI cC m0 mt ms mr mk 2 yb str st H1 → va_S A0 H0 H1 locs1 → (H.size ≤ H1.size ∧ ∀ q : Nat, q < H.size → ¬ aM m0 mt ms mr mk q → H1[q]? = H[q]?) → W p l e R s m args below meth c H1 locs1 cells slots Q (F0 m (pc + 3) ls (.int (0) :: rest))) : W p l e R s m args below meth c H locs cells slots Q (F0 m pc ls (.int y :: .int (nI h) :: .ref m0 :: rest)) :=
  va_calli (va_runV (As := [.int (nI h), .int y]) (rest := rest) S (c_M_next2G l dC dI cI cC m0 mt ms mr mk th yb bi d a b f str fk st h y) (cwV 2 S.2.2.2.2 (gV hTs hlk m_1057 m_1058 m_52 m_1059) rfl rfl rfl (by decide +kernel) hR) ⟨fun a U g mk q => ⟨q.1, ⟨q.2.1.blind, q.2.2⟩⟩, mwd.recv hK hw, fun U hU hW => ⟨rfl, ⟨mU.at hK ap ok hw hU hW, hh, hy⟩⟩⟩ rfl rfl hsz rfl (lv_room hrm) hdg hc) hS (fun q _ h => hA q h) hA (fun r u t H1 locs1 ht hvm hp hB hz hk hS1 => by subst hp; exact kk H1 locs1 (by rw [← ht]; exact hB) hS1 ⟨hz, hk⟩)

set_option maxRecDepth 100000 in
set_option maxHeartbeats 4000000 in
theorem c_M_next2 (l : Launch) (dC : Nat → ClassId) (dI : Nat → Nat → Nat) (cI cC : ClassId) (m0 mt ms mr mk : Nat) (th yb bi d a b f : Int32) (str fk : Nat → Int32) (st : MT) (h N : Nat) : Met l y_M_next2 (Cond.code y_M_next2 b_M_next2 5 (some .int) :: WT) ({ frames := 1, cells := 0, slots := 0, locals := 21 }) (va_Pc [.ref m0, .int (nI h), .int (nI N)] (fun U => mU dC dI cI cC m0 mt ms mr mk th yb bi d a b f str fk st U ∧ h < 256 ∧ N < 2 ^ 31)) (va_Qi (fun (r : Int32) (_ : Unit) => r = endN (goN str 128 N h)) (fun _ t => mtp dC dI cI cC m0 mt ms mr mk 0 yb str st t.heap) (aM m0 mt ms mr mk)) 0 0 (aM m0 mt ms mr mk) := by
  refine va_MetF (cc := b_M_next2) (maxL := 5) (ret := (some .int)) (by decide +kernel) rfl ?_
  intro p e s m args below meth c s₁ B hml hv
  obtain ⟨rfl, ⟨hK, ap, ok, hw⟩, hh, hN⟩ := hv
  have hx := B.exec
  have hb := B.bytes
  have hr := B.returns
  have hts := atoms_spec (ws := (Cond.code y_M_next2 b_M_next2 5 (some .int) :: WT)) B.pre
  have hT : ∀ w ∈ WT, w.before _ s = true := fun w h => hts w (inC w h)
  have hown : s.vm.findClass R_M = some m.cls := findClass_of_methodNamed B.named
  have hlocks := B.notSynchronized
  have hS : va_S (aM m0 mt ms mr mk) s.heap s.heap [] := va_S.rf
  have S : CallFix p m c b_M_next2 5 s _ (Cond.code y_M_next2 b_M_next2 5 (some .int) :: WT) R_M := ⟨hx, hb, hml, hown, hts⟩
  have hl := lv_entry ([.ref m0, .int (nI h), .int (nI N)]) (n := 5) (Nat.le_of_ble_eq_true rfl)
  rw [lg_entry_eq]
  generalize (lg_sl ([.ref m0, .int (nI h), .int (nI N)]) ++ List.replicate (5 - (lg_sl ([.ref m0, .int (nI h), .int (nI N)])).length) Slot.unset).toArray = ls at hl ⊢
  have hl : lv_has ls 5 [(0, .ref m0), (1, .int (nI h)), (2, .int (nI N))] := hl
  have hA : ∀ q, aM m0 mt ms mr mk q → aM m0 mt ms mr mk q := fun _ h => h
  refine lv_aload_n hx hb d_M_next2_0 rfl (lv_at hl 0 rfl) ?_
  refine lv_iload_n hx hb d_M_next2_1 rfl (lv_at hl 1 rfl) ?_
  refine call_M_refuses S inC m_1040 ⟨(Nat.le_of_ble_eq_true rfl), (Nat.le_of_ble_eq_true rfl)⟩ hl.1 (Nat.le_of_ble_eq_true rfl) d_M_next2_2 ⟨(Nat.le_of_ble_eq_true rfl), (Nat.le_of_ble_eq_true rfl)⟩ hK ap ok hS hA hw (fun H locs hw hS _ => ?_)
  rw [rf_in hh] at hw
  rw [rf_in hh]
  refine lv_if_eq (tgt := 10) hx hb d_M_next2_5 (by decide) (fun _ => ?_) (fun q => absurd rfl q)
  obtain ⟨rg, ft, h1, h2, hP⟩ := hw
  have hD := wM_D ap hA (cI := cI) (cC := cC) (th := 0) (yb := yb) (bi := bi) (d := d) (a := a) (b := b) (f := f) (op := (st).1) (ln := (st).2.1) (sz := nI (st).2.2.length) (str := str) (rg := rg) (ft := ft) (fk := fk)
  refine lv_aload_n hx hb d_M_next2_10 rfl (lv_at hl 0 rfl) ?_
  refine lv_iload_n hx hb d_M_next2_11 rfl (lv_at hl 2 rfl) ?_
  refine lv_if_ge (tgt := 19) hx hb d_M_next2_12 (by decide) (fun _ => ?_) (fun q => absurd (nI_pos' hN) q)
  refine lv_iconst (v := 0) hx hb d_M_next2_19 (by decide) ?_
  refine va_put (D := (dC, dI)) (ci := 2) (v := .int 0) (ty := .int) (C := R_M) (T := F_M) (N := 14) hx hb hT i_M ft_M ft_M_ok n_M hown hK hP hD hS 0 rfl rfl 0 (by decide) (hT _ m_753) (fun _ h9 => h9) rfl (by decide +kernel) rfl rfl (Nat.le_of_ble_eq_true rfl) d_M_next2_20 (fun H locs hP hD hS => ?_)
  have hw : mwd dC dI cI cC m0 mt ms mr mk 0 yb bi d a b f str fk st H := ⟨rg, ft, h1, h2, hP⟩
  refine lv_iload_n hx hb d_M_next2_23 rfl (lv_at hl 2 rfl) ?_
  refine lv_if_ge (tgt := 29) hx hb d_M_next2_24 (by decide) (fun _ => ?_) (fun q => absurd (nI_pos' hN) q)
  refine lv_iload_n hx hb d_M_next2_29 rfl (lv_at hl 1 rfl) ?_
  refine lv_istore_n (lv' := [(3, .int (nI h)), (0, .ref m0), (1, .int (nI h)), (2, .int (nI N))]) hx hb d_M_next2_30 rfl hl (by decide) rfl (fun ls hl => ?_)
  refine lv_iconst (v := 0) hx hb d_M_next2_31 (by decide) ?_
  refine lv_istore (lv' := [(4, .int 0), (3, .int (nI h)), (0, .ref m0), (1, .int (nI h)), (2, .int (nI N))]) hx hb d_M_next2_32 hl (by decide) rfl (fun ls hl => ?_)
  refine lp_M_next2 (G := goN str 128 N h) S inC hT (Nat.le_of_ble_eq_true rfl) (Nat.le_of_ble_eq_true rfl) ⟨(Nat.le_of_ble_eq_true rfl), (Nat.le_of_ble_eq_true rfl)⟩ hK hw hN (fun ls hl => ?_) 128 h 0 N (by omega) (by omega) (by omega) rfl ls hl
  have hG := goN_le str 128 N h (by omega)
  refine lv_iload_n hx hb d_M_next2_61 rfl (lv_at hl 0 rfl) ?_
  refine lv_sipush (v := nI 255) hx hb d_M_next2_62 (by decide) ?_
  refine lv_icmp_ge (tgt := 72) hx hb d_M_next2_65 (by decide) (fun z => ?_) (fun z => ?_)
  · have h255 : 255 ≤ goN str 128 N h := (nI_leI (by omega) (by omega)).mp z
    refine lv_iconst (v := -1) hx hb d_M_next2_72 (by decide) ?_
    exact W.iret (v := -1) hx hb hr (fun t ht hW => ⟨⟨_, (), rfl, by rw [endN, if_pos h255], mtp_at ht (⟨_, _, _, _, _, _, ok, hw⟩)⟩, hS.F ht⟩) hS.2.2 d_M_next2_73
  · have h255 : ¬ 255 ≤ goN str 128 N h := _root_.mt (nI_leI (a := 255) (b := goN str 128 N h) (by omega) (by omega)).mpr z
    refine lv_iload_n hx hb d_M_next2_68 rfl (lv_at hl 0 rfl) ?_
    refine lv_goto (tgt := 73) hx hb d_M_next2_69 (by decide) ?_
    exact W.iret (v := nI (goN str 128 N h)) hx hb hr (fun t ht hW => ⟨⟨_, (), rfl, by rw [endN, if_neg h255], mtp_at ht (⟨_, _, _, _, _, _, ok, hw⟩)⟩, hS.F ht⟩) hS.2.2 d_M_next2_73

theorem call_M_next2 {p : Program} {l : Launch} {e : Env} {R : Room} {s : State} {m : MethodId} {args : Array Value} {below : List Frame} {meth : Method} {c : Code} {H : Heap} {locs : List Loc} {cells slots : Nat} {Q : State → Prop} {cc : ByteArray} {pc nL idx : Nat} {ls : Array Slot} {rest : List Value} {Ts : List Cond} {own : String} {A0 : Nat → Prop} {H0 : Heap} {dC : Nat → ClassId} {dI : Nat → Nat → Nat} {cI cC : ClassId} {m0 mt ms mr mk : Nat} {th yb bi d a b f : Int32} {str fk : Nat → Int32} {st : MT} {h N : Nat} (S : CallFix p m c cc nL s args Ts own) (hTs : ∀ w ∈ WT, w ∈ Ts) (hlk : Cond.methodLink own idx y_M_next2 ∈ WT) (hR : 1 + 1 ≤ R.frames ∧ 8 + (5 + 11) + 21 ≤ R.locals) (hsz : ls.size = nL) (hrm : (rest.map fun v => v.category).sum ≤ 8) (hdg : decode cc pc = .ok (.invokevirtual idx, 3)) (hc : cells ≤ R.cells ∧ slots ≤ R.slots) (hK : rK dC dI cI cC s) (ap : apM m0 mt ms mr mk) (ok : mOk d a b) (hS : va_S A0 H0 H locs) (hA : ∀ q, aM m0 mt ms mr mk q → A0 q) (hw : mwd dC dI cI cC m0 mt ms mr mk th yb bi d a b f str fk st H) (hh : h < 256) (hN : N < 2 ^ 31) (kk : ∀ (H1 : Heap) (locs1 : List Loc), mtp dC dI cI cC m0 mt ms mr mk 0 yb str st H1 → va_S A0 H0 H1 locs1 → (H.size ≤ H1.size ∧ ∀ q : Nat, q < H.size → ¬ aM m0 mt ms mr mk q → H1[q]? = H[q]?) → W p l e R s m args below meth c H1 locs1 cells slots Q (F0 m (pc + 3) ls (.int (endN (goN str 128 N h)) :: rest))) : W p l e R s m args below meth c H locs cells slots Q (F0 m pc ls (.int (nI N) :: .int (nI h) :: .ref m0 :: rest)) :=
  va_calli (va_runV (As := [.int (nI h), .int (nI N)]) (rest := rest) S (c_M_next2 l dC dI cI cC m0 mt ms mr mk th yb bi d a b f str fk st h N) (cwV 2 S.2.2.2.2 (gV hTs hlk m_1057 m_1058 m_52 m_1059) rfl rfl rfl (by decide +kernel) hR) ⟨fun a U g mk q => ⟨q.1, ⟨q.2.1.blind, q.2.2⟩⟩, mwd.recv hK hw, fun U hU hW => ⟨rfl, ⟨mU.at hK ap ok hw hU hW, hh, hN⟩⟩⟩ rfl rfl hsz rfl (lv_room hrm) hdg hc) hS (fun q _ h => hA q h) hA (fun r u t H1 locs1 ht hvm hp hB hz hk hS1 => by subst hp; exact kk H1 locs1 (by rw [← ht]; exact hB) hS1 ⟨hz, hk⟩)

set_option maxRecDepth 100000 in
set_option maxHeartbeats 4000000 in
theorem lp_M_before {p : Program} {l : Launch} {e : Env} {R : Room} {s : State} {m : MethodId} {args : Array Value} {below : List Frame} {meth : Method} {c : Code} {cells slots : Nat} {Q : State → Prop} {Ts : List Cond} {dC : Nat → ClassId} {dI : Nat → Nat → Nat} {cI cC : ClassId} {m0 mt ms mr mk : Nat} {th yb bi d a b f : Int32} {str fk : Nat → Int32} {st : MT} {H : Heap} {locs : List Loc} {x G : Int32} {D : Nat} (S : CallFix p m c b_M_before 5 s args Ts R_M) (hTs : ∀ w ∈ WT, w ∈ Ts) (hT : ∀ w ∈ WT, w.before args s = true) (hfr : 1 ≤ R.frames) (hlo : 21 ≤ R.locals) (hc : cells ≤ R.cells ∧ slots ≤ R.slots) (hK : rK dC dI cI cC s) (hw : mwd dC dI cI cC m0 mt ms mr mk th yb bi d a b f str fk st H) (hD : D < 256)
    (kk : ∀ (ls : Array Slot), lv_has ls 5 [(3, .int G)] → W p l e R s m args below meth c H locs cells slots Q (F0 m 54 ls [])) :
    ∀ (k h : Nat) (z : Int32), 255 ≤ h + 2 * k → h ≤ 258 → goB str k D h z = G → ∀ (ls : Array Slot), lv_has ls 5 [(4, .int (nI h)), (3, .int z), (0, .ref m0), (1, .int x), (2, .int (nI D))] → W p l e R s m args below meth c H locs cells slots Q (F0 m 23 ls []) := by
  have hx := S.1
  have hb := S.2.1
  have hown := S.2.2.2.1
  intro k
  induction k with
  | zero =>
    intro h z hk hh hG ls hl
    rw [goB_stop (Or.inr (by omega))] at hG
    subst hG
    refine lv_iload hx hb d_M_before_23 (lv_at hl 0 rfl) ?_
    refine lv_iload_n hx hb d_M_before_25 rfl (lv_at hl 4 rfl) ?_
    exact lv_icmp_ge (tgt := 54) hx hb d_M_before_26 (by decide) (fun _ => kk ls (lv_sub hl [1] rfl)) (fun q => absurd (nI_le (by omega) (by omega)) q)
  | succ k ih =>
    intro h z hk hh hG ls hl
    refine lv_iload hx hb d_M_before_23 (lv_at hl 0 rfl) ?_
    refine lv_iload_n hx hb d_M_before_25 rfl (lv_at hl 4 rfl) ?_
    refine lv_icmp_ge (tgt := 54) hx hb d_M_before_26 (by decide) (fun q => ?_) (fun q => ?_)
    · rw [goB_stop (Or.inl ((nI_leI (by omega) (by omega)).mp q))] at hG
      subst hG
      exact kk ls (lv_sub hl [1] rfl)
    · have hlt : ¬ D ≤ h := _root_.mt (nI_leI (a := D) (b := h) (by omega) (by omega)).mpr q
      refine lv_iload hx hb d_M_before_29 (lv_at hl 0 rfl) ?_
      refine lv_sipush (v := nI 255) hx hb d_M_before_31 (by decide) ?_
      refine lv_icmp_ge (tgt := 54) hx hb d_M_before_34 (by decide) (fun z2 => ?_) (fun z2 => ?_)
      · rw [goB_stop (Or.inr ((nI_leI (by omega) (by omega)).mp z2))] at hG
        subst hG
        exact kk ls (lv_sub hl [1] rfl)
      · have h255 : ¬ 255 ≤ h := _root_.mt (nI_leI (a := 255) (b := h) (by omega) (by omega)).mpr z2
        rw [goB, if_neg (by omega)] at hG
        have hb4 := bt_24 str h
        refine lv_iload hx hb d_M_before_37 (lv_at hl 0 rfl) ?_
        refine lv_istore_n (lv' := [(3, .int (nI h)), (4, .int (nI h)), (0, .ref m0), (1, .int x), (2, .int (nI D))]) hx hb d_M_before_39 rfl hl (by decide) rfl (fun ls hl => ?_)
        refine lv_iload hx hb d_M_before_40 (lv_at hl 1 rfl) ?_
        refine lv_aload_n hx hb d_M_before_42 rfl (lv_at hl 2 rfl) ?_
        refine lv_iload hx hb d_M_before_43 (lv_at hl 1 rfl) ?_
        refine call_M_long4 S hTs m_1048 ⟨by omega, by omega⟩ hl.1 (Nat.le_of_ble_eq_true rfl) d_M_before_45 hc hK hw (by omega) ?_
        refine lv_iadd hx hb d_M_before_48 ?_
        rw [nI_add]
        refine lv_istore (lv' := [(4, .int (nI (h + bt str h))), (3, .int (nI h)), (0, .ref m0), (1, .int x), (2, .int (nI D))]) hx hb d_M_before_49 hl (by decide) rfl (fun ls hl => ?_)
        refine lv_goto (tgt := 23) hx hb d_M_before_51 (by decide) ?_
        exact ih (h + bt str h) (nI h) (by omega) (by omega) hG ls hl

set_option maxRecDepth 100000 in
set_option maxHeartbeats 4000000 in
theorem c_M_beforeX (l : Launch) (dC : Nat → ClassId) (dI : Nat → Nat → Nat) (cI cC : ClassId) (m0 mt ms mr mk : Nat) (th yb bi d a b f : Int32) (str fk : Nat → Int32) (st : MT) (x y : Int32) : Met l y_M_before (Cond.code y_M_before b_M_before 5 (some .int) :: WT) ({ frames := 1, cells := 0, slots := 0, locals := 21 }) (va_Pc [.ref m0, .int x, .int y] (fun U => mU dC dI cI cC m0 mt ms mr mk th yb bi d a b f str fk st U ∧ ¬ rf x = 0)) (va_Qi (fun (r : Int32) (_ : Unit) => r = 0) (fun _ t => mtp dC dI cI cC m0 mt ms mr mk (rf x) yb str st t.heap) (aM m0 mt ms mr mk)) 0 0 (aM m0 mt ms mr mk) := by
  refine va_MetF (cc := b_M_before) (maxL := 5) (ret := (some .int)) (by decide +kernel) rfl ?_
  intro p e s m args below meth c s₁ B hml hv
  obtain ⟨rfl, ⟨hK, ap, ok, hw⟩, hr1⟩ := hv
  have hx := B.exec
  have hb := B.bytes
  have hr := B.returns
  have hts := atoms_spec (ws := (Cond.code y_M_before b_M_before 5 (some .int) :: WT)) B.pre
  have hT : ∀ w ∈ WT, w.before _ s = true := fun w h => hts w (inC w h)
  have hown : s.vm.findClass R_M = some m.cls := findClass_of_methodNamed B.named
  have hlocks := B.notSynchronized
  have hS : va_S (aM m0 mt ms mr mk) s.heap s.heap [] := va_S.rf
  have S : CallFix p m c b_M_before 5 s _ (Cond.code y_M_before b_M_before 5 (some .int) :: WT) R_M := ⟨hx, hb, hml, hown, hts⟩
  have hl := lv_entry ([.ref m0, .int x, .int y]) (n := 5) (Nat.le_of_ble_eq_true rfl)
  rw [lg_entry_eq]
  generalize (lg_sl ([.ref m0, .int x, .int y]) ++ List.replicate (5 - (lg_sl ([.ref m0, .int x, .int y])).length) Slot.unset).toArray = ls at hl ⊢
  have hl : lv_has ls 5 [(0, .ref m0), (1, .int x), (2, .int y)] := hl
  have hA : ∀ q, aM m0 mt ms mr mk q → aM m0 mt ms mr mk q := fun _ h => h
  refine lv_aload_n hx hb d_M_before_0 rfl (lv_at hl 0 rfl) ?_
  refine lv_iload_n hx hb d_M_before_1 rfl (lv_at hl 1 rfl) ?_
  refine call_M_refuses S inC m_1040 ⟨(Nat.le_of_ble_eq_true rfl), (Nat.le_of_ble_eq_true rfl)⟩ hl.1 (Nat.le_of_ble_eq_true rfl) d_M_before_2 ⟨(Nat.le_of_ble_eq_true rfl), (Nat.le_of_ble_eq_true rfl)⟩ hK ap ok hS hA hw (fun H locs hw hS _ => ?_)
  refine lv_if_ne (tgt := 16) hx hb d_M_before_5 (by decide) (fun _ => ?_) (fun q => absurd q hr1)
  refine lv_iconst (v := 0) hx hb d_M_before_16 (by decide) ?_
  exact W.iret (v := 0) hx hb hr (fun t ht hW => ⟨⟨_, (), rfl, rfl, mtp_at ht (⟨_, _, _, _, _, _, ok, hw⟩)⟩, hS.F ht⟩) hS.2.2 d_M_before_17

theorem call_M_beforeX {p : Program} {l : Launch} {e : Env} {R : Room} {s : State} {m : MethodId} {args : Array Value} {below : List Frame} {meth : Method} {c : Code} {H : Heap} {locs : List Loc} {cells slots : Nat} {Q : State → Prop} {cc : ByteArray} {pc nL idx : Nat} {ls : Array Slot} {rest : List Value} {Ts : List Cond} {own : String} {A0 : Nat → Prop} {H0 : Heap} {dC : Nat → ClassId} {dI : Nat → Nat → Nat} {cI cC : ClassId} {m0 mt ms mr mk : Nat} {th yb bi d a b f : Int32} {str fk : Nat → Int32} {st : MT} {x y : Int32} (S : CallFix p m c cc nL s args Ts own) (hTs : ∀ w ∈ WT, w ∈ Ts) (hlk : Cond.methodLink own idx y_M_before ∈ WT) (hR : 1 + 1 ≤ R.frames ∧ 8 + (5 + 11) + 21 ≤ R.locals) (hsz : ls.size = nL) (hrm : (rest.map fun v => v.category).sum ≤ 8) (hdg : decode cc pc = .ok (.invokevirtual idx, 3)) (hc : cells ≤ R.cells ∧ slots ≤ R.slots) (hK : rK dC dI cI cC s) (ap : apM m0 mt ms mr mk) (ok : mOk d a b) (hS : va_S A0 H0 H locs) (hA : ∀ q, aM m0 mt ms mr mk q → A0 q) (hw : mwd dC dI cI cC m0 mt ms mr mk th yb bi d a b f str fk st H) (hr1 : ¬ rf x = 0) (kk : ∀ (H1 : Heap) (locs1 : List Loc), mtp dC dI cI cC m0 mt ms mr mk (rf x) yb str st H1 → va_S A0 H0 H1 locs1 → (H.size ≤ H1.size ∧ ∀ q : Nat, q < H.size → ¬ aM m0 mt ms mr mk q → H1[q]? = H[q]?) → W p l e R s m args below meth c H1 locs1 cells slots Q (F0 m (pc + 3) ls (.int (0) :: rest))) : W p l e R s m args below meth c H locs cells slots Q (F0 m pc ls (.int y :: .int x :: .ref m0 :: rest)) :=
  va_calli (va_runV (As := [.int x, .int y]) (rest := rest) S (c_M_beforeX l dC dI cI cC m0 mt ms mr mk th yb bi d a b f str fk st x y) (cwV 2 S.2.2.2.2 (gV hTs hlk m_1061 m_1062 m_52 m_1063) rfl rfl rfl (by decide +kernel) hR) ⟨fun a U g mk q => ⟨q.1, ⟨q.2.1.blind, q.2.2⟩⟩, mwd.recv hK hw, fun U hU hW => ⟨rfl, ⟨mU.at hK ap ok hw hU hW, hr1⟩⟩⟩ rfl rfl hsz rfl (lv_room hrm) hdg hc) hS (fun q _ h => hA q h) hA (fun r u t H1 locs1 ht hvm hp hB hz hk hS1 => by subst hp; exact kk H1 locs1 (by rw [← ht]; exact hB) hS1 ⟨hz, hk⟩)

set_option maxRecDepth 100000 in
set_option maxHeartbeats 4000000 in
theorem c_M_beforeY (l : Launch) (dC : Nat → ClassId) (dI : Nat → Nat → Nat) (cI cC : ClassId) (m0 mt ms mr mk : Nat) (th yb bi d a b f : Int32) (str fk : Nat → Int32) (st : MT) (h : Nat) (y : Int32) : Met l y_M_before (Cond.code y_M_before b_M_before 5 (some .int) :: WT) ({ frames := 1, cells := 0, slots := 0, locals := 21 }) (va_Pc [.ref m0, .int (nI h), .int y] (fun U => mU dC dI cI cC m0 mt ms mr mk th yb bi d a b f str fk st U ∧ h < 256 ∧ ¬ rf y = 0)) (va_Qi (fun (r : Int32) (_ : Unit) => r = 0) (fun _ t => mtp dC dI cI cC m0 mt ms mr mk (rf y) yb str st t.heap) (aM m0 mt ms mr mk)) 0 0 (aM m0 mt ms mr mk) := by
  refine va_MetF (cc := b_M_before) (maxL := 5) (ret := (some .int)) (by decide +kernel) rfl ?_
  intro p e s m args below meth c s₁ B hml hv
  obtain ⟨rfl, ⟨hK, ap, ok, hw⟩, hh, hr1⟩ := hv
  have hx := B.exec
  have hb := B.bytes
  have hr := B.returns
  have hts := atoms_spec (ws := (Cond.code y_M_before b_M_before 5 (some .int) :: WT)) B.pre
  have hT : ∀ w ∈ WT, w.before _ s = true := fun w h => hts w (inC w h)
  have hown : s.vm.findClass R_M = some m.cls := findClass_of_methodNamed B.named
  have hlocks := B.notSynchronized
  have hS : va_S (aM m0 mt ms mr mk) s.heap s.heap [] := va_S.rf
  have S : CallFix p m c b_M_before 5 s _ (Cond.code y_M_before b_M_before 5 (some .int) :: WT) R_M := ⟨hx, hb, hml, hown, hts⟩
  have hl := lv_entry ([.ref m0, .int (nI h), .int y]) (n := 5) (Nat.le_of_ble_eq_true rfl)
  rw [lg_entry_eq]
  generalize (lg_sl ([.ref m0, .int (nI h), .int y]) ++ List.replicate (5 - (lg_sl ([.ref m0, .int (nI h), .int y])).length) Slot.unset).toArray = ls at hl ⊢
  have hl : lv_has ls 5 [(0, .ref m0), (1, .int (nI h)), (2, .int y)] := hl
  have hA : ∀ q, aM m0 mt ms mr mk q → aM m0 mt ms mr mk q := fun _ h => h
  refine lv_aload_n hx hb d_M_before_0 rfl (lv_at hl 0 rfl) ?_
  refine lv_iload_n hx hb d_M_before_1 rfl (lv_at hl 1 rfl) ?_
  refine call_M_refuses S inC m_1040 ⟨(Nat.le_of_ble_eq_true rfl), (Nat.le_of_ble_eq_true rfl)⟩ hl.1 (Nat.le_of_ble_eq_true rfl) d_M_before_2 ⟨(Nat.le_of_ble_eq_true rfl), (Nat.le_of_ble_eq_true rfl)⟩ hK ap ok hS hA hw (fun H locs hw hS _ => ?_)
  rw [rf_in hh] at hw
  rw [rf_in hh]
  refine lv_if_ne (tgt := 16) hx hb d_M_before_5 (by decide) (fun q => absurd rfl q) (fun _ => ?_)
  refine lv_aload_n hx hb d_M_before_8 rfl (lv_at hl 0 rfl) ?_
  refine lv_iload_n hx hb d_M_before_9 rfl (lv_at hl 2 rfl) ?_
  refine call_M_refuses S inC m_1040 ⟨(Nat.le_of_ble_eq_true rfl), (Nat.le_of_ble_eq_true rfl)⟩ hl.1 (Nat.le_of_ble_eq_true rfl) d_M_before_10 ⟨(Nat.le_of_ble_eq_true rfl), (Nat.le_of_ble_eq_true rfl)⟩ hK ap ok hS hA hw (fun H locs hw hS _ => ?_)
  refine lv_if_eq (tgt := 18) hx hb d_M_before_13 (by decide) (fun q => absurd q hr1) (fun _ => ?_)
  refine lv_iconst (v := 0) hx hb d_M_before_16 (by decide) ?_
  exact W.iret (v := 0) hx hb hr (fun t ht hW => ⟨⟨_, (), rfl, rfl, mtp_at ht (⟨_, _, _, _, _, _, ok, hw⟩)⟩, hS.F ht⟩) hS.2.2 d_M_before_17

theorem call_M_beforeY {p : Program} {l : Launch} {e : Env} {R : Room} {s : State} {m : MethodId} {args : Array Value} {below : List Frame} {meth : Method} {c : Code} {H : Heap} {locs : List Loc} {cells slots : Nat} {Q : State → Prop} {cc : ByteArray} {pc nL idx : Nat} {ls : Array Slot} {rest : List Value} {Ts : List Cond} {own : String} {A0 : Nat → Prop} {H0 : Heap} {dC : Nat → ClassId} {dI : Nat → Nat → Nat} {cI cC : ClassId} {m0 mt ms mr mk : Nat} {th yb bi d a b f : Int32} {str fk : Nat → Int32} {st : MT} {h : Nat} {y : Int32} (S : CallFix p m c cc nL s args Ts own) (hTs : ∀ w ∈ WT, w ∈ Ts) (hlk : Cond.methodLink own idx y_M_before ∈ WT) (hR : 1 + 1 ≤ R.frames ∧ 8 + (5 + 11) + 21 ≤ R.locals) (hsz : ls.size = nL) (hrm : (rest.map fun v => v.category).sum ≤ 8) (hdg : decode cc pc = .ok (.invokevirtual idx, 3)) (hc : cells ≤ R.cells ∧ slots ≤ R.slots) (hK : rK dC dI cI cC s) (ap : apM m0 mt ms mr mk) (ok : mOk d a b) (hS : va_S A0 H0 H locs) (hA : ∀ q, aM m0 mt ms mr mk q → A0 q) (hw : mwd dC dI cI cC m0 mt ms mr mk th yb bi d a b f str fk st H) (hh : h < 256) (hr1 : ¬ rf y = 0) (kk : ∀ (H1 : Heap) (locs1 : List Loc), mtp dC dI cI cC m0 mt ms mr mk (rf y) yb str st H1 → va_S A0 H0 H1 locs1 → (H.size ≤ H1.size ∧ ∀ q : Nat, q < H.size → ¬ aM m0 mt ms mr mk q → H1[q]? = H[q]?) → W p l e R s m args below meth c H1 locs1 cells slots Q (F0 m (pc + 3) ls (.int (0) :: rest))) : W p l e R s m args below meth c H locs cells slots Q (F0 m pc ls (.int y :: .int (nI h) :: .ref m0 :: rest)) :=
  va_calli (va_runV (As := [.int (nI h), .int y]) (rest := rest) S (c_M_beforeY l dC dI cI cC m0 mt ms mr mk th yb bi d a b f str fk st h y) (cwV 2 S.2.2.2.2 (gV hTs hlk m_1061 m_1062 m_52 m_1063) rfl rfl rfl (by decide +kernel) hR) ⟨fun a U g mk q => ⟨q.1, ⟨q.2.1.blind, q.2.2⟩⟩, mwd.recv hK hw, fun U hU hW => ⟨rfl, ⟨mU.at hK ap ok hw hU hW, hh, hr1⟩⟩⟩ rfl rfl hsz rfl (lv_room hrm) hdg hc) hS (fun q _ h => hA q h) hA (fun r u t H1 locs1 ht hvm hp hB hz hk hS1 => by subst hp; exact kk H1 locs1 (by rw [← ht]; exact hB) hS1 ⟨hz, hk⟩)

set_option maxRecDepth 100000 in
set_option maxHeartbeats 4000000 in
theorem c_M_before (l : Launch) (dC : Nat → ClassId) (dI : Nat → Nat → Nat) (cI cC : ClassId) (m0 mt ms mr mk : Nat) (th yb bi d a b f : Int32) (str fk : Nat → Int32) (st : MT) (h D : Nat) : Met l y_M_before (Cond.code y_M_before b_M_before 5 (some .int) :: WT) ({ frames := 1, cells := 0, slots := 0, locals := 21 }) (va_Pc [.ref m0, .int (nI h), .int (nI D)] (fun U => mU dC dI cI cC m0 mt ms mr mk th yb bi d a b f str fk st U ∧ h < 256 ∧ D < 256)) (va_Qi (fun (r : Int32) (_ : Unit) => r = goB str 128 D h (-1)) (fun _ t => mtp dC dI cI cC m0 mt ms mr mk 0 yb str st t.heap) (aM m0 mt ms mr mk)) 0 0 (aM m0 mt ms mr mk) := by
  refine va_MetF (cc := b_M_before) (maxL := 5) (ret := (some .int)) (by decide +kernel) rfl ?_
  intro p e s m args below meth c s₁ B hml hv
  obtain ⟨rfl, ⟨hK, ap, ok, hw⟩, hh, hD⟩ := hv
  have hx := B.exec
  have hb := B.bytes
  have hr := B.returns
  have hts := atoms_spec (ws := (Cond.code y_M_before b_M_before 5 (some .int) :: WT)) B.pre
  have hT : ∀ w ∈ WT, w.before _ s = true := fun w h => hts w (inC w h)
  have hown : s.vm.findClass R_M = some m.cls := findClass_of_methodNamed B.named
  have hlocks := B.notSynchronized
  have hS : va_S (aM m0 mt ms mr mk) s.heap s.heap [] := va_S.rf
  have S : CallFix p m c b_M_before 5 s _ (Cond.code y_M_before b_M_before 5 (some .int) :: WT) R_M := ⟨hx, hb, hml, hown, hts⟩
  have hl := lv_entry ([.ref m0, .int (nI h), .int (nI D)]) (n := 5) (Nat.le_of_ble_eq_true rfl)
  rw [lg_entry_eq]
  generalize (lg_sl ([.ref m0, .int (nI h), .int (nI D)]) ++ List.replicate (5 - (lg_sl ([.ref m0, .int (nI h), .int (nI D)])).length) Slot.unset).toArray = ls at hl ⊢
  have hl : lv_has ls 5 [(0, .ref m0), (1, .int (nI h)), (2, .int (nI D))] := hl
  have hA : ∀ q, aM m0 mt ms mr mk q → aM m0 mt ms mr mk q := fun _ h => h
  refine lv_aload_n hx hb d_M_before_0 rfl (lv_at hl 0 rfl) ?_
  refine lv_iload_n hx hb d_M_before_1 rfl (lv_at hl 1 rfl) ?_
  refine call_M_refuses S inC m_1040 ⟨(Nat.le_of_ble_eq_true rfl), (Nat.le_of_ble_eq_true rfl)⟩ hl.1 (Nat.le_of_ble_eq_true rfl) d_M_before_2 ⟨(Nat.le_of_ble_eq_true rfl), (Nat.le_of_ble_eq_true rfl)⟩ hK ap ok hS hA hw (fun H locs hw hS _ => ?_)
  rw [rf_in hh] at hw
  rw [rf_in hh]
  refine lv_if_ne (tgt := 16) hx hb d_M_before_5 (by decide) (fun q => absurd rfl q) (fun _ => ?_)
  refine lv_aload_n hx hb d_M_before_8 rfl (lv_at hl 0 rfl) ?_
  refine lv_iload_n hx hb d_M_before_9 rfl (lv_at hl 2 rfl) ?_
  refine call_M_refuses S inC m_1040 ⟨(Nat.le_of_ble_eq_true rfl), (Nat.le_of_ble_eq_true rfl)⟩ hl.1 (Nat.le_of_ble_eq_true rfl) d_M_before_10 ⟨(Nat.le_of_ble_eq_true rfl), (Nat.le_of_ble_eq_true rfl)⟩ hK ap ok hS hA hw (fun H locs hw hS _ => ?_)
  rw [rf_in hD] at hw
  rw [rf_in hD]
  refine lv_if_eq (tgt := 18) hx hb d_M_before_13 (by decide) (fun _ => ?_) (fun q => absurd rfl q)
  refine lv_iconst (v := -1) hx hb d_M_before_18 (by decide) ?_
  refine lv_istore_n (lv' := [(3, .int (-1)), (0, .ref m0), (1, .int (nI h)), (2, .int (nI D))]) hx hb d_M_before_19 rfl hl (by decide) rfl (fun ls hl => ?_)
  refine lv_iload_n hx hb d_M_before_20 rfl (lv_at hl 2 rfl) ?_
  refine lv_istore (lv' := [(4, .int (nI h)), (3, .int (-1)), (0, .ref m0), (1, .int (nI h)), (2, .int (nI D))]) hx hb d_M_before_21 hl (by decide) rfl (fun ls hl => ?_)
  refine lp_M_before (G := goB str 128 D h (-1)) S inC hT (Nat.le_of_ble_eq_true rfl) (Nat.le_of_ble_eq_true rfl) ⟨(Nat.le_of_ble_eq_true rfl), (Nat.le_of_ble_eq_true rfl)⟩ hK hw hD (fun ls hl => ?_) 128 h (-1) (by omega) (by omega) rfl ls hl
  refine lv_iload_n hx hb d_M_before_54 rfl (lv_at hl 0 rfl) ?_
  exact W.iret (v := goB str 128 D h (-1)) hx hb hr (fun t ht hW => ⟨⟨_, (), rfl, rfl, mtp_at ht (⟨_, _, _, _, _, _, ok, hw⟩)⟩, hS.F ht⟩) hS.2.2 d_M_before_55

theorem call_M_before {p : Program} {l : Launch} {e : Env} {R : Room} {s : State} {m : MethodId} {args : Array Value} {below : List Frame} {meth : Method} {c : Code} {H : Heap} {locs : List Loc} {cells slots : Nat} {Q : State → Prop} {cc : ByteArray} {pc nL idx : Nat} {ls : Array Slot} {rest : List Value} {Ts : List Cond} {own : String} {A0 : Nat → Prop} {H0 : Heap} {dC : Nat → ClassId} {dI : Nat → Nat → Nat} {cI cC : ClassId} {m0 mt ms mr mk : Nat} {th yb bi d a b f : Int32} {str fk : Nat → Int32} {st : MT} {h D : Nat} (S : CallFix p m c cc nL s args Ts own) (hTs : ∀ w ∈ WT, w ∈ Ts) (hlk : Cond.methodLink own idx y_M_before ∈ WT) (hR : 1 + 1 ≤ R.frames ∧ 8 + (5 + 11) + 21 ≤ R.locals) (hsz : ls.size = nL) (hrm : (rest.map fun v => v.category).sum ≤ 8) (hdg : decode cc pc = .ok (.invokevirtual idx, 3)) (hc : cells ≤ R.cells ∧ slots ≤ R.slots) (hK : rK dC dI cI cC s) (ap : apM m0 mt ms mr mk) (ok : mOk d a b) (hS : va_S A0 H0 H locs) (hA : ∀ q, aM m0 mt ms mr mk q → A0 q) (hw : mwd dC dI cI cC m0 mt ms mr mk th yb bi d a b f str fk st H) (hh : h < 256) (hD : D < 256) (kk : ∀ (H1 : Heap) (locs1 : List Loc), mtp dC dI cI cC m0 mt ms mr mk 0 yb str st H1 → va_S A0 H0 H1 locs1 → (H.size ≤ H1.size ∧ ∀ q : Nat, q < H.size → ¬ aM m0 mt ms mr mk q → H1[q]? = H[q]?) → W p l e R s m args below meth c H1 locs1 cells slots Q (F0 m (pc + 3) ls (.int (goB str 128 D h (-1)) :: rest))) : W p l e R s m args below meth c H locs cells slots Q (F0 m pc ls (.int (nI D) :: .int (nI h) :: .ref m0 :: rest)) :=
  va_calli (va_runV (As := [.int (nI h), .int (nI D)]) (rest := rest) S (c_M_before l dC dI cI cC m0 mt ms mr mk th yb bi d a b f str fk st h D) (cwV 2 S.2.2.2.2 (gV hTs hlk m_1061 m_1062 m_52 m_1063) rfl rfl rfl (by decide +kernel) hR) ⟨fun a U g mk q => ⟨q.1, ⟨q.2.1.blind, q.2.2⟩⟩, mwd.recv hK hw, fun U hU hW => ⟨rfl, ⟨mU.at hK ap ok hw hU hW, hh, hD⟩⟩⟩ rfl rfl hsz rfl (lv_room hrm) hdg hc) hS (fun q _ h => hA q h) hA (fun r u t H1 locs1 ht hvm hp hB hz hk hS1 => by subst hp; exact kk H1 locs1 (by rw [← ht]; exact hB) hS1 ⟨hz, hk⟩)
