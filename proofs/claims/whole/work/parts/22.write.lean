def opsT (l : List Int32) (b : Int32) : List Int32 := l.flatMap (fun c => f_T_operand c b)
def f_T_write (i : Nat) (b : Int32) : List Int32 := sTx (kW.getD i 0) ++ ((if kOrd.getD i 0 = 0 then [] else f_T_order ((b >>> ((25 : Int32) &&& 31)) &&& 3)) ++ ((if f_JS_isEmpty (kO.getD i 0) = 0 then [32] else []) ++ opsT (sTx (kO.getD i 0)) b))
theorem kWO_lt : ∀ i, i < 95 → kW.getD i 0 < 159 ∧ kO.getD i 0 < 159 := by decide +kernel
theorem opsT_succ {l : List Int32} {b : Int32} {i : Nat} (h : i < l.length) : opsT (l.take (i + 1)) b = opsT (l.take i) b ++ f_T_operand (l.getD i 0) b := by
  rw [tk_succ h, opsT, List.flatMap_append, opsT, List.flatMap_cons, List.flatMap_nil, List.append_nil]

set_option maxRecDepth 100000 in
set_option maxHeartbeats 4000000 in
theorem lp_T_write {p : Program} {l : Launch} {e : Env} {R : Room} {s : State} {m : MethodId} {args : Array Value} {below : List Frame} {meth : Method} {c : Code} {cells slots : Nat} {Q : State → Prop} {Ts : List Cond} {adE adK adV : Nat → Nat} {A0 : Nat → Prop} {dC : Nat → ClassId} {dI : Nat → Nat → Nat} {cC : ClassId} {h0 h1 : Nat} {v : List Int32} {k q1 : Nat} {b : Int32} (S : CallFix p m c b_T_write 5 s args Ts R_T) (hTs : ∀ w ∈ WT, w ∈ Ts) (hT : ∀ w ∈ WT, w.before args s = true) (hfr : 7 ≤ R.frames) (hlo : 150 ≤ R.locals) (hc : cells ≤ R.cells ∧ slots ≤ R.slots) (hK : va_K (dC, dI) classes [(cC, .char)] s) (hne : h0 ≠ h1) (hC : cx adE adK adV A0 s s.heap) (hA : ∀ q, aT h0 h1 q → A0 q) (hk : k < 159)
    (kk : ∀ (H : Heap) (locs : List Loc) (ls : Array Slot), tw dC dI cC h0 h1 (v ++ opsT (sTx k) b) H → va_S A0 s.heap H locs → W p l e R s m args below meth c H locs cells slots Q (F0 m 77 ls [])) :
    ∀ (n i : Nat), i + n = (sTx k).length → ∀ (H : Heap) (locs : List Loc) (ls : Array Slot), tw dC dI cC h0 h1 (v ++ opsT ((sTx k).take i) b) H → va_S A0 s.heap H locs → lv_has ls 5 [(4, .int (nI i)), (3, .ref (adK k)), (0, .ref h0), (1, .ref q1), (2, .int b)] → W p l e R s m args below meth c H locs cells slots Q (F0 m 51 ls []) := by
  have hlt := sTx_lt k hk
  have hx := S.1
  have hb := S.2.1
  have hown := S.2.2.2.1
  intro n
  induction n with
  | zero =>
    intro i hi H locs ls hw hS hl
    refine lv_iload hx hb d_T_write_51 (lv_at hl 0 rfl) ?_
    refine lv_aload_n hx hb d_T_write_53 rfl (lv_at hl 1 rfl) ?_
    refine call_JS_length S hTs m_407 ⟨by omega, by omega⟩ hl.1 (Nat.le_of_ble_eq_true rfl) d_T_write_54 hc hC hS hk ?_
    refine lv_icmp_ge (tgt := 77) hx hb d_T_write_57 (by decide) (fun _ => ?_) (fun h => absurd (nI_le (by omega) (by omega)) h)
    exact kk H locs ls (tw_eq (by rw [List.take_of_length_le (by omega)]) hw) hS
  | succ n ih =>
    intro i hi H locs ls hw hS hl
    have hin : i < (sTx k).length := by omega
    refine lv_iload hx hb d_T_write_51 (lv_at hl 0 rfl) ?_
    refine lv_aload_n hx hb d_T_write_53 rfl (lv_at hl 1 rfl) ?_
    refine call_JS_length S hTs m_407 ⟨by omega, by omega⟩ hl.1 (Nat.le_of_ble_eq_true rfl) d_T_write_54 hc hC hS hk ?_
    refine lv_icmp_ge (tgt := 77) hx hb d_T_write_57 (by decide) (fun h => absurd h (nI_ge (by omega) (by omega))) (fun _ => ?_)
    refine lv_aload_n hx hb d_T_write_60 rfl (lv_at hl 2 rfl) ?_
    refine lv_aload_n hx hb d_T_write_61 rfl (lv_at hl 1 rfl) ?_
    refine lv_iload hx hb d_T_write_62 (lv_at hl 0 rfl) ?_
    refine call_JS_charAt S hTs m_417 ⟨by omega, by omega⟩ hl.1 (Nat.le_of_ble_eq_true rfl) d_T_write_64 hc hC hS hk hin ?_
    refine lv_iload_n hx hb d_T_write_67 rfl (lv_at hl 4 rfl) ?_
    refine call_T_operand S hTs m_470 ⟨by omega, by omega⟩ hl.1 (Nat.le_of_ble_eq_true rfl) d_T_write_68 hc hK hne hC hS hA hw (sTx_vn k hk i hin) (fun H locs hw hS _ => ?_)
    refine lv_iinc (v := nI (i + 1)) (lv' := [(4, .int (nI (i + 1))), (3, .ref (adK k)), (0, .ref h0), (1, .ref q1), (2, .int b)]) hx hb d_T_write_71 hl (k := 0) rfl (nI_inc i) (by decide) rfl (fun ls hl => ?_)
    refine lv_goto (tgt := 51) hx hb d_T_write_74 (by decide) ?_
    exact ih (i + 1) (by omega) H locs ls (tw_eq (by rw [opsT_succ hin, List.append_assoc]) hw) hS hl

set_option maxRecDepth 100000 in
set_option maxHeartbeats 4000000 in
theorem w48_T_write {p : Program} {l : Launch} {e : Env} {R : Room} {s : State} {m : MethodId} {args : Array Value} {below : List Frame} {meth : Method} {c : Code} {cells slots : Nat} {Q : State → Prop} {Ts : List Cond} {adE adK adV : Nat → Nat} {A0 : Nat → Prop} {dC : Nat → ClassId} {dI : Nat → Nat → Nat} {cC : ClassId} {h0 h1 : Nat} {v : List Int32} {k q1 : Nat} {b : Int32} (S : CallFix p m c b_T_write 5 s args Ts R_T) (hTs : ∀ w ∈ WT, w ∈ Ts) (hT : ∀ w ∈ WT, w.before args s = true) (hfr : 7 ≤ R.frames) (hlo : 150 ≤ R.locals) (hc : cells ≤ R.cells ∧ slots ≤ R.slots) (hK : va_K (dC, dI) classes [(cC, .char)] s) (hne : h0 ≠ h1) (hC : cx adE adK adV A0 s s.heap) (hA : ∀ q, aT h0 h1 q → A0 q) (hk : k < 159)
    (kk : ∀ (H : Heap) (locs : List Loc) (ls : Array Slot), tw dC dI cC h0 h1 (v ++ opsT (sTx k) b) H → va_S A0 s.heap H locs → W p l e R s m args below meth c H locs cells slots Q (F0 m 77 ls []))
    {H : Heap} {locs : List Loc} {ls : Array Slot} (hw : tw dC dI cC h0 h1 v H) (hS : va_S A0 s.heap H locs) (hl : lv_has ls 5 [(3, .ref (adK k)), (0, .ref h0), (1, .ref q1), (2, .int b)]) : W p l e R s m args below meth c H locs cells slots Q (F0 m 48 ls []) := by
  have hx := S.1
  have hb := S.2.1
  refine lv_iconst (v := 0) hx hb d_T_write_48 (by decide) ?_
  refine lv_istore (lv' := [(4, .int 0), (3, .ref (adK k)), (0, .ref h0), (1, .ref q1), (2, .int b)]) hx hb d_T_write_49 hl (by decide) rfl (fun ls hl => ?_)
  exact lp_T_write S hTs hT hfr hlo hc hK hne hC hA hk kk (sTx k).length 0 (by omega) H locs ls (tw_eq (by rw [List.take_zero, opsT, List.flatMap_nil, List.append_nil]) hw) hS hl
set_option maxRecDepth 100000 in
set_option maxHeartbeats 4000000 in
theorem w30_T_write {p : Program} {l : Launch} {e : Env} {R : Room} {s : State} {m : MethodId} {args : Array Value} {below : List Frame} {meth : Method} {c : Code} {cells slots : Nat} {Q : State → Prop} {Ts : List Cond} {adE adK adV : Nat → Nat} {A0 : Nat → Prop} {dC : Nat → ClassId} {dI : Nat → Nat → Nat} {cC : ClassId} {h0 h1 : Nat} {v : List Int32} {i : Nat} {b : Int32} (S : CallFix p m c b_T_write 5 s args Ts R_T) (hTs : ∀ w ∈ WT, w ∈ Ts) (hT : ∀ w ∈ WT, w.before args s = true) (hfr : 7 ≤ R.frames) (hlo : 150 ≤ R.locals) (hc : cells ≤ R.cells ∧ slots ≤ R.slots) (hK : va_K (dC, dI) classes [(cC, .char)] s) (hne : h0 ≠ h1) (hC : cx adE adK adV A0 s s.heap) (hA : ∀ q, aT h0 h1 q → A0 q) (hi : i < 95)
    (kk : ∀ (H : Heap) (locs : List Loc) (ls : Array Slot), tw dC dI cC h0 h1 (v ++ ((if f_JS_isEmpty (kO.getD i 0) = 0 then [32] else []) ++ opsT (sTx (kO.getD i 0)) b)) H → va_S A0 s.heap H locs → W p l e R s m args below meth c H locs cells slots Q (F0 m 77 ls []))
    {H : Heap} {locs : List Loc} {ls : Array Slot} (hw : tw dC dI cC h0 h1 v H) (hS : va_S A0 s.heap H locs) (hl : lv_has ls 5 [(0, .ref h0), (1, .ref (adE i)), (2, .int b)]) : W p l e R s m args below meth c H locs cells slots Q (F0 m 30 ls []) := by
  have hx := S.1
  have hb := S.2.1
  have hown := S.2.2.2.1
  have hk := (kWO_lt i hi).2
  refine lv_aload_n hx hb d_T_write_30 rfl (lv_at hl 1 rfl) ?_
  refine vk_getf hx hb (hC.1 i hi).2.2.2.2 hS hown (hT _ m_1074) (fun _ h => h) d_T_write_31 ?_
  refine lv_astore_n (lv' := [(3, .ref (adK (kO.getD i 0))), (0, .ref h0), (1, .ref (adE i)), (2, .int b)]) hx hb d_T_write_34 rfl hl (by decide) rfl (fun ls hl => ?_)
  refine lv_aload_n hx hb d_T_write_35 rfl (lv_at hl 0 rfl) ?_
  refine call_JS_isEmpty S hTs m_466 ⟨by omega, by omega⟩ hl.1 (Nat.le_of_ble_eq_true rfl) d_T_write_36 hc hC hS hk ?_
  refine lv_if_ne (tgt := 48) hx hb d_T_write_39 (by decide) (fun h => ?_) (fun h => ?_)
  · exact w48_T_write S hTs hT hfr hlo hc hK hne hC hA hk (fun H locs ls hw hS => kk H locs ls (tw_eq (by rw [if_neg h, List.nil_append]) hw) hS) hw hS hl
  · refine lv_aload_n hx hb d_T_write_42 rfl (lv_at hl 1 rfl) ?_
    refine lv_bipush (v := 32) hx hb d_T_write_43 (by decide) ?_
    refine call_T_put S hTs m_455 ⟨by omega, by omega⟩ hl.1 (Nat.le_of_ble_eq_true rfl) d_T_write_45 hc hK hne hC hS hA hw (by decide) (fun H locs hw hS _ => ?_)
    exact w48_T_write S hTs hT hfr hlo hc hK hne hC hA hk (fun H locs ls hw hS => kk H locs ls (tw_eq (by rw [if_pos h, List.append_assoc]) hw) hS) hw hS hl

set_option maxRecDepth 100000 in
set_option maxHeartbeats 4000000 in
theorem c_T_write (l : Launch) (adE adK adV : Nat → Nat) (dC : Nat → ClassId) (dI : Nat → Nat → Nat) (cC : ClassId) (h0 h1 : Nat) (v : List Int32) (i : Nat) (b : Int32) : Met l y_T_write (Cond.code y_T_write b_T_write 5 none :: WT) ({ frames := 7, cells := 0, slots := 0, locals := 150 }) (va_Pc [.ref h0, .ref (adE i), .int b] (fun U => twU adE adK adV dC dI cC h0 h1 v U ∧ i < 95)) (va_Qv (fun _ : Unit => True) (fun _ t => tw dC dI cC h0 h1 (f_T_write i b) t.heap) (aT h0 h1)) 0 0 (aT h0 h1) := by
  refine va_MetF (cc := b_T_write) (maxL := 5) (ret := none) (by decide +kernel) rfl ?_
  intro p e s m args below meth c s₁ B hml hv
  obtain ⟨rfl, ⟨hK, hne, hC, hw⟩, hi⟩ := hv
  have hx := B.exec
  have hb := B.bytes
  have hr := B.returns
  have hts := atoms_spec (ws := (Cond.code y_T_write b_T_write 5 none :: WT)) B.pre
  have hT : ∀ w ∈ WT, w.before _ s = true := fun w h => hts w (inC w h)
  have hown : s.vm.findClass R_T = some m.cls := findClass_of_methodNamed B.named
  have hlocks := B.notSynchronized
  have hS : va_S (aT h0 h1) s.heap s.heap [] := va_S.rf
  have S : CallFix p m c b_T_write 5 s _ (Cond.code y_T_write b_T_write 5 none :: WT) R_T := ⟨hx, hb, hml, hown, hts⟩
  have hl := lv_entry ([.ref h0, .ref (adE i), .int b]) (n := 5) (Nat.le_of_ble_eq_true rfl)
  rw [lg_entry_eq]
  generalize (lg_sl ([.ref h0, .ref (adE i), .int b]) ++ List.replicate (5 - (lg_sl ([.ref h0, .ref (adE i), .int b])).length) Slot.unset).toArray = ls at hl ⊢
  have hl : lv_has ls 5 [(0, .ref h0), (1, .ref (adE i)), (2, .int b)] := hl
  have hA : ∀ q, aT h0 h1 q → aT h0 h1 q := fun _ h => h
  obtain ⟨f, n, ht0, hP⟩ := hw
  have hD : va_D (aT h0 h1) (wT h0 h1 cC f n) := wT_D hne
  have hk := (kWO_lt i hi).1
  refine lv_aload_n hx hb d_T_write_0 rfl (lv_at hl 0 rfl) ?_
  refine lv_iconst (v := 0) hx hb d_T_write_1 (by decide) ?_
  refine va_put (D := (dC, dI)) (ci := 0) (v := .int 0) (ty := .int) (C := R_T) (T := F_T) (N := 2) hx hb hT i_T ft_T ft_T_ok n_T hown hK hP hD hS 0 rfl rfl 1 (by decide) (hT _ m_83) (fun _ h9 => h9) rfl (by decide +kernel) rfl rfl (Nat.le_of_ble_eq_true rfl) d_T_write_2 (fun H locs hP hD hS => ?_)
  have hw : tw dC dI cC h0 h1 [] H := ⟨f, 0, ⟨nI_0.symm, fun j hj => absurd hj (by simp), fun x hx => absurd hx List.not_mem_nil⟩, hP⟩
  refine lv_aload_n hx hb d_T_write_5 rfl (lv_at hl 0 rfl) ?_
  refine lv_aload_n hx hb d_T_write_6 rfl (lv_at hl 1 rfl) ?_
  refine vk_getf hx hb (hC.1 i hi).2.2.2.1 hS hown (hT _ m_1070) (fun _ h => h) d_T_write_7 ?_
  refine call_T_word S inC m_403 ⟨(Nat.le_of_ble_eq_true rfl), (Nat.le_of_ble_eq_true rfl)⟩ hl.1 (Nat.le_of_ble_eq_true rfl) d_T_write_10 ⟨(Nat.le_of_ble_eq_true rfl), (Nat.le_of_ble_eq_true rfl)⟩ hK hne hC hS hA hw hk (fun H locs hw hS _ => ?_)
  refine lv_aload_n hx hb d_T_write_13 rfl (lv_at hl 1 rfl) ?_
  refine vk_getf hx hb (hC.1 i hi).2.2.1 hS hown (hT _ m_1073) (fun _ h => h) d_T_write_14 ?_
  refine lv_if_eq (tgt := 30) hx hb d_T_write_17 (by decide) (fun h => ?_) (fun h => ?_)
  · refine w30_T_write S inC hT (Nat.le_of_ble_eq_true rfl) (Nat.le_of_ble_eq_true rfl) ⟨(Nat.le_of_ble_eq_true rfl), (Nat.le_of_ble_eq_true rfl)⟩ hK hne hC hA hi (fun H locs ls hw hS => ?_) hw hS hl
    exact W.vret hx hb hr (fun t ht hW => ⟨⟨(), rfl, trivial, tw_at ht (tw_eq (by rw [f_T_write, if_pos h] <;> simp only [List.nil_append]) hw)⟩, hS.F ht⟩) hS.2.2 d_T_write_77
  · refine lv_aload_n hx hb d_T_write_20 rfl (lv_at hl 0 rfl) ?_
    refine lv_iload_n hx hb d_T_write_21 rfl (lv_at hl 2 rfl) ?_
    refine lv_bipush (v := 25) hx hb d_T_write_22 (by decide) ?_
    refine lv_ishr hx hb d_T_write_24 ?_
    refine lv_iconst (v := 3) hx hb d_T_write_25 (by decide) ?_
    refine lv_iand hx hb d_T_write_26 ?_
    refine call_T_order S inC m_459 ⟨(Nat.le_of_ble_eq_true rfl), (Nat.le_of_ble_eq_true rfl)⟩ hl.1 (Nat.le_of_ble_eq_true rfl) d_T_write_27 ⟨(Nat.le_of_ble_eq_true rfl), (Nat.le_of_ble_eq_true rfl)⟩ hK hne hC hS hA hw (fun H locs hw hS _ => ?_)
    refine w30_T_write S inC hT (Nat.le_of_ble_eq_true rfl) (Nat.le_of_ble_eq_true rfl) ⟨(Nat.le_of_ble_eq_true rfl), (Nat.le_of_ble_eq_true rfl)⟩ hK hne hC hA hi (fun H locs ls hw hS => ?_) hw hS hl
    exact W.vret hx hb hr (fun t ht hW => ⟨⟨(), rfl, trivial, tw_at ht (tw_eq (by rw [f_T_write, if_neg h] <;> simp only [List.nil_append, List.append_assoc]) hw)⟩, hS.F ht⟩) hS.2.2 d_T_write_77

theorem call_T_write {p : Program} {l : Launch} {e : Env} {R : Room} {s : State} {m : MethodId} {args : Array Value} {below : List Frame} {meth : Method} {c : Code} {H : Heap} {locs : List Loc} {cells slots : Nat} {Q : State → Prop} {cc : ByteArray} {pc nL idx : Nat} {ls : Array Slot} {rest : List Value} {Ts : List Cond} {own : String} {adE adK adV : Nat → Nat} {A0 : Nat → Prop} {dC : Nat → ClassId} {dI : Nat → Nat → Nat} {cC : ClassId} {h0 h1 : Nat} {v : List Int32} {i : Nat} {b : Int32} (S : CallFix p m c cc nL s args Ts own) (hTs : ∀ w ∈ WT, w ∈ Ts) (h1' : Cond.methodLink own idx y_T_write ∈ WT) (hR : 7 + 1 ≤ R.frames ∧ 8 + (5 + 11) + 150 ≤ R.locals) (hsz : ls.size = nL) (hrm : (rest.map fun v => v.category).sum ≤ 8) (hdg : decode cc pc = .ok (.invokevirtual idx, 3)) (hc : cells ≤ R.cells ∧ slots ≤ R.slots) (hK : va_K (dC, dI) classes [(cC, .char)] s) (hne : h0 ≠ h1) (hC : cx adE adK adV A0 s s.heap) (hS : va_S A0 s.heap H locs) (hA : ∀ q, aT h0 h1 q → A0 q) (hw : tw dC dI cC h0 h1 v H) (hi : i < 95) (kk : ∀ (H1 : Heap) (locs1 : List Loc), tw dC dI cC h0 h1 (f_T_write i b) H1 → va_S A0 s.heap H1 locs1 → (H.size ≤ H1.size ∧ ∀ q : Nat, q < H.size → ¬ aT h0 h1 q → H1[q]? = H[q]?) → W p l e R s m args below meth c H1 locs1 cells slots Q (F0 m (pc + 3) ls rest)) : W p l e R s m args below meth c H locs cells slots Q (F0 m pc ls (.int b :: .ref (adE i) :: .ref h0 :: rest)) :=
  va_callv (va_runV (As := [.ref (adE i), .int b]) (rest := rest) S (c_T_write l adE adK adV dC dI cC h0 h1 v i b) (cwV 2 S.2.2.2.2 (gV hTs h1' m_400 m_401 m_51 m_402) rfl rfl rfl (by decide +kernel) hR) ⟨fun a U g mk q => ⟨q.1, ⟨q.2.1.blind, q.2.2⟩⟩, tw_recv hK hw, fun U hU hW => ⟨rfl, ⟨twU.at hK hne hC hS hA hw hU hW, hi⟩⟩⟩ rfl rfl hsz rfl (lv_room hrm) hdg hc) hS (fun q _ h => hA q h) hA (fun u t H1 locs1 ht hvm hp hB hz hk hS1 => kk H1 locs1 (by rw [← ht]; exact hB) hS1 ⟨hz, hk⟩)
