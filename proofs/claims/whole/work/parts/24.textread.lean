set_option maxRecDepth 100000 in
set_option maxHeartbeats 4000000 in
theorem c_T_size (l : Launch) (adE adK adV : Nat → Nat) (dC : Nat → ClassId) (dI : Nat → Nat → Nat) (cC : ClassId) (h0 h1 : Nat) (v : List Int32) : Met l y_T_size (Cond.code y_T_size b_T_size 1 (some .int) :: WT) ({ frames := 0, cells := 0, slots := 0, locals := 0 }) (va_Pc [.ref h0] (fun U => va_K (dC, dI) classes [(cC, .char)] U ∧ tw dC dI cC h0 h1 v U.heap)) (vp_Si (fun r => r = nI (min v.length 40))) 0 0 no := by
  refine va_MetF (cc := b_T_size) (maxL := 1) (ret := (some .int)) (by decide +kernel) rfl ?_
  intro p e s m args below meth c s₁ B hml hv
  obtain ⟨rfl, hK, hw⟩ := hv
  have hx := B.exec
  have hb := B.bytes
  have hr := B.returns
  have hts := atoms_spec (ws := (Cond.code y_T_size b_T_size 1 (some .int) :: WT)) B.pre
  have hT : ∀ w ∈ WT, w.before _ s = true := fun w h => hts w (inC w h)
  have hown : s.vm.findClass R_T = some m.cls := findClass_of_methodNamed B.named
  have hlocks := B.notSynchronized
  have hS : va_S no s.heap s.heap [] := va_S.rf
  have S : CallFix p m c b_T_size 1 s _ (Cond.code y_T_size b_T_size 1 (some .int) :: WT) R_T := ⟨hx, hb, hml, hown, hts⟩
  have hl := lv_entry ([.ref h0]) (n := 1) (Nat.le_of_ble_eq_true rfl)
  rw [lg_entry_eq]
  generalize (lg_sl ([.ref h0]) ++ List.replicate (1 - (lg_sl ([.ref h0])).length) Slot.unset).toArray = ls at hl ⊢
  have hl : lv_has ls 1 [(0, .ref h0)] := hl
  obtain ⟨f, n, ht0, hP⟩ := hw
  refine lv_aload_n hx hb d_T_size_0 rfl (lv_at hl 0 rfl) ?_
  refine va_get (D := (dC, dI)) (ci := 0) (v := .int n) (C := R_T) (T := F_T) (N := 2) hx hb hT i_T hown hK hP 0 rfl rfl 1 (by decide) (hT _ m_83) (fun _ h9 => h9) rfl d_T_size_1 ?_
  exact W.iret (v := n) hx hb hr (fun t ht hW => ⟨n, rfl, ht0.1, ht⟩) (fun _ h => by cases h) d_T_size_4

theorem call_T_size {p : Program} {l : Launch} {e : Env} {R : Room} {s : State} {m : MethodId} {args : Array Value} {below : List Frame} {meth : Method} {c : Code} {H : Heap} {locs : List Loc} {cells slots : Nat} {Q : State → Prop} {cc : ByteArray} {pc nL idx : Nat} {ls : Array Slot} {rest : List Value} {Ts : List Cond} {own : String} {dC : Nat → ClassId} {dI : Nat → Nat → Nat} {cC : ClassId} {h0 h1 : Nat} {v : List Int32} (S : CallFix p m c cc nL s args Ts own) (hTs : ∀ w ∈ WT, w ∈ Ts) (hlk : Cond.methodLink own idx y_T_size ∈ WT) (hR : 0 + 1 ≤ R.frames ∧ 8 + (1 + 11) + 0 ≤ R.locals) (hsz : ls.size = nL) (hrm : (rest.map fun v => v.category).sum ≤ 8) (hdg : decode cc pc = .ok (.invokevirtual idx, 3)) (hc : cells ≤ R.cells ∧ slots ≤ R.slots) (hK : va_K (dC, dI) classes [(cC, .char)] s) (hw : tw dC dI cC h0 h1 v H) (kk : W p l e R s m args below meth c H locs cells slots Q (F0 m (pc + 3) ls (.int (nI (min v.length 40)) :: rest))) : W p l e R s m args below meth c H locs cells slots Q (F0 m pc ls (.ref h0 :: rest)) :=
  vp_callSi (va_Run.run (va_runV (As := []) (rest := rest) S (c_T_size l (fun _ => 0) (fun _ => 0) (fun _ => 0) dC dI cC h0 h1 v) (cwV 0 S.2.2.2.2 (gV hTs hlk m_575 m_576 m_51 m_577) rfl rfl rfl (by decide +kernel) hR) ⟨fun a U g mk q => ⟨q.1, va_K.moved (u := U) (U := U.calling g mk a) (Vm.Alike.refl U.vm) q.2.1, q.2.2⟩, tw_recv hK hw, fun U hU hW => ⟨rfl, va_K.moved hW.alike hK, by rw [hU]; exact hw⟩⟩ rfl rfl hsz rfl (lv_room hrm) hdg hc)) (fun r e => by subst e; exact kk)

def f_T_character (v : List Int32) (x : Int32) : Int32 := if x < 0 then 32 else if nI (min v.length 40) ≤ x then 32 else v.getD x.toNatClampNeg 0
theorem nar_of {x : Int32} (h : vp_nar .char x = x) : narrow .char (.int x) = .int x := by
  have e : narrow .char (.int x) = .int (vp_nar .char x) := rfl
  rw [e, h]
theorem getD_mem {v : List Int32} {j : Nat} (h : j < v.length) : v.getD j 0 ∈ v := by
  rw [List.getD_eq_getElem?_getD, List.getElem?_eq_getElem h]
  exact List.getElem_mem h

set_option maxRecDepth 100000 in
set_option maxHeartbeats 4000000 in
theorem c_T_character (l : Launch) (adE adK adV : Nat → Nat) (dC : Nat → ClassId) (dI : Nat → Nat → Nat) (cC : ClassId) (h0 h1 : Nat) (v : List Int32) (x : Int32) : Met l y_T_character (Cond.code y_T_character b_T_character 2 (some .char) :: WT) ({ frames := 0, cells := 0, slots := 0, locals := 0 }) (va_Pc [.ref h0, .int x] (fun U => va_K (dC, dI) classes [(cC, .char)] U ∧ tw dC dI cC h0 h1 v U.heap)) (vp_Si (fun r => r = f_T_character v x)) 0 0 no := by
  refine va_MetF (cc := b_T_character) (maxL := 2) (ret := (some .char)) (by decide +kernel) rfl ?_
  intro p e s m args below meth c s₁ B hml hv
  obtain ⟨rfl, hK, hw⟩ := hv
  have hx := B.exec
  have hb := B.bytes
  have hr := B.returns
  have hts := atoms_spec (ws := (Cond.code y_T_character b_T_character 2 (some .char) :: WT)) B.pre
  have hT : ∀ w ∈ WT, w.before _ s = true := fun w h => hts w (inC w h)
  have hown : s.vm.findClass R_T = some m.cls := findClass_of_methodNamed B.named
  have hlocks := B.notSynchronized
  have hS : va_S no s.heap s.heap [] := va_S.rf
  have S : CallFix p m c b_T_character 2 s _ (Cond.code y_T_character b_T_character 2 (some .char) :: WT) R_T := ⟨hx, hb, hml, hown, hts⟩
  have hl := lv_entry ([.ref h0, .int x]) (n := 2) (Nat.le_of_ble_eq_true rfl)
  rw [lg_entry_eq]
  generalize (lg_sl ([.ref h0, .int x]) ++ List.replicate (2 - (lg_sl ([.ref h0, .int x])).length) Slot.unset).toArray = ls at hl ⊢
  have hl : lv_has ls 2 [(0, .ref h0), (1, .int x)] := hl
  obtain ⟨f, n, ht0, hP⟩ := hw
  refine lv_iload_n hx hb d_T_character_0 rfl (lv_at hl 1 rfl) ?_
  refine lv_if_lt (tgt := 30) hx hb d_T_character_1 (by decide) (fun h => ?_) (fun h => ?_)
  · refine lv_bipush (v := 32) hx hb d_T_character_30 (by decide) ?_
    exact W.zret (v := 32) hx hb hr rfl (fun t ht hW => ⟨32, rfl, by rw [f_T_character, if_pos h], ht⟩) (fun _ h => by cases h) d_T_character_32
  · refine lv_iload_n hx hb d_T_character_4 rfl (lv_at hl 1 rfl) ?_
    refine lv_aload_n hx hb d_T_character_5 rfl (lv_at hl 0 rfl) ?_
    refine va_get (D := (dC, dI)) (ci := 0) (v := .int n) (C := R_T) (T := F_T) (N := 2) hx hb hT i_T hown hK hP 0 rfl rfl 1 (by decide) (hT _ m_83) (fun _ h9 => h9) rfl d_T_character_6 ?_
    refine lv_icmp_ge (tgt := 30) hx hb d_T_character_9 (by decide) (fun h2 => ?_) (fun h2 => ?_)
    · refine lv_bipush (v := 32) hx hb d_T_character_30 (by decide) ?_
      exact W.zret (v := 32) hx hb hr rfl (fun t ht hW => ⟨32, rfl, by rw [f_T_character, if_neg h, if_pos (by rw [← ht0.1]; exact h2)], ht⟩) (fun _ h => by cases h) d_T_character_32
    · obtain ⟨j, hj, rfl⟩ := nI_of h
      have h4 : j < min v.length 40 := by rw [ht0.1] at h2; have := mt (nI_leI (a := min v.length 40) (b := j) (by omega) hj).mpr h2; omega
      have hfe : f (nI j).toNatClampNeg = v.getD (nI j).toNatClampNeg 0 := by rw [nI_clamp hj]; exact ht0.2.1 j h4
      refine lv_iload_n hx hb d_T_character_12 rfl (lv_at hl 1 rfl) ?_
      refine lv_aload_n hx hb d_T_character_13 rfl (lv_at hl 0 rfl) ?_
      refine va_get (D := (dC, dI)) (ci := 0) (v := .ref h1) (C := R_T) (T := F_T) (N := 2) hx hb hT i_T hown hK hP 0 rfl rfl 0 (by decide) (hT _ m_82) (fun _ h9 => h9) rfl d_T_character_14 ?_
      refine va_alen (D := (dC, dI)) (v := nI 40) hx hb hK hP 1 0 rfl rfl rfl d_T_character_17 ?_
      refine lv_icmp_ge (tgt := 30) hx hb d_T_character_18 (by decide) (fun h3 => absurd h3 (nI_ge (by omega) (by omega))) (fun _ => ?_)
      refine lv_aload_n hx hb d_T_character_21 rfl (lv_at hl 0 rfl) ?_
      refine va_get (D := (dC, dI)) (ci := 0) (v := .ref h1) (C := R_T) (T := F_T) (N := 2) hx hb hT i_T hown hK hP 0 rfl rfl 0 (by decide) (hT _ m_82) (fun _ h9 => h9) rfl d_T_character_22 ?_
      refine lv_iload_n hx hb d_T_character_25 rfl (lv_at hl 1 rfl) ?_
      refine va_cald (D := (dC, dI)) hx hb hK hP 1 0 rfl rfl (vp_in_nI (by omega) (by omega)) d_T_character_26 ?_
      refine lv_goto (tgt := 32) hx hb d_T_character_27 (by decide) ?_
      exact W.zret (v := f (nI j).toNatClampNeg) hx hb hr (by rw [hfe, nI_clamp hj]; exact nar_of (ht0.2.2 _ (getD_mem (by omega)))) (fun t ht hW => ⟨_, rfl, by rw [f_T_character, if_neg h, if_neg (by rw [← ht0.1]; exact h2), hfe], ht⟩) (fun _ h => by cases h) d_T_character_32

theorem call_T_character {p : Program} {l : Launch} {e : Env} {R : Room} {s : State} {m : MethodId} {args : Array Value} {below : List Frame} {meth : Method} {c : Code} {H : Heap} {locs : List Loc} {cells slots : Nat} {Q : State → Prop} {cc : ByteArray} {pc nL idx : Nat} {ls : Array Slot} {rest : List Value} {Ts : List Cond} {own : String} {dC : Nat → ClassId} {dI : Nat → Nat → Nat} {cC : ClassId} {h0 h1 : Nat} {v : List Int32} {x : Int32} (S : CallFix p m c cc nL s args Ts own) (hTs : ∀ w ∈ WT, w ∈ Ts) (hlk : Cond.methodLink own idx y_T_character ∈ WT) (hR : 0 + 1 ≤ R.frames ∧ 8 + (2 + 11) + 0 ≤ R.locals) (hsz : ls.size = nL) (hrm : (rest.map fun v => v.category).sum ≤ 8) (hdg : decode cc pc = .ok (.invokevirtual idx, 3)) (hc : cells ≤ R.cells ∧ slots ≤ R.slots) (hK : va_K (dC, dI) classes [(cC, .char)] s) (hw : tw dC dI cC h0 h1 v H) (kk : W p l e R s m args below meth c H locs cells slots Q (F0 m (pc + 3) ls (.int (f_T_character v x) :: rest))) : W p l e R s m args below meth c H locs cells slots Q (F0 m pc ls (.int x :: .ref h0 :: rest)) :=
  vp_callSi (va_Run.run (va_runV (As := [.int x]) (rest := rest) S (c_T_character l (fun _ => 0) (fun _ => 0) (fun _ => 0) dC dI cC h0 h1 v x) (cwV 1 S.2.2.2.2 (gV hTs hlk m_658 m_659 m_51 m_660) rfl rfl rfl (by decide +kernel) hR) ⟨fun a U g mk q => ⟨q.1, va_K.moved (u := U) (U := U.calling g mk a) (Vm.Alike.refl U.vm) q.2.1, q.2.2⟩, tw_recv hK hw, fun U hU hW => ⟨rfl, va_K.moved hW.alike hK, by rw [hU]; exact hw⟩⟩ rfl rfl hsz rfl (lv_room hrm) hdg hc)) (fun r e => by subst e; exact kk)
