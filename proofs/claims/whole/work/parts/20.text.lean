abbrev wT (h0 h1 : Nat) (cC : ClassId) (f : Nat → Int32) (n : Int32) : va_W := [(h0, .inr (0, [.ref h1, .int n])), (h1, .inl (cC, 40, .inl f))]
def aT (h0 h1 : Nat) : Nat → Prop := fun q => q = h0 ∨ q = h1
/-- the row and its length are those of the text v, cut at 40 -/
def tx (f : Nat → Int32) (n : Int32) (v : List Int32) : Prop := n = nI (min v.length 40) ∧ (∀ j, j < min v.length 40 → f j = v.getD j 0) ∧ ∀ x ∈ v, vp_nar .char x = x
def tw (dC : Nat → ClassId) (dI : Nat → Nat → Nat) (cC : ClassId) (h0 h1 : Nat) (v : List Int32) (H : Heap) : Prop := ∃ (f : Nat → Int32) (n : Int32), tx f n v ∧ va_P (dC, dI) classes (wT h0 h1 cC f n) H
def twU (adE adK adV : Nat → Nat) (dC : Nat → ClassId) (dI : Nat → Nat → Nat) (cC : ClassId) (h0 h1 : Nat) (v : List Int32) (U : State) : Prop := va_K (dC, dI) classes [(cC, .char)] U ∧ h0 ≠ h1 ∧ cx adE adK adV (aT h0 h1) U U.heap ∧ tw dC dI cC h0 h1 v U.heap
theorem wT_D {h0 h1 : Nat} (hne : h0 ≠ h1) {cC : ClassId} {f : Nat → Int32} {n : Int32} : va_D (aT h0 h1) (wT h0 h1 cC f n) := by
  refine ⟨fun i j p q hi hj e => ?_, fun k q hk => ?_⟩
  · match i, j, hi, hj with
    | 0, 0, _, _ => rfl
    | 1, 1, _, _ => rfl
    | 0, 1, hi, hj => cases hi; cases hj; exact absurd e hne
    | 1, 0, hi, hj => cases hi; cases hj; exact absurd e.symm hne
    | i + 2, _, hi, _ => simp [wT] at hi
    | 0, j + 2, _, hj => simp [wT] at hj
    | 1, j + 2, _, hj => simp [wT] at hj
  · match k, hk with
    | 0, hk => cases hk; exact Or.inl rfl
    | 1, hk => cases hk; exact Or.inr rfl
    | k + 2, hk => simp [wT] at hk
theorem tw_recv {dC : Nat → ClassId} {dI : Nat → Nat → Nat} {cC : ClassId} {h0 h1 : Nat} {v : List Int32} {s : State} {H : Heap} (hK : va_K (dC, dI) classes [(cC, .char)] s) (hw : tw dC dI cC h0 h1 v H) : ∃ cell : Cell, H[h0]? = some cell ∧ cell.vm.isStatics = false ∧ s.vm.findClass R_T = some cell.cls := by
  obtain ⟨f, n, -, hP⟩ := hw
  exact va_recv hK hP (ci := 0) (q0 := 0) rfl rfl
theorem twU.blind {adE adK adV : Nat → Nat} {dC : Nat → ClassId} {dI : Nat → Nat → Nat} {cC : ClassId} {h0 h1 : Nat} {v : List Int32} {U : State} {g : JFrame} {mk : MethodId} {a : Array Value} (h : twU adE adK adV dC dI cC h0 h1 v U) : twU adE adK adV dC dI cC h0 h1 v (U.calling g mk a) := ⟨va_K.moved (u := U) (U := U.calling g mk a) (Vm.Alike.refl U.vm) h.1, h.2.1, h.2.2.1.blind, h.2.2.2⟩
theorem twU.at {adE adK adV : Nat → Nat} {dC : Nat → ClassId} {dI : Nat → Nat → Nat} {cC : ClassId} {h0 h1 : Nat} {v : List Int32} {A0 : Nat → Prop} {s U : State} {H : Heap} {locs : List Loc} (hK : va_K (dC, dI) classes [(cC, .char)] s) (hne : h0 ≠ h1) (hC : cx adE adK adV A0 s s.heap) (hS : va_S A0 s.heap H locs) (hA : ∀ q, aT h0 h1 q → A0 q) (hw : tw dC dI cC h0 h1 v H) (hU : U.heap = H) (hW : s.WarmedH U.vm) : twU adE adK adV dC dI cC h0 h1 v U := ⟨va_K.moved hW.alike hK, hne, hC.at hS hA hU hW, by rw [hU]; exact hw⟩
theorem tw_eq {dC : Nat → ClassId} {dI : Nat → Nat → Nat} {cC : ClassId} {h0 h1 : Nat} {v v' : List Int32} {H : Heap} (e : v = v') (h : tw dC dI cC h0 h1 v H) : tw dC dI cC h0 h1 v' H := e ▸ h
theorem gd_l {v w : List Int32} {j : Nat} (h : j < v.length) : (v ++ w).getD j 0 = v.getD j 0 := by rw [List.getD_eq_getElem?_getD, List.getD_eq_getElem?_getD, List.getElem?_append_left h]
theorem gd_r {v : List Int32} {x : Int32} : (v ++ [x]).getD v.length 0 = x := by rw [List.getD_eq_getElem?_getD, List.getElem?_append_right (Nat.le_refl _), Nat.sub_self]; rfl
theorem tw_at {dC : Nat → ClassId} {dI : Nat → Nat → Nat} {cC : ClassId} {h0 h1 : Nat} {v : List Int32} {H : Heap} {t : State} (ht : t.heap = H) (h : tw dC dI cC h0 h1 v H) : tw dC dI cC h0 h1 v t.heap := by rw [ht]; exact h
theorem tx_in {v : List Int32} {x : Int32} (h : ∀ c ∈ v, vp_nar .char c = c) (hcc : vp_nar .char x = x) : ∀ c ∈ v ++ [x], vp_nar .char c = c := fun c hc => (List.mem_append.mp hc).elim (h c) (fun q => by rw [List.mem_singleton.mp q]; exact hcc)
theorem tx_full {f : Nat → Int32} {n : Int32} {v : List Int32} (h : tx f n v) (hl : 40 ≤ v.length) {x : Int32} (hcc : vp_nar .char x = x) : tx f n (v ++ [x]) := by
  obtain ⟨h1, h2, h3⟩ := h
  refine ⟨by rw [h1, List.length_append]; congr 1; omega, fun j hj => ?_, tx_in h3 hcc⟩
  rw [List.length_append] at hj
  rw [h2 j (by omega), gd_l (by omega)]
theorem tx_put {f : Nat → Int32} {n : Int32} {v : List Int32} (h : tx f n v) (hl : v.length < 40) {x : Int32} (hcc : vp_nar .char x = x) : tx (upd f n.toNatClampNeg x) (n + 1) (v ++ [x]) := by
  obtain ⟨h1, h2, h3⟩ := h
  have e : min v.length 40 = v.length := by omega
  have e2 : min (v ++ [x]).length 40 = v.length + 1 := by rw [List.length_append, List.length_singleton]; omega
  rw [e] at h1 h2
  have hc : n.toNatClampNeg = v.length := by rw [h1]; exact nI_clamp (by omega)
  refine ⟨by rw [e2, h1]; exact nI_1 _, fun j hj => ?_, tx_in h3 hcc⟩
  rw [e2] at hj
  rw [hc]
  by_cases hj2 : j = v.length
  · subst hj2
    rw [pk_us, gd_r]
  · rw [pk_un hj2, h2 j (by omega), gd_l (by omega)]

set_option maxRecDepth 100000 in
set_option maxHeartbeats 4000000 in
theorem c_T_put (l : Launch) (adE adK adV : Nat → Nat) (dC : Nat → ClassId) (dI : Nat → Nat → Nat) (cC : ClassId) (h0 h1 : Nat) (v : List Int32) (x : Int32) : Met l y_T_put (Cond.code y_T_put b_T_put 2 none :: WT) ({ frames := 0, cells := 0, slots := 0, locals := 0 }) (va_Pc [.ref h0, .int x] (fun U => twU adE adK adV dC dI cC h0 h1 v U ∧ vp_nar .char x = x)) (va_Qv (fun _ : Unit => True) (fun _ t => tw dC dI cC h0 h1 (v ++ [x]) t.heap) (aT h0 h1)) 0 0 (aT h0 h1) := by
  refine va_MetF (cc := b_T_put) (maxL := 2) (ret := none) (by decide +kernel) rfl ?_
  intro p e s m args below meth c s₁ B hml hv
  obtain ⟨rfl, ⟨hK, hne, hC, hw⟩, hcc⟩ := hv
  have hx := B.exec
  have hb := B.bytes
  have hr := B.returns
  have hts := atoms_spec (ws := (Cond.code y_T_put b_T_put 2 none :: WT)) B.pre
  have hT : ∀ w ∈ WT, w.before _ s = true := fun w h => hts w (inC w h)
  have hown : s.vm.findClass R_T = some m.cls := findClass_of_methodNamed B.named
  have hlocks := B.notSynchronized
  have hS : va_S (aT h0 h1) s.heap s.heap [] := va_S.rf
  have S : CallFix p m c b_T_put 2 s _ (Cond.code y_T_put b_T_put 2 none :: WT) R_T := ⟨hx, hb, hml, hown, hts⟩
  have hl := lv_entry ([.ref h0, .int x]) (n := 2) (Nat.le_of_ble_eq_true rfl)
  rw [lg_entry_eq]
  generalize (lg_sl ([.ref h0, .int x]) ++ List.replicate (2 - (lg_sl ([.ref h0, .int x])).length) Slot.unset).toArray = ls at hl ⊢
  have hl : lv_has ls 2 [(0, .ref h0), (1, .int x)] := hl
  have hA : ∀ q, aT h0 h1 q → aT h0 h1 q := fun _ h => h
  obtain ⟨f, n, ht0, hP⟩ := hw
  have hn := ht0.1
  have hD : va_D (aT h0 h1) (wT h0 h1 cC f n) := wT_D hne
  refine lv_aload_n hx hb d_T_put_0 rfl (lv_at hl 0 rfl) ?_
  refine va_get (D := (dC, dI)) (ci := 0) (v := .int n) (C := R_T) (T := F_T) (N := 2) hx hb hT i_T hown hK hP 0 rfl rfl 1 (by decide) (hT _ m_83) (fun _ h9 => h9) rfl d_T_put_1 ?_
  refine lv_if_lt (tgt := 39) hx hb d_T_put_4 (by decide) (fun h => absurd h (by rw [hn]; exact nI_pos (by omega))) (fun _ => ?_)
  refine lv_aload_n hx hb d_T_put_7 rfl (lv_at hl 0 rfl) ?_
  refine va_get (D := (dC, dI)) (ci := 0) (v := .int n) (C := R_T) (T := F_T) (N := 2) hx hb hT i_T hown hK hP 0 rfl rfl 1 (by decide) (hT _ m_83) (fun _ h9 => h9) rfl d_T_put_8 ?_
  refine lv_aload_n hx hb d_T_put_11 rfl (lv_at hl 0 rfl) ?_
  refine va_get (D := (dC, dI)) (ci := 0) (v := .ref h1) (C := R_T) (T := F_T) (N := 2) hx hb hT i_T hown hK hP 0 rfl rfl 0 (by decide) (hT _ m_82) (fun _ h9 => h9) rfl d_T_put_12 ?_
  refine va_alen (D := (dC, dI)) (v := nI 40) hx hb hK hP 1 0 rfl rfl rfl d_T_put_15 ?_
  refine lv_icmp_ge (tgt := 39) hx hb d_T_put_16 (by decide) (fun h => ?_) (fun h => ?_)
  · have hl40 : 40 ≤ v.length := by rw [hn] at h; have := (nI_leI (by omega) (by omega)).mp h; omega
    exact W.vret hx hb hr (fun t ht hW => ⟨⟨(), rfl, trivial, tw_at ht (⟨f, n, tx_full ht0 hl40 hcc, hP⟩)⟩, hS.F ht⟩) hS.2.2 d_T_put_39
  · have hl40 : v.length < 40 := by rw [hn] at h; have := mt (nI_leI (a := 40) (b := min v.length 40) (by omega) (by omega)).mpr h; omega
    refine lv_aload_n hx hb d_T_put_19 rfl (lv_at hl 0 rfl) ?_
    refine va_get (D := (dC, dI)) (ci := 0) (v := .ref h1) (C := R_T) (T := F_T) (N := 2) hx hb hT i_T hown hK hP 0 rfl rfl 0 (by decide) (hT _ m_82) (fun _ h9 => h9) rfl d_T_put_20 ?_
    refine lv_aload_n hx hb d_T_put_23 rfl (lv_at hl 0 rfl) ?_
    refine va_get (D := (dC, dI)) (ci := 0) (v := .int n) (C := R_T) (T := F_T) (N := 2) hx hb hT i_T hown hK hP 0 rfl rfl 1 (by decide) (hT _ m_83) (fun _ h9 => h9) rfl d_T_put_24 ?_
    refine lv_iload_n hx hb d_T_put_27 rfl (lv_at hl 1 rfl) ?_
    refine va_cast (D := (dC, dI)) hx hb hK hP hD hS 1 0 rfl rfl (by rw [hn]; exact vp_in_nI (by omega) (by omega)) d_T_put_28 (fun H locs hP hD hS => ?_)
    rw [hcc] at hP hD
    have hP : va_P (dC, dI) classes (wT h0 h1 cC (upd f n.toNatClampNeg x) n) H := hP
    have hD : va_D (aT h0 h1) (wT h0 h1 cC (upd f n.toNatClampNeg x) n) := hD
    refine lv_aload_n hx hb d_T_put_29 rfl (lv_at hl 0 rfl) ?_
    refine lv_dup hx hb d_T_put_30 rfl ?_
    refine va_get (D := (dC, dI)) (ci := 0) (v := .int n) (C := R_T) (T := F_T) (N := 2) hx hb hT i_T hown hK hP 0 rfl rfl 1 (by decide) (hT _ m_83) (fun _ h9 => h9) rfl d_T_put_31 ?_
    refine lv_iconst (v := 1) hx hb d_T_put_34 (by decide) ?_
    refine lv_iadd hx hb d_T_put_35 ?_
    refine va_put (D := (dC, dI)) (ci := 0) (v := .int (n + 1)) (ty := .int) (C := R_T) (T := F_T) (N := 2) hx hb hT i_T ft_T ft_T_ok n_T hown hK hP hD hS 0 rfl rfl 1 (by decide) (hT _ m_83) (fun _ h9 => h9) rfl (by decide +kernel) rfl rfl (Nat.le_of_ble_eq_true rfl) d_T_put_36 (fun H locs hP hD hS => ?_)
    exact W.vret hx hb hr (fun t ht hW => ⟨⟨(), rfl, trivial, tw_at ht (⟨_, _, tx_put ht0 hl40 hcc, hP⟩)⟩, hS.F ht⟩) hS.2.2 d_T_put_39

theorem call_T_put {p : Program} {l : Launch} {e : Env} {R : Room} {s : State} {m : MethodId} {args : Array Value} {below : List Frame} {meth : Method} {c : Code} {H : Heap} {locs : List Loc} {cells slots : Nat} {Q : State → Prop} {cc : ByteArray} {pc nL idx : Nat} {ls : Array Slot} {rest : List Value} {Ts : List Cond} {own : String} {adE adK adV : Nat → Nat} {A0 : Nat → Prop} {dC : Nat → ClassId} {dI : Nat → Nat → Nat} {cC : ClassId} {h0 h1 : Nat} {v : List Int32} {x : Int32} (S : CallFix p m c cc nL s args Ts own) (hTs : ∀ w ∈ WT, w ∈ Ts) (h1' : Cond.methodLink own idx y_T_put ∈ WT) (hR : 0 + 1 ≤ R.frames ∧ 8 + (2 + 11) + 0 ≤ R.locals) (hsz : ls.size = nL) (hrm : (rest.map fun v => v.category).sum ≤ 8) (hdg : decode cc pc = .ok (.invokevirtual idx, 3)) (hc : cells ≤ R.cells ∧ slots ≤ R.slots) (hK : va_K (dC, dI) classes [(cC, .char)] s) (hne : h0 ≠ h1) (hC : cx adE adK adV A0 s s.heap) (hS : va_S A0 s.heap H locs) (hA : ∀ q, aT h0 h1 q → A0 q) (hw : tw dC dI cC h0 h1 v H) (hcc : vp_nar .char x = x) (kk : ∀ (H1 : Heap) (locs1 : List Loc), tw dC dI cC h0 h1 (v ++ [x]) H1 → va_S A0 s.heap H1 locs1 → (H.size ≤ H1.size ∧ ∀ q : Nat, q < H.size → ¬ aT h0 h1 q → H1[q]? = H[q]?) → W p l e R s m args below meth c H1 locs1 cells slots Q (F0 m (pc + 3) ls rest)) : W p l e R s m args below meth c H locs cells slots Q (F0 m pc ls (.int x :: .ref h0 :: rest)) :=
  va_callv (va_runV (As := [.int x]) (rest := rest) S (c_T_put l adE adK adV dC dI cC h0 h1 v x) (cwV 1 S.2.2.2.2 (gV hTs h1' m_457 m_2 m_51 m_458) rfl rfl rfl (by decide +kernel) hR) ⟨fun a U g mk q => ⟨q.1, ⟨q.2.1.blind, q.2.2⟩⟩, tw_recv hK hw, fun U hU hW => ⟨rfl, ⟨twU.at hK hne hC hS hA hw hU hW, hcc⟩⟩⟩ rfl rfl hsz rfl (lv_room hrm) hdg hc) hS (fun q _ h => hA q h) hA (fun u t H1 locs1 ht hvm hp hB hz hk hS1 => kk H1 locs1 (by rw [← ht]; exact hB) hS1 ⟨hz, hk⟩)

theorem sTx_vn : ∀ k, k < 159 → ∀ j, j < (sTx k).length → vp_nar .char ((sTx k).getD j 0) = (sTx k).getD j 0 := by decide +kernel
theorem tk_succ {l : List Int32} {i : Nat} (h : i < l.length) : l.take (i + 1) = l.take i ++ [l.getD i 0] := by
  rw [List.take_succ_eq_append_getElem h, List.getD_eq_getElem?_getD, List.getElem?_eq_getElem h]; rfl
theorem nI_inc (i : Nat) : nI i + Int32.ofInt 1 = nI (i + 1) := nI_1 i

set_option maxRecDepth 100000 in
set_option maxHeartbeats 4000000 in
theorem lp_T_word {p : Program} {l : Launch} {e : Env} {R : Room} {s : State} {m : MethodId} {args : Array Value} {below : List Frame} {meth : Method} {c : Code} {cells slots : Nat} {Q : State → Prop} {Ts : List Cond} {adE adK adV : Nat → Nat} {A0 : Nat → Prop} {dC : Nat → ClassId} {dI : Nat → Nat → Nat} {cC : ClassId} {h0 h1 : Nat} {v : List Int32} {k : Nat} (S : CallFix p m c b_T_word 3 s args Ts R_T) (hTs : ∀ w ∈ WT, w ∈ Ts) (hfr : 4 ≤ R.frames) (hlo : 85 ≤ R.locals) (hc : cells ≤ R.cells ∧ slots ≤ R.slots) (hK : va_K (dC, dI) classes [(cC, .char)] s) (hne : h0 ≠ h1) (hC : cx adE adK adV A0 s s.heap) (hA : ∀ q, aT h0 h1 q → A0 q) (hk : k < 159)
    (kk : ∀ (H : Heap) (locs : List Loc) (ls : Array Slot), tw dC dI cC h0 h1 (v ++ sTx k) H → va_S A0 s.heap H locs → W p l e R s m args below meth c H locs cells slots Q (F0 m 25 ls [])) :
    ∀ (n i : Nat), i + n = (sTx k).length → ∀ (H : Heap) (locs : List Loc) (ls : Array Slot), tw dC dI cC h0 h1 (v ++ (sTx k).take i) H → va_S A0 s.heap H locs → lv_has ls 3 [(2, .int (nI i)), (0, .ref h0), (1, .ref (adK k))] → W p l e R s m args below meth c H locs cells slots Q (F0 m 2 ls []) := by
  have hlt := sTx_lt k hk
  have hx := S.1
  have hb := S.2.1
  have hown := S.2.2.2.1
  intro n
  induction n with
  | zero =>
    intro i hi H locs ls hw hS hl
    refine lv_iload_n hx hb d_T_word_2 rfl (lv_at hl 0 rfl) ?_
    refine lv_aload_n hx hb d_T_word_3 rfl (lv_at hl 2 rfl) ?_
    refine call_JS_length S hTs m_407 ⟨by omega, by omega⟩ hl.1 (Nat.le_of_ble_eq_true rfl) d_T_word_4 hc hC hS hk ?_
    refine lv_icmp_ge (tgt := 25) hx hb d_T_word_7 (by decide) (fun _ => ?_) (fun h => absurd (nI_le (by omega) (by omega)) h)
    exact kk H locs ls (tw_eq (by rw [List.take_of_length_le (by omega)]) hw) hS
  | succ n ih =>
    intro i hi H locs ls hw hS hl
    have hin : i < (sTx k).length := by omega
    refine lv_iload_n hx hb d_T_word_2 rfl (lv_at hl 0 rfl) ?_
    refine lv_aload_n hx hb d_T_word_3 rfl (lv_at hl 2 rfl) ?_
    refine call_JS_length S hTs m_407 ⟨by omega, by omega⟩ hl.1 (Nat.le_of_ble_eq_true rfl) d_T_word_4 hc hC hS hk ?_
    refine lv_icmp_ge (tgt := 25) hx hb d_T_word_7 (by decide) (fun h => absurd h (nI_ge (by omega) (by omega))) (fun _ => ?_)
    refine lv_aload_n hx hb d_T_word_10 rfl (lv_at hl 1 rfl) ?_
    refine lv_aload_n hx hb d_T_word_11 rfl (lv_at hl 2 rfl) ?_
    refine lv_iload_n hx hb d_T_word_12 rfl (lv_at hl 0 rfl) ?_
    refine call_JS_charAt S hTs m_417 ⟨by omega, by omega⟩ hl.1 (Nat.le_of_ble_eq_true rfl) d_T_word_13 hc hC hS hk hin ?_
    refine call_T_put S hTs m_455 ⟨by omega, by omega⟩ hl.1 (Nat.le_of_ble_eq_true rfl) d_T_word_16 hc hK hne hC hS hA hw (sTx_vn k hk i hin) (fun H locs hw hS _ => ?_)
    refine lv_iinc (v := nI (i + 1)) (lv' := [(2, .int (nI (i + 1))), (0, .ref h0), (1, .ref (adK k))]) hx hb d_T_word_19 hl (k := 0) rfl (nI_inc i) (by decide) rfl (fun ls hl => ?_)
    refine lv_goto (tgt := 2) hx hb d_T_word_22 (by decide) ?_
    exact ih (i + 1) (by omega) H locs ls (tw_eq (by rw [tk_succ hin, List.append_assoc]) hw) hS hl

set_option maxRecDepth 100000 in
set_option maxHeartbeats 4000000 in
theorem c_T_word (l : Launch) (adE adK adV : Nat → Nat) (dC : Nat → ClassId) (dI : Nat → Nat → Nat) (cC : ClassId) (h0 h1 : Nat) (v : List Int32) (k : Nat) : Met l y_T_word (Cond.code y_T_word b_T_word 3 none :: WT) ({ frames := 4, cells := 0, slots := 0, locals := 85 }) (va_Pc [.ref h0, .ref (adK k)] (fun U => twU adE adK adV dC dI cC h0 h1 v U ∧ k < 159)) (va_Qv (fun _ : Unit => True) (fun _ t => tw dC dI cC h0 h1 (v ++ sTx k) t.heap) (aT h0 h1)) 0 0 (aT h0 h1) := by
  refine va_MetF (cc := b_T_word) (maxL := 3) (ret := none) (by decide +kernel) rfl ?_
  intro p e s m args below meth c s₁ B hml hv
  obtain ⟨rfl, ⟨hK, hne, hC, hw⟩, hk⟩ := hv
  have hx := B.exec
  have hb := B.bytes
  have hr := B.returns
  have hts := atoms_spec (ws := (Cond.code y_T_word b_T_word 3 none :: WT)) B.pre
  have hT : ∀ w ∈ WT, w.before _ s = true := fun w h => hts w (inC w h)
  have hown : s.vm.findClass R_T = some m.cls := findClass_of_methodNamed B.named
  have hlocks := B.notSynchronized
  have hS : va_S (aT h0 h1) s.heap s.heap [] := va_S.rf
  have S : CallFix p m c b_T_word 3 s _ (Cond.code y_T_word b_T_word 3 none :: WT) R_T := ⟨hx, hb, hml, hown, hts⟩
  have hl := lv_entry ([.ref h0, .ref (adK k)]) (n := 3) (Nat.le_of_ble_eq_true rfl)
  rw [lg_entry_eq]
  generalize (lg_sl ([.ref h0, .ref (adK k)]) ++ List.replicate (3 - (lg_sl ([.ref h0, .ref (adK k)])).length) Slot.unset).toArray = ls at hl ⊢
  have hl : lv_has ls 3 [(0, .ref h0), (1, .ref (adK k))] := hl
  have hA : ∀ q, aT h0 h1 q → aT h0 h1 q := fun _ h => h
  refine lv_iconst (v := 0) hx hb d_T_word_0 (by decide) ?_
  refine lv_istore_n (lv' := [(2, .int 0), (0, .ref h0), (1, .ref (adK k))]) hx hb d_T_word_1 rfl hl (by decide) rfl (fun ls hl => ?_)
  refine lp_T_word S inC (Nat.le_of_ble_eq_true rfl) (Nat.le_of_ble_eq_true rfl) ⟨(Nat.le_of_ble_eq_true rfl), (Nat.le_of_ble_eq_true rfl)⟩ hK hne hC hA hk (fun H locs ls hw hS => ?_) (sTx k).length 0 (by omega) _ _ ls (tw_eq (by rw [List.take_zero, List.append_nil]) hw) hS hl
  exact W.vret hx hb hr (fun t ht hW => ⟨⟨(), rfl, trivial, tw_at ht (hw)⟩, hS.F ht⟩) hS.2.2 d_T_word_25

theorem call_T_word {p : Program} {l : Launch} {e : Env} {R : Room} {s : State} {m : MethodId} {args : Array Value} {below : List Frame} {meth : Method} {c : Code} {H : Heap} {locs : List Loc} {cells slots : Nat} {Q : State → Prop} {cc : ByteArray} {pc nL idx : Nat} {ls : Array Slot} {rest : List Value} {Ts : List Cond} {own : String} {adE adK adV : Nat → Nat} {A0 : Nat → Prop} {dC : Nat → ClassId} {dI : Nat → Nat → Nat} {cC : ClassId} {h0 h1 : Nat} {v : List Int32} {k : Nat} (S : CallFix p m c cc nL s args Ts own) (hTs : ∀ w ∈ WT, w ∈ Ts) (h1' : Cond.methodLink own idx y_T_word ∈ WT) (hR : 4 + 1 ≤ R.frames ∧ 8 + (3 + 11) + 85 ≤ R.locals) (hsz : ls.size = nL) (hrm : (rest.map fun v => v.category).sum ≤ 8) (hdg : decode cc pc = .ok (.invokevirtual idx, 3)) (hc : cells ≤ R.cells ∧ slots ≤ R.slots) (hK : va_K (dC, dI) classes [(cC, .char)] s) (hne : h0 ≠ h1) (hC : cx adE adK adV A0 s s.heap) (hS : va_S A0 s.heap H locs) (hA : ∀ q, aT h0 h1 q → A0 q) (hw : tw dC dI cC h0 h1 v H) (hk : k < 159) (kk : ∀ (H1 : Heap) (locs1 : List Loc), tw dC dI cC h0 h1 (v ++ sTx k) H1 → va_S A0 s.heap H1 locs1 → (H.size ≤ H1.size ∧ ∀ q : Nat, q < H.size → ¬ aT h0 h1 q → H1[q]? = H[q]?) → W p l e R s m args below meth c H1 locs1 cells slots Q (F0 m (pc + 3) ls rest)) : W p l e R s m args below meth c H locs cells slots Q (F0 m pc ls (.ref (adK k) :: .ref h0 :: rest)) :=
  va_callv (va_runV (As := [.ref (adK k)]) (rest := rest) S (c_T_word l adE adK adV dC dI cC h0 h1 v k) (cwV 1 S.2.2.2.2 (gV hTs h1' m_405 m_1 m_51 m_406) rfl rfl rfl (by decide +kernel) hR) ⟨fun a U g mk q => ⟨q.1, ⟨q.2.1.blind, q.2.2⟩⟩, tw_recv hK hw, fun U hU hW => ⟨rfl, ⟨twU.at hK hne hC hS hA hw hU hW, hk⟩⟩⟩ rfl rfl hsz rfl (lv_room hrm) hdg hc) hS (fun q _ h => hA q h) hA (fun u t H1 locs1 ht hvm hp hB hz hk hS1 => kk H1 locs1 (by rw [← ht]; exact hB) hS1 ⟨hz, hk⟩)

def dch (v : Int64) (k : Nat) : Int32 := ((48 + (v / lN (10 ^ k) - v / lN (10 ^ k) / 10 * 10)).toInt32.toUInt32 % 65536).toInt32
def dgs : Nat → Int64 → List Int32
  | 0, _ => []
  | k + 1, v => (if lN (10 ^ k) ≤ v ∨ k = 0 then [dch v k] else []) ++ dgs k v
def f_T_digits (v : Int64) : List Int32 := dgs 10 v
theorem p10 {k : Nat} (h : k ≤ 9) : 0 < 10 ^ k ∧ 10 ^ k < 2 ^ 31 := ⟨Nat.pow_pos (by decide), Nat.lt_of_le_of_lt (Nat.pow_le_pow_right (by decide) h) (by decide)⟩
theorem p10d (k : Nat) : 10 ^ (k + 1) / 10 = 10 ^ k := by rw [Nat.pow_succ]; exact Nat.mul_div_cancel _ (by decide)

set_option maxRecDepth 100000 in
set_option maxHeartbeats 4000000 in
theorem lp_T_digits {p : Program} {l : Launch} {e : Env} {R : Room} {s : State} {m : MethodId} {args : Array Value} {below : List Frame} {meth : Method} {c : Code} {cells slots : Nat} {Q : State → Prop} {Ts : List Cond} {adE adK adV : Nat → Nat} {A0 : Nat → Prop} {dC : Nat → ClassId} {dI : Nat → Nat → Nat} {cC : ClassId} {h0 h1 : Nat} {v : List Int32} {x : Int64} (S : CallFix p m c b_T_digits 5 s args Ts R_T) (hTs : ∀ w ∈ WT, w ∈ Ts) (hT : ∀ w ∈ WT, w.before args s = true) (hfr : 1 ≤ R.frames) (hlo : 21 ≤ R.locals) (hc : cells ≤ R.cells ∧ slots ≤ R.slots) (hK : va_K (dC, dI) classes [(cC, .char)] s) (hne : h0 ≠ h1) (hC : cx adE adK adV A0 s s.heap) (hA : ∀ q, aT h0 h1 q → A0 q)
    (kk : ∀ (H : Heap) (locs : List Loc) (ls : Array Slot), tw dC dI cC h0 h1 (v ++ f_T_digits x) H → va_S A0 s.heap H locs → W p l e R s m args below meth c H locs cells slots Q (F0 m 48 ls [])) :
    ∀ (r : Nat), r ≤ 10 → ∀ (z : List Int32), z ++ dgs r x = v ++ f_T_digits x → ∀ (H : Heap) (locs : List Loc) (ls : Array Slot), tw dC dI cC h0 h1 z H → va_S A0 s.heap H locs → lv_has ls 5 [(3, .long (lN (10 ^ r / 10))), (0, .ref h0), (1, .long x)] → W p l e R s m args below meth c H locs cells slots Q (F0 m 4 ls []) := by
  have hx := S.1
  have hb := S.2.1
  have hown := S.2.2.2.1
  intro r
  induction r with
  | zero =>
    intro _ z hz H locs ls hw hS hl
    refine lv_lload_n hx hb d_T_digits_4 rfl (lv_at hl 0 rfl) ?_
    refine lv_lconst (v := 0) hx hb d_T_digits_5 (by decide) ?_
    refine W.lcmp hx hb d_T_digits_6 ?_
    refine lv_if_le (tgt := 48) hx hb d_T_digits_7 (by decide) (fun _ => ?_) (fun h => absurd (by decide) h)
    exact kk H locs ls (tw_eq (by rw [← hz, dgs, List.append_nil]) hw) hS
  | succ k ih =>
    intro hr z hz H locs ls hw hS hl
    obtain ⟨hp0, hp1⟩ := p10 (k := k) (by omega)
    rw [p10d] at hl
    have nx : ∀ (z' : List Int32), z' ++ dgs k x = v ++ f_T_digits x → ∀ (H : Heap) (locs : List Loc), tw dC dI cC h0 h1 z' H → va_S A0 s.heap H locs → W p l e R s m args below meth c H locs cells slots Q (F0 m 39 ls []) := by
      intro z' hz' H locs hw hS
      refine lv_lload_n hx hb d_T_digits_39 rfl (lv_at hl 0 rfl) ?_
      refine lv_ldc2 (v := 10) hx hb hown (hT _ m_526) d_T_digits_40 ?_
      refine lv_ldiv hx hb d_T_digits_43 (by decide) ?_
      refine lv_topl (fun y ey => ?_)
      have ey2 : y = lN (10 ^ k / 10) := by rw [ey]; exact pk_lDiv (a := 10 ^ k) (b := 10) (by omega) (by decide) (by decide)
      refine lv_lstore_n (lv' := [(3, .long y), (0, .ref h0), (1, .long x)]) hx hb d_T_digits_44 rfl hl (by decide) rfl (fun ls hl => ?_)
      refine lv_goto (tgt := 4) hx hb d_T_digits_45 (by decide) ?_
      rw [ey2] at hl
      exact ih (by omega) z' hz' H locs ls hw hS hl
    have pr : (lN (10 ^ k) ≤ x ∨ k = 0) → W p l e R s m args below meth c H locs cells slots Q (F0 m 22 ls []) := by
      intro hcnd
      refine lv_aload_n hx hb d_T_digits_22 rfl (lv_at hl 1 rfl) ?_
      refine lv_ldc2 (v := 48) hx hb hown (hT _ m_525) d_T_digits_23 ?_
      refine lv_lload_n hx hb d_T_digits_26 rfl (lv_at hl 2 rfl) ?_
      refine lv_lload_n hx hb d_T_digits_27 rfl (lv_at hl 0 rfl) ?_
      refine lv_ldiv hx hb d_T_digits_28 (fun h => absurd ((pk_lEQ (a := 10 ^ k) (b := 0) (by omega) (by decide)).mp h) (by omega)) ?_
      refine lv_ldc2 (v := 10) hx hb hown (hT _ m_526) d_T_digits_29 ?_
      refine lv_lrem hx hb d_T_digits_32 (by decide) ?_
      refine lv_ladd hx hb d_T_digits_33 ?_
      refine lv_l2i (v := (48 + (x / lN (10 ^ k) - x / lN (10 ^ k) / 10 * 10)).toInt32) hx hb d_T_digits_34 rfl ?_
      refine lv_i2c (v := dch x k) hx hb d_T_digits_35 rfl ?_
      refine call_T_put S hTs m_455 ⟨by omega, by omega⟩ hl.1 (Nat.le_of_ble_eq_true rfl) d_T_digits_36 hc hK hne hC hS hA hw (pk_vc _) (fun H locs hw hS _ => ?_)
      exact nx _ (by rw [← hz, dgs, if_pos hcnd, List.append_assoc]) H locs hw hS
    refine lv_lload_n hx hb d_T_digits_4 rfl (lv_at hl 0 rfl) ?_
    refine lv_lconst (v := 0) hx hb d_T_digits_5 (by decide) ?_
    refine W.lcmp hx hb d_T_digits_6 ?_
    refine lv_if_le (tgt := 48) hx hb d_T_digits_7 (by decide) (fun h => absurd ((pk_lLE (a := 10 ^ k) (b := 0) (by omega) (by decide)).mp ((lg_cmp_le _ _).mp h)) (by omega)) (fun _ => ?_)
    refine lv_lload_n hx hb d_T_digits_10 rfl (lv_at hl 2 rfl) ?_
    refine lv_lload_n hx hb d_T_digits_11 rfl (lv_at hl 0 rfl) ?_
    refine W.lcmp hx hb d_T_digits_12 ?_
    refine lv_if_ge (tgt := 22) hx hb d_T_digits_13 (by decide) (fun h => pr (Or.inl ((lg_cmp_ge _ _).mp h))) (fun h => ?_)
    have hn : ¬ lN (10 ^ k) ≤ x := fun q => h ((lg_cmp_ge _ _).mpr q)
    refine lv_lload_n hx hb d_T_digits_16 rfl (lv_at hl 0 rfl) ?_
    refine lv_lconst (v := 1) hx hb d_T_digits_17 (by decide) ?_
    refine W.lcmp hx hb d_T_digits_18 ?_
    refine lv_if_ne (tgt := 39) hx hb d_T_digits_19 (by decide) (fun h2 => ?_) (fun h2 => ?_)
    · have hk0 : ¬ k = 0 := fun q => h2 ((lg_cmp_eq _ _).mpr (by rw [q]; rfl))
      exact nx z (by rw [← hz, dgs, if_neg (fun q => q.elim hn hk0), List.nil_append]) H locs hw hS
    · have h3 := (pk_lEQ (a := 10 ^ k) (b := 1) (by omega) (by decide)).mp ((lg_cmp_eq _ _).mp h2)
      refine pr (Or.inr ?_)
      rcases Nat.eq_zero_or_pos k with q | q
      · exact q
      · have := Nat.pow_le_pow_right (n := 10) (by decide) q
        omega

set_option maxRecDepth 100000 in
set_option maxHeartbeats 4000000 in
theorem c_T_digits (l : Launch) (adE adK adV : Nat → Nat) (dC : Nat → ClassId) (dI : Nat → Nat → Nat) (cC : ClassId) (h0 h1 : Nat) (v : List Int32) (x : Int64) : Met l y_T_digits (Cond.code y_T_digits b_T_digits 5 none :: WT) ({ frames := 1, cells := 0, slots := 0, locals := 21 }) (va_Pc [.ref h0, .long x] (fun U => twU adE adK adV dC dI cC h0 h1 v U)) (va_Qv (fun _ : Unit => True) (fun _ t => tw dC dI cC h0 h1 (v ++ f_T_digits x) t.heap) (aT h0 h1)) 0 0 (aT h0 h1) := by
  refine va_MetF (cc := b_T_digits) (maxL := 5) (ret := none) (by decide +kernel) rfl ?_
  intro p e s m args below meth c s₁ B hml hv
  obtain ⟨rfl, ⟨hK, hne, hC, hw⟩⟩ := hv
  have hx := B.exec
  have hb := B.bytes
  have hr := B.returns
  have hts := atoms_spec (ws := (Cond.code y_T_digits b_T_digits 5 none :: WT)) B.pre
  have hT : ∀ w ∈ WT, w.before _ s = true := fun w h => hts w (inC w h)
  have hown : s.vm.findClass R_T = some m.cls := findClass_of_methodNamed B.named
  have hlocks := B.notSynchronized
  have hS : va_S (aT h0 h1) s.heap s.heap [] := va_S.rf
  have S : CallFix p m c b_T_digits 5 s _ (Cond.code y_T_digits b_T_digits 5 none :: WT) R_T := ⟨hx, hb, hml, hown, hts⟩
  have hl := lv_entry ([.ref h0, .long x]) (n := 5) (Nat.le_of_ble_eq_true rfl)
  rw [lg_entry_eq]
  generalize (lg_sl ([.ref h0, .long x]) ++ List.replicate (5 - (lg_sl ([.ref h0, .long x])).length) Slot.unset).toArray = ls at hl ⊢
  have hl : lv_has ls 5 [(0, .ref h0), (1, .long x)] := hl
  have hA : ∀ q, aT h0 h1 q → aT h0 h1 q := fun _ h => h
  refine lv_ldc2 (v := 1000000000) hx hb hown (hT _ m_524) d_T_digits_0 ?_
  refine lv_lstore_n (lv' := [(3, .long (lN (10 ^ 10 / 10))), (0, .ref h0), (1, .long x)]) hx hb d_T_digits_3 rfl hl (by decide) rfl (fun ls hl => ?_)
  refine lp_T_digits S inC hT (Nat.le_of_ble_eq_true rfl) (Nat.le_of_ble_eq_true rfl) ⟨(Nat.le_of_ble_eq_true rfl), (Nat.le_of_ble_eq_true rfl)⟩ hK hne hC hA (fun H locs ls hw hS => ?_) 10 (Nat.le_refl _) v rfl _ _ ls hw hS hl
  exact W.vret hx hb hr (fun t ht hW => ⟨⟨(), rfl, trivial, tw_at ht (hw)⟩, hS.F ht⟩) hS.2.2 d_T_digits_48

theorem call_T_digits {p : Program} {l : Launch} {e : Env} {R : Room} {s : State} {m : MethodId} {args : Array Value} {below : List Frame} {meth : Method} {c : Code} {H : Heap} {locs : List Loc} {cells slots : Nat} {Q : State → Prop} {cc : ByteArray} {pc nL idx : Nat} {ls : Array Slot} {rest : List Value} {Ts : List Cond} {own : String} {adE adK adV : Nat → Nat} {A0 : Nat → Prop} {dC : Nat → ClassId} {dI : Nat → Nat → Nat} {cC : ClassId} {h0 h1 : Nat} {v : List Int32} {x : Int64} (S : CallFix p m c cc nL s args Ts own) (hTs : ∀ w ∈ WT, w ∈ Ts) (h1' : Cond.methodLink own idx y_T_digits ∈ WT) (hR : 1 + 1 ≤ R.frames ∧ 8 + (5 + 11) + 21 ≤ R.locals) (hsz : ls.size = nL) (hrm : (rest.map fun v => v.category).sum ≤ 8) (hdg : decode cc pc = .ok (.invokevirtual idx, 3)) (hc : cells ≤ R.cells ∧ slots ≤ R.slots) (hK : va_K (dC, dI) classes [(cC, .char)] s) (hne : h0 ≠ h1) (hC : cx adE adK adV A0 s s.heap) (hS : va_S A0 s.heap H locs) (hA : ∀ q, aT h0 h1 q → A0 q) (hw : tw dC dI cC h0 h1 v H)  (kk : ∀ (H1 : Heap) (locs1 : List Loc), tw dC dI cC h0 h1 (v ++ f_T_digits x) H1 → va_S A0 s.heap H1 locs1 → (H.size ≤ H1.size ∧ ∀ q : Nat, q < H.size → ¬ aT h0 h1 q → H1[q]? = H[q]?) → W p l e R s m args below meth c H1 locs1 cells slots Q (F0 m (pc + 3) ls rest)) : W p l e R s m args below meth c H locs cells slots Q (F0 m pc ls (.long x :: .ref h0 :: rest)) :=
  va_callv (va_runV (As := [.long x]) (rest := rest) S (c_T_digits l adE adK adV dC dI cC h0 h1 v x) (cwV 1 S.2.2.2.2 (gV hTs h1' m_522 m_7 m_51 m_523) rfl rfl rfl (by decide +kernel) hR) ⟨fun a U g mk q => ⟨q.1, q.2.blind⟩, tw_recv hK hw, fun U hU hW => ⟨rfl, twU.at hK hne hC hS hA hw hU hW⟩⟩ rfl rfl hsz rfl (lv_room hrm) hdg hc) hS (fun q _ h => hA q h) hA (fun u t H1 locs1 ht hvm hp hB hz hk hS1 => kk H1 locs1 (by rw [← ht]; exact hB) hS1 ⟨hz, hk⟩)
