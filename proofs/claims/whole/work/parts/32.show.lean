theorem vd_of {A : Nat → Prop} {ws : va_W} (hn : (ws.map (fun q => q.1)).Nodup) (hA : ∀ a ∈ ws.map (fun q => q.1), A a) : va_D A ws := by
  refine ⟨fun i j p q hi hj e => ?_, fun k q hk => hA _ (List.mem_map.mpr ⟨q, List.mem_of_getElem? hk, rfl⟩)⟩
  have h1 : (ws.map (fun q => q.1))[i]? = some p.1 := by rw [List.getElem?_map, hi]; rfl
  have h2 : (ws.map (fun q => q.1))[j]? = some q.1 := by rw [List.getElem?_map, hj]; rfl
  rw [← e] at h2
  exact (List.getElem?_inj (List.getElem?_eq_some_iff.mp h1).1 hn).mp (h1.trans h2.symm)
def aR (r0 r1 r2 r3 : Nat) : Nat → Prop := fun q => q ∈ [r0, r1, r2, r3]
abbrev apR (r0 r1 r2 r3 : Nat) : Prop := [r0, r1, r2, r3].Nodup
theorem wR_D {r0 r1 r2 r3 : Nat} (h : apR r0 r1 r2 r3) {A : Nat → Prop} (hA : ∀ q, aR r0 r1 r2 r3 q → A q) {cI cC : ClassId} {str : Nat → Int32} {tb ti tp : Int32} {f : Nat → Int32} {n : Int32} : va_D A (wR r0 r1 r2 r3 cI cC str tb ti tp f n) := vd_of h (fun a ha => hA a ha)
theorem apR.t {r0 r1 r2 r3 : Nat} (h : apR r0 r1 r2 r3) : r2 ≠ r3 ∧ ¬ aT r2 r3 r0 ∧ ¬ aT r2 r3 r1 := by
  simp only [apR, List.nodup_cons, List.mem_cons, List.not_mem_nil, or_false, not_or] at h
  obtain ⟨⟨h1, h2, h3⟩, ⟨h4, h5⟩, h6, -⟩ := h
  exact ⟨h6, fun z => z.elim h2 h3, fun z => z.elim h4 h5⟩
theorem aT_R {r0 r1 r2 r3 : Nat} : ∀ q, aT r2 r3 q → aR r0 r1 r2 r3 q := by
  intro q h
  rcases h with rfl | rfl <;> simp [aR]
theorem rwd_join {dC : Nat → ClassId} {dI : Nat → Nat → Nat} {cI cC : ClassId} {r0 r1 r2 r3 : Nat} {str : Nat → Int32} {tb ti tp : Int32} {v : List Int32} {v' : List Int32} {H H1 : Heap} (h : rwd dC dI cI cC r0 r1 r2 r3 str tb ti tp v H) (ap : apR r0 r1 r2 r3) (hk : ∀ q : Nat, q < H.size → ¬ aT r2 r3 q → H1[q]? = H[q]?) (hw : tw dC dI cC r2 r3 v' H1) : rwd dC dI cI cC r0 r1 r2 r3 str tb ti tp v' H1 := by
  obtain ⟨f, n, ht, hP⟩ := h
  obtain ⟨f', n', ht', hP'⟩ := hw
  refine ⟨f', n', ht', ?_⟩
  have h2 := hP.sub (ws' := [(r0, .inr (1, [.ref r1, .ref r2, .int tb, .int ti, .int tp])), (r1, .inl (cI, 256, .inl str))]) [0, 1] rfl
  have h3 : va_P (dC, dI) classes [(r0, .inr (1, [.ref r1, .ref r2, .int tb, .int ti, .int tp])), (r1, .inl (cI, 256, .inl str))] H1 := by
    refine h2.kept (fun k q hq => hk q.1 (h2 k q hq).lt ?_)
    match k, hq with
    | 0, hq => cases hq; exact ap.t.2.1
    | 1, hq => cases hq; exact ap.t.2.2
    | k + 2, hq => simp at hq
  exact h3.app hP'
def rU (adE adK adV : Nat → Nat) (dC : Nat → ClassId) (dI : Nat → Nat → Nat) (cI cC : ClassId) (r0 r1 r2 r3 : Nat) (str : Nat → Int32) (tb ti tp : Int32) (v : List Int32) (U : State) : Prop := rK dC dI cI cC U ∧ apR r0 r1 r2 r3 ∧ cx adE adK adV (aR r0 r1 r2 r3) U U.heap ∧ rwd dC dI cI cC r0 r1 r2 r3 str tb ti tp v U.heap
theorem rU.blind {adE adK adV : Nat → Nat} {dC : Nat → ClassId} {dI : Nat → Nat → Nat} {cI cC : ClassId} {r0 r1 r2 r3 : Nat} {str : Nat → Int32} {tb ti tp : Int32} {v : List Int32} {U : State} {g : JFrame} {mk : MethodId} {a : Array Value} (h : rU adE adK adV dC dI cI cC r0 r1 r2 r3 str tb ti tp v U) : rU adE adK adV dC dI cI cC r0 r1 r2 r3 str tb ti tp v (U.calling g mk a) := ⟨va_K.moved (u := U) (U := U.calling g mk a) (Vm.Alike.refl U.vm) h.1, h.2.1, h.2.2.1.blind, h.2.2.2⟩
theorem rU.at {adE adK adV : Nat → Nat} {dC : Nat → ClassId} {dI : Nat → Nat → Nat} {cI cC : ClassId} {r0 r1 r2 r3 : Nat} {str : Nat → Int32} {tb ti tp : Int32} {v : List Int32} {A0 : Nat → Prop} {s U : State} {H : Heap} {locs : List Loc} (hK : rK dC dI cI cC s) (ap : apR r0 r1 r2 r3) (hC : cx adE adK adV A0 s s.heap) (hS : va_S A0 s.heap H locs) (hA : ∀ q, aR r0 r1 r2 r3 q → A0 q) (hw : rwd dC dI cI cC r0 r1 r2 r3 str tb ti tp v H) (hU : U.heap = H) (hW : s.WarmedH U.vm) : rU adE adK adV dC dI cI cC r0 r1 r2 r3 str tb ti tp v U := ⟨va_K.moved hW.alike hK, ap, hC.at hS hA hU hW, by rw [hU]; exact hw⟩
theorem rwd_at {dC : Nat → ClassId} {dI : Nat → Nat → Nat} {cI cC : ClassId} {r0 r1 r2 r3 : Nat} {str : Nat → Int32} {tb ti tp : Int32} {v : List Int32} {H : Heap} {t : State} (ht : t.heap = H) (h : rwd dC dI cI cC r0 r1 r2 r3 str tb ti tp v H) : rwd dC dI cI cC r0 r1 r2 r3 str tb ti tp v t.heap := by rw [ht]; exact h
def f_tb (x : Int32) : Int32 := if f_R_isLong x = 0 then 2 else 4
theorem ki_ok (i : Nat) : narrow .boolean (.int (f_K_isInstruction i)) = .int (f_K_isInstruction i) ∧ fits .boolean (.int (f_K_isInstruction i)) = true := by
  rw [f_K_isInstruction]
  by_cases h : i = 0
  · rw [if_pos h]; exact ⟨rfl, rfl⟩
  · rw [if_neg h]
    by_cases h2 : i = 1
    · rw [if_pos h2]; exact ⟨rfl, rfl⟩
    · rw [if_neg h2]; exact ⟨rfl, rfl⟩

set_option maxRecDepth 100000 in
set_option maxHeartbeats 4000000 in
theorem w27_R_show {p : Program} {l : Launch} {e : Env} {R : Room} {s : State} {m : MethodId} {args : Array Value} {below : List Frame} {meth : Method} {c : Code} {cells slots : Nat} {Q : State → Prop} {Ts : List Cond} {adE adK adV : Nat → Nat} {A0 : Nat → Prop} {H : Heap} {locs : List Loc} {dC : Nat → ClassId} {dI : Nat → Nat → Nat} {cI cC : ClassId} {r0 r1 r2 r3 : Nat} {str : Nat → Int32} {tb ti tp : Int32} {v : List Int32} {x y : Int32} {i : Nat} {f : Nat → Int32} {n : Int32} (S : CallFix p m c b_R_show 3 s args Ts R_R) (hTs : ∀ w ∈ WT, w ∈ Ts) (hT : ∀ w ∈ WT, w.before args s = true) (hfr : 8 ≤ R.frames) (hlo : 174 ≤ R.locals) (hc : cells ≤ R.cells ∧ slots ≤ R.slots) (hK : rK dC dI cI cC s) (hC : cx adE adK adV A0 s s.heap) (hS : va_S A0 s.heap H locs) (hi : i < 95) (hP : va_P (dC, dI) classes (wR r0 r1 r2 r3 cI cC str tb ti tp f n) H) (hD : va_D A0 (wR r0 r1 r2 r3 cI cC str tb ti tp f n))
    (kk : ∀ (H : Heap) (locs : List Loc) (ls : Array Slot), va_P (dC, dI) classes (wR r0 r1 r2 r3 cI cC str y (f_K_isInstruction i) (f_K_operandCount i) f n) H → va_S A0 s.heap H locs → W p l e R s m args below meth c H locs cells slots Q (F0 m 46 ls []))
    {ls : Array Slot} (hl : lv_has ls 3 [(2, .ref (adE i)), (0, .ref r0), (1, .int x)]) : W p l e R s m args below meth c H locs cells slots Q (F0 m 27 ls [.int y, .ref r0]) := by
  have hx := S.1
  have hb := S.2.1
  have hown := S.2.2.2.1
  refine va_put (D := (dC, dI)) (ci := 1) (v := .int y) (ty := .int) (C := R_R) (T := F_R) (N := 5) hx hb hT i_R ft_R ft_R_ok n_R hown hK hP hD hS 0 rfl rfl 2 (by decide) (hT _ m_93) (fun _ h9 => h9) rfl (by decide +kernel) rfl rfl (Nat.le_of_ble_eq_true rfl) d_R_show_27 (fun H locs hP hD hS => ?_)
  have hP : va_P (dC, dI) classes (wR r0 r1 r2 r3 cI cC str y ti tp f n) H := hP
  have hD : va_D A0 (wR r0 r1 r2 r3 cI cC str y ti tp f n) := hD
  refine lv_aload_n hx hb d_R_show_30 rfl (lv_at hl 1 rfl) ?_
  refine lv_aload_n hx hb d_R_show_31 rfl (lv_at hl 0 rfl) ?_
  refine call_K_isInstruction S hTs m_561 ⟨by omega, by omega⟩ hl.1 (Nat.le_of_ble_eq_true rfl) d_R_show_32 hc hC hS hi ?_
  refine va_put (D := (dC, dI)) (ci := 1) (v := .int (f_K_isInstruction i)) (ty := .boolean) (C := R_R) (T := F_R) (N := 5) hx hb hT i_R ft_R ft_R_ok n_R hown hK hP hD hS 0 rfl rfl 3 (by decide) (hT _ m_94) (fun _ h9 => h9) rfl (by decide +kernel) (ki_ok i).1 (ki_ok i).2 (Nat.le_of_ble_eq_true rfl) d_R_show_35 (fun H locs hP hD hS => ?_)
  have hP : va_P (dC, dI) classes (wR r0 r1 r2 r3 cI cC str y (f_K_isInstruction i) tp f n) H := hP
  have hD : va_D A0 (wR r0 r1 r2 r3 cI cC str y (f_K_isInstruction i) tp f n) := hD
  refine lv_aload_n hx hb d_R_show_38 rfl (lv_at hl 1 rfl) ?_
  refine lv_aload_n hx hb d_R_show_39 rfl (lv_at hl 0 rfl) ?_
  refine call_K_operandCount S hTs m_567 ⟨by omega, by omega⟩ hl.1 (Nat.le_of_ble_eq_true rfl) d_R_show_40 hc hC hS hi ?_
  refine va_put (D := (dC, dI)) (ci := 1) (v := .int (f_K_operandCount i)) (ty := .int) (C := R_R) (T := F_R) (N := 5) hx hb hT i_R ft_R ft_R_ok n_R hown hK hP hD hS 0 rfl rfl 4 (by decide) (hT _ m_95) (fun _ h9 => h9) rfl (by decide +kernel) rfl rfl (Nat.le_of_ble_eq_true rfl) d_R_show_43 (fun H locs hP hD hS => ?_)
  exact kk H locs ls hP hS

set_option maxRecDepth 100000 in
set_option maxHeartbeats 4000000 in
theorem c_R_show (l : Launch) (adE adK adV : Nat → Nat) (dC : Nat → ClassId) (dI : Nat → Nat → Nat) (cI cC : ClassId) (r0 r1 r2 r3 : Nat) (str : Nat → Int32) (tb ti tp : Int32) (v : List Int32) (x : Int32) : Met l y_R_show (Cond.code y_R_show b_R_show 3 none :: WT) ({ frames := 8, cells := 0, slots := 0, locals := 174 }) (va_Pc [.ref r0, .int x] (fun U => rU adE adK adV dC dI cI cC r0 r1 r2 r3 str tb ti tp v U)) (va_Qv (fun _ : Unit => True) (fun _ t => rwd dC dI cI cC r0 r1 r2 r3 str (f_tb x) (f_K_isInstruction (f_R_kindOf x)) (f_K_operandCount (f_R_kindOf x)) (f_T_write (f_R_kindOf x) x) t.heap) (aR r0 r1 r2 r3)) 0 0 (aR r0 r1 r2 r3) := by
  refine va_MetF (cc := b_R_show) (maxL := 3) (ret := none) (by decide +kernel) rfl ?_
  intro p e s m args below meth c s₁ B hml hv
  obtain ⟨rfl, ⟨hK, ap, hC, hw⟩⟩ := hv
  have hx := B.exec
  have hb := B.bytes
  have hr := B.returns
  have hts := atoms_spec (ws := (Cond.code y_R_show b_R_show 3 none :: WT)) B.pre
  have hT : ∀ w ∈ WT, w.before _ s = true := fun w h => hts w (inC w h)
  have hown : s.vm.findClass R_R = some m.cls := findClass_of_methodNamed B.named
  have hlocks := B.notSynchronized
  have hS : va_S (aR r0 r1 r2 r3) s.heap s.heap [] := va_S.rf
  have S : CallFix p m c b_R_show 3 s _ (Cond.code y_R_show b_R_show 3 none :: WT) R_R := ⟨hx, hb, hml, hown, hts⟩
  have hl := lv_entry ([.ref r0, .int x]) (n := 3) (Nat.le_of_ble_eq_true rfl)
  rw [lg_entry_eq]
  generalize (lg_sl ([.ref r0, .int x]) ++ List.replicate (3 - (lg_sl ([.ref r0, .int x])).length) Slot.unset).toArray = ls at hl ⊢
  have hl : lv_has ls 3 [(0, .ref r0), (1, .int x)] := hl
  have hA : ∀ q, aR r0 r1 r2 r3 q → aR r0 r1 r2 r3 q := fun _ h => h
  obtain ⟨f, n, ht0, hP⟩ := id hw
  refine lv_iload_n hx hb d_R_show_0 rfl (lv_at hl 1 rfl) ?_
  refine call_R_kindOf S inC m_119 ⟨(Nat.le_of_ble_eq_true rfl), (Nat.le_of_ble_eq_true rfl)⟩ hl.1 (Nat.le_of_ble_eq_true rfl) d_R_show_1 ⟨(Nat.le_of_ble_eq_true rfl), (Nat.le_of_ble_eq_true rfl)⟩ hC hS ?_
  refine lv_astore_n (lv' := [(2, .ref (adE (f_R_kindOf x))), (0, .ref r0), (1, .int x)]) hx hb d_R_show_4 rfl hl (by decide) rfl (fun ls hl => ?_)
  refine lv_aload_n hx hb d_R_show_5 rfl (lv_at hl 1 rfl) ?_
  refine va_get (D := (dC, dI)) (ci := 1) (v := .ref r2) (C := R_R) (T := F_R) (N := 5) hx hb hT i_R hown hK hP 0 rfl rfl 1 (by decide) (hT _ m_92) (fun _ h9 => h9) rfl d_R_show_6 ?_
  refine lv_aload_n hx hb d_R_show_9 rfl (lv_at hl 0 rfl) ?_
  refine lv_iload_n hx hb d_R_show_10 rfl (lv_at hl 2 rfl) ?_
  refine call_T_write S inC m_399 ⟨(Nat.le_of_ble_eq_true rfl), (Nat.le_of_ble_eq_true rfl)⟩ hl.1 (Nat.le_of_ble_eq_true rfl) d_R_show_11 ⟨(Nat.le_of_ble_eq_true rfl), (Nat.le_of_ble_eq_true rfl)⟩ hK.t ap.t.1 hC hS aT_R hw.tw (kl_R_kindOf x) (fun H locs hw2 hS hf => ?_)
  obtain ⟨f, n, ht0, hP⟩ := rwd_join hw ap hf.2 hw2
  have hD := wR_D ap hA (cI := cI) (cC := cC) (str := str) (tb := tb) (ti := ti) (tp := tp) (f := f) (n := n)
  refine lv_aload_n hx hb d_R_show_14 rfl (lv_at hl 1 rfl) ?_
  refine lv_iload_n hx hb d_R_show_15 rfl (lv_at hl 2 rfl) ?_
  refine call_R_isLong S inC m_111 ⟨(Nat.le_of_ble_eq_true rfl), (Nat.le_of_ble_eq_true rfl)⟩ hl.1 (Nat.le_of_ble_eq_true rfl) d_R_show_16 ⟨(Nat.le_of_ble_eq_true rfl), (Nat.le_of_ble_eq_true rfl)⟩ ?_
  refine lv_if_eq (tgt := 26) hx hb d_R_show_19 (by decide) (fun h => ?_) (fun h => ?_)
  · have e : f_tb x = 2 := by rw [f_tb, if_pos h]
    refine lv_iconst (v := 2) hx hb d_R_show_26 (by decide) ?_
    refine w27_R_show (v := v) S inC hT (Nat.le_of_ble_eq_true rfl) (Nat.le_of_ble_eq_true rfl) ⟨(Nat.le_of_ble_eq_true rfl), (Nat.le_of_ble_eq_true rfl)⟩ hK hC hS (kl_R_kindOf x) hP hD (fun H locs ls hP hS => ?_) hl
    rw [← e] at hP
    exact W.vret hx hb hr (fun t ht hW => ⟨⟨(), rfl, trivial, rwd_at ht (⟨f, n, ht0, hP⟩)⟩, hS.F ht⟩) hS.2.2 d_R_show_46
  · have e : f_tb x = 4 := by rw [f_tb, if_neg h]
    refine lv_iconst (v := 4) hx hb d_R_show_22 (by decide) ?_
    refine lv_goto (tgt := 27) hx hb d_R_show_23 (by decide) ?_
    refine w27_R_show (v := v) S inC hT (Nat.le_of_ble_eq_true rfl) (Nat.le_of_ble_eq_true rfl) ⟨(Nat.le_of_ble_eq_true rfl), (Nat.le_of_ble_eq_true rfl)⟩ hK hC hS (kl_R_kindOf x) hP hD (fun H locs ls hP hS => ?_) hl
    rw [← e] at hP
    exact W.vret hx hb hr (fun t ht hW => ⟨⟨(), rfl, trivial, rwd_at ht (⟨f, n, ht0, hP⟩)⟩, hS.F ht⟩) hS.2.2 d_R_show_46

theorem call_R_show {p : Program} {l : Launch} {e : Env} {R : Room} {s : State} {m : MethodId} {args : Array Value} {below : List Frame} {meth : Method} {c : Code} {H : Heap} {locs : List Loc} {cells slots : Nat} {Q : State → Prop} {cc : ByteArray} {pc nL idx : Nat} {ls : Array Slot} {rest : List Value} {Ts : List Cond} {own : String} {adE adK adV : Nat → Nat} {A0 : Nat → Prop} {dC : Nat → ClassId} {dI : Nat → Nat → Nat} {cI cC : ClassId} {r0 r1 r2 r3 : Nat} {str : Nat → Int32} {tb ti tp : Int32} {v : List Int32} {x : Int32} (S : CallFix p m c cc nL s args Ts own) (hTs : ∀ w ∈ WT, w ∈ Ts) (hlk : Cond.methodLink own idx y_R_show ∈ WT) (hR : 8 + 1 ≤ R.frames ∧ 8 + (3 + 11) + 174 ≤ R.locals) (hsz : ls.size = nL) (hrm : (rest.map fun v => v.category).sum ≤ 8) (hdg : decode cc pc = .ok (.invokevirtual idx, 3)) (hc : cells ≤ R.cells ∧ slots ≤ R.slots) (hK : rK dC dI cI cC s) (ap : apR r0 r1 r2 r3) (hC : cx adE adK adV A0 s s.heap) (hS : va_S A0 s.heap H locs) (hA : ∀ q, aR r0 r1 r2 r3 q → A0 q) (hw : rwd dC dI cI cC r0 r1 r2 r3 str tb ti tp v H)  (kk : ∀ (H1 : Heap) (locs1 : List Loc), rwd dC dI cI cC r0 r1 r2 r3 str (f_tb x) (f_K_isInstruction (f_R_kindOf x)) (f_K_operandCount (f_R_kindOf x)) (f_T_write (f_R_kindOf x) x) H1 → va_S A0 s.heap H1 locs1 → (H.size ≤ H1.size ∧ ∀ q : Nat, q < H.size → ¬ aR r0 r1 r2 r3 q → H1[q]? = H[q]?) → W p l e R s m args below meth c H1 locs1 cells slots Q (F0 m (pc + 3) ls (rest))) : W p l e R s m args below meth c H locs cells slots Q (F0 m pc ls (.int x :: .ref r0 :: rest)) :=
  va_callv (va_runV (As := [.int x]) (rest := rest) S (c_R_show l adE adK adV dC dI cI cC r0 r1 r2 r3 str tb ti tp v x) (cwV 1 S.2.2.2.2 (gV hTs hlk m_117 m_0 m_50 m_118) rfl rfl rfl (by decide +kernel) hR) ⟨fun a U g mk q => ⟨q.1, q.2.blind⟩, rwd.recv hK hw, fun U hU hW => ⟨rfl, rU.at hK ap hC hS hA hw hU hW⟩⟩ rfl rfl hsz rfl (lv_room hrm) hdg hc) hS (fun q _ h => hA q h) hA (fun u t H1 locs1 ht hvm hp hB hz hk hS1 => kk H1 locs1 (by rw [← ht]; exact hB) hS1 ⟨hz, hk⟩)

def lo16 (x : Int32) : Int32 := if f_R_isLong x = 0 then x &&& 65535 else x
set_option maxRecDepth 100000 in
set_option maxHeartbeats 4000000 in
theorem c_R_read (l : Launch) (adE adK adV : Nat → Nat) (dC : Nat → ClassId) (dI : Nat → Nat → Nat) (cI cC : ClassId) (r0 r1 r2 r3 : Nat) (str : Nat → Int32) (tb ti tp : Int32) (v : List Int32) (x : Int32) : Met l y_R_read (Cond.code y_R_read b_R_read 2 (some .int) :: WT) ({ frames := 9, cells := 0, slots := 0, locals := 196 }) (va_Pc [.ref r0, .int x] (fun U => rU adE adK adV dC dI cI cC r0 r1 r2 r3 str tb ti tp v U)) (va_Qi (fun (r : Int32) (_ : Unit) => r = nI (min (f_T_write (f_R_kindOf (lo16 x)) (lo16 x)).length 40)) (fun _ t => rwd dC dI cI cC r0 r1 r2 r3 str (f_tb (lo16 x)) (f_K_isInstruction (f_R_kindOf (lo16 x))) (f_K_operandCount (f_R_kindOf (lo16 x))) (f_T_write (f_R_kindOf (lo16 x)) (lo16 x)) t.heap) (aR r0 r1 r2 r3)) 0 0 (aR r0 r1 r2 r3) := by
  refine va_MetF (cc := b_R_read) (maxL := 2) (ret := (some .int)) (by decide +kernel) rfl ?_
  intro p e s m args below meth c s₁ B hml hv
  obtain ⟨rfl, ⟨hK, ap, hC, hw⟩⟩ := hv
  have hx := B.exec
  have hb := B.bytes
  have hr := B.returns
  have hts := atoms_spec (ws := (Cond.code y_R_read b_R_read 2 (some .int) :: WT)) B.pre
  have hT : ∀ w ∈ WT, w.before _ s = true := fun w h => hts w (inC w h)
  have hown : s.vm.findClass R_R = some m.cls := findClass_of_methodNamed B.named
  have hlocks := B.notSynchronized
  have hS : va_S (aR r0 r1 r2 r3) s.heap s.heap [] := va_S.rf
  have S : CallFix p m c b_R_read 2 s _ (Cond.code y_R_read b_R_read 2 (some .int) :: WT) R_R := ⟨hx, hb, hml, hown, hts⟩
  have hl := lv_entry ([.ref r0, .int x]) (n := 2) (Nat.le_of_ble_eq_true rfl)
  rw [lg_entry_eq]
  generalize (lg_sl ([.ref r0, .int x]) ++ List.replicate (2 - (lg_sl ([.ref r0, .int x])).length) Slot.unset).toArray = ls at hl ⊢
  have hl : lv_has ls 2 [(0, .ref r0), (1, .int x)] := hl
  have hA : ∀ q, aR r0 r1 r2 r3 q → aR r0 r1 r2 r3 q := fun _ h => h
  refine lv_aload_n hx hb d_R_read_0 rfl (lv_at hl 0 rfl) ?_
  refine lv_iload_n hx hb d_R_read_1 rfl (lv_at hl 1 rfl) ?_
  refine call_R_isLong S inC m_111 ⟨(Nat.le_of_ble_eq_true rfl), (Nat.le_of_ble_eq_true rfl)⟩ hl.1 (Nat.le_of_ble_eq_true rfl) d_R_read_2 ⟨(Nat.le_of_ble_eq_true rfl), (Nat.le_of_ble_eq_true rfl)⟩ ?_
  refine lv_if_eq (tgt := 12) hx hb d_R_read_5 (by decide) (fun h => ?_) (fun h => ?_)
  · have e : lo16 x = x &&& 65535 := by rw [lo16, if_pos h]
    refine lv_iload_n hx hb d_R_read_12 rfl (lv_at hl 1 rfl) ?_
    refine lv_ldc (v := 65535) hx hb hown (hT _ m_114) d_R_read_13 ?_
    refine lv_iand hx hb d_R_read_15 ?_
    refine call_R_show S inC m_115 ⟨(Nat.le_of_ble_eq_true rfl), (Nat.le_of_ble_eq_true rfl)⟩ hl.1 (Nat.le_of_ble_eq_true rfl) d_R_read_16 ⟨(Nat.le_of_ble_eq_true rfl), (Nat.le_of_ble_eq_true rfl)⟩ hK ap hC hS hA hw (fun H locs hw hS _ => ?_)
    obtain ⟨f, n, ht0, hP⟩ := id hw
    refine lv_aload_n hx hb d_R_read_19 rfl (lv_at hl 0 rfl) ?_
    refine va_get (D := (dC, dI)) (ci := 1) (v := .ref r2) (C := R_R) (T := F_R) (N := 5) hx hb hT i_R hown hK hP 0 rfl rfl 1 (by decide) (hT _ m_92) (fun _ h9 => h9) rfl d_R_read_20 ?_
    refine call_T_size S inC m_574 ⟨(Nat.le_of_ble_eq_true rfl), (Nat.le_of_ble_eq_true rfl)⟩ hl.1 (Nat.le_of_ble_eq_true rfl) d_R_read_23 ⟨(Nat.le_of_ble_eq_true rfl), (Nat.le_of_ble_eq_true rfl)⟩ hK.t hw.tw ?_
    exact W.iret (v := nI (min (f_T_write (f_R_kindOf (x &&& 65535)) (x &&& 65535)).length 40)) hx hb hr (fun t ht hW => ⟨⟨_, (), rfl, by rw [e], rwd_at ht (by rw [e]; exact hw)⟩, hS.F ht⟩) hS.2.2 d_R_read_26
  · have e : lo16 x = x := by rw [lo16, if_neg h]
    refine lv_iload_n hx hb d_R_read_8 rfl (lv_at hl 1 rfl) ?_
    refine lv_goto (tgt := 16) hx hb d_R_read_9 (by decide) ?_
    refine call_R_show S inC m_115 ⟨(Nat.le_of_ble_eq_true rfl), (Nat.le_of_ble_eq_true rfl)⟩ hl.1 (Nat.le_of_ble_eq_true rfl) d_R_read_16 ⟨(Nat.le_of_ble_eq_true rfl), (Nat.le_of_ble_eq_true rfl)⟩ hK ap hC hS hA hw (fun H locs hw hS _ => ?_)
    obtain ⟨f, n, ht0, hP⟩ := id hw
    refine lv_aload_n hx hb d_R_read_19 rfl (lv_at hl 0 rfl) ?_
    refine va_get (D := (dC, dI)) (ci := 1) (v := .ref r2) (C := R_R) (T := F_R) (N := 5) hx hb hT i_R hown hK hP 0 rfl rfl 1 (by decide) (hT _ m_92) (fun _ h9 => h9) rfl d_R_read_20 ?_
    refine call_T_size S inC m_574 ⟨(Nat.le_of_ble_eq_true rfl), (Nat.le_of_ble_eq_true rfl)⟩ hl.1 (Nat.le_of_ble_eq_true rfl) d_R_read_23 ⟨(Nat.le_of_ble_eq_true rfl), (Nat.le_of_ble_eq_true rfl)⟩ hK.t hw.tw ?_
    exact W.iret (v := nI (min (f_T_write (f_R_kindOf x) x).length 40)) hx hb hr (fun t ht hW => ⟨⟨_, (), rfl, by rw [e], rwd_at ht (by rw [e]; exact hw)⟩, hS.F ht⟩) hS.2.2 d_R_read_26

theorem call_R_read {p : Program} {l : Launch} {e : Env} {R : Room} {s : State} {m : MethodId} {args : Array Value} {below : List Frame} {meth : Method} {c : Code} {H : Heap} {locs : List Loc} {cells slots : Nat} {Q : State → Prop} {cc : ByteArray} {pc nL idx : Nat} {ls : Array Slot} {rest : List Value} {Ts : List Cond} {own : String} {adE adK adV : Nat → Nat} {A0 : Nat → Prop} {dC : Nat → ClassId} {dI : Nat → Nat → Nat} {cI cC : ClassId} {r0 r1 r2 r3 : Nat} {str : Nat → Int32} {tb ti tp : Int32} {v : List Int32} {x : Int32} (S : CallFix p m c cc nL s args Ts own) (hTs : ∀ w ∈ WT, w ∈ Ts) (hlk : Cond.methodLink own idx y_R_read ∈ WT) (hR : 9 + 1 ≤ R.frames ∧ 8 + (2 + 11) + 196 ≤ R.locals) (hsz : ls.size = nL) (hrm : (rest.map fun v => v.category).sum ≤ 8) (hdg : decode cc pc = .ok (.invokevirtual idx, 3)) (hc : cells ≤ R.cells ∧ slots ≤ R.slots) (hK : rK dC dI cI cC s) (ap : apR r0 r1 r2 r3) (hC : cx adE adK adV A0 s s.heap) (hS : va_S A0 s.heap H locs) (hA : ∀ q, aR r0 r1 r2 r3 q → A0 q) (hw : rwd dC dI cI cC r0 r1 r2 r3 str tb ti tp v H)  (kk : ∀ (H1 : Heap) (locs1 : List Loc), rwd dC dI cI cC r0 r1 r2 r3 str (f_tb (lo16 x)) (f_K_isInstruction (f_R_kindOf (lo16 x))) (f_K_operandCount (f_R_kindOf (lo16 x))) (f_T_write (f_R_kindOf (lo16 x)) (lo16 x)) H1 → va_S A0 s.heap H1 locs1 → (H.size ≤ H1.size ∧ ∀ q : Nat, q < H.size → ¬ aR r0 r1 r2 r3 q → H1[q]? = H[q]?) → W p l e R s m args below meth c H1 locs1 cells slots Q (F0 m (pc + 3) ls (.int (nI (min (f_T_write (f_R_kindOf (lo16 x)) (lo16 x)).length 40)) :: rest))) : W p l e R s m args below meth c H locs cells slots Q (F0 m pc ls (.int x :: .ref r0 :: rest)) :=
  va_calli (va_runV (As := [.int x]) (rest := rest) S (c_R_read l adE adK adV dC dI cI cC r0 r1 r2 r3 str tb ti tp v x) (cwV 1 S.2.2.2.2 (gV hTs hlk m_108 m_109 m_50 m_110) rfl rfl rfl (by decide +kernel) hR) ⟨fun a U g mk q => ⟨q.1, q.2.blind⟩, rwd.recv hK hw, fun U hU hW => ⟨rfl, rU.at hK ap hC hS hA hw hU hW⟩⟩ rfl rfl hsz rfl (lv_room hrm) hdg hc) hS (fun q _ h => hA q h) hA (fun r u t H1 locs1 ht hvm hp hB hz hk hS1 => by subst hp; exact kk H1 locs1 (by rw [← ht]; exact hB) hS1 ⟨hz, hk⟩)

set_option maxRecDepth 100000 in
set_option maxHeartbeats 4000000 in
theorem c_R_poke (l : Launch) (adE adK adV : Nat → Nat) (dC : Nat → ClassId) (dI : Nat → Nat → Nat) (cI cC : ClassId) (r0 r1 r2 r3 : Nat) (str : Nat → Int32) (tb ti tp : Int32) (v : List Int32) (a : Nat) (x : Int32) : Met l y_R_poke (Cond.code y_R_poke b_R_poke 3 none :: WT) ({ frames := 2, cells := 0, slots := 0, locals := 40 }) (va_Pc [.ref r0, .int (nI a), .int x] (fun U => rU adE adK adV dC dI cI cC r0 r1 r2 r3 str tb ti tp v U ∧ a < 256)) (va_Qv (fun _ : Unit => True) (fun _ t => rwd dC dI cI cC r0 r1 r2 r3 (upd str a (x &&& 255)) tb ti tp v t.heap) (aR r0 r1 r2 r3)) 0 0 (aR r0 r1 r2 r3) := by
  refine va_MetF (cc := b_R_poke) (maxL := 3) (ret := none) (by decide +kernel) rfl ?_
  intro p e s m args below meth c s₁ B hml hv
  obtain ⟨rfl, ⟨hK, ap, hC, hw⟩, ha⟩ := hv
  have hx := B.exec
  have hb := B.bytes
  have hr := B.returns
  have hts := atoms_spec (ws := (Cond.code y_R_poke b_R_poke 3 none :: WT)) B.pre
  have hT : ∀ w ∈ WT, w.before _ s = true := fun w h => hts w (inC w h)
  have hown : s.vm.findClass R_R = some m.cls := findClass_of_methodNamed B.named
  have hlocks := B.notSynchronized
  have hS : va_S (aR r0 r1 r2 r3) s.heap s.heap [] := va_S.rf
  have S : CallFix p m c b_R_poke 3 s _ (Cond.code y_R_poke b_R_poke 3 none :: WT) R_R := ⟨hx, hb, hml, hown, hts⟩
  have hl := lv_entry ([.ref r0, .int (nI a), .int x]) (n := 3) (Nat.le_of_ble_eq_true rfl)
  rw [lg_entry_eq]
  generalize (lg_sl ([.ref r0, .int (nI a), .int x]) ++ List.replicate (3 - (lg_sl ([.ref r0, .int (nI a), .int x])).length) Slot.unset).toArray = ls at hl ⊢
  have hl : lv_has ls 3 [(0, .ref r0), (1, .int (nI a)), (2, .int x)] := hl
  have hA : ∀ q, aR r0 r1 r2 r3 q → aR r0 r1 r2 r3 q := fun _ h => h
  obtain ⟨f, n, ht0, hP⟩ := id hw
  have hD := wR_D ap hA (cI := cI) (cC := cC) (str := str) (tb := tb) (ti := ti) (tp := tp) (f := f) (n := n)
  have had : ¬ f_R_isAddress (nI a) = 0 := by rw [cl_adr ha]; decide
  refine lv_iload_n hx hb d_R_poke_0 rfl (lv_at hl 1 rfl) ?_
  refine call_R_demandAddress S inC m_668 ⟨(Nat.le_of_ble_eq_true rfl), (Nat.le_of_ble_eq_true rfl)⟩ hl.1 (Nat.le_of_ble_eq_true rfl) d_R_poke_1 ⟨(Nat.le_of_ble_eq_true rfl), (Nat.le_of_ble_eq_true rfl)⟩ had ?_
  refine lv_aload_n hx hb d_R_poke_4 rfl (lv_at hl 0 rfl) ?_
  refine va_get (D := (dC, dI)) (ci := 1) (v := .ref r1) (C := R_R) (T := F_R) (N := 5) hx hb hT i_R hown hK hP 0 rfl rfl 0 (by decide) (hT _ m_91) (fun _ h9 => h9) rfl d_R_poke_5 ?_
  refine lv_iload_n hx hb d_R_poke_8 rfl (lv_at hl 1 rfl) ?_
  refine lv_iload_n hx hb d_R_poke_9 rfl (lv_at hl 2 rfl) ?_
  refine lv_sipush (v := 255) hx hb d_R_poke_10 (by decide) ?_
  refine lv_iand hx hb d_R_poke_13 ?_
  refine va_iast (D := (dC, dI)) hx hb hK hP hD hS 1 0 rfl rfl (vp_in_nI ha (by omega)) d_R_poke_14 (fun H locs hP hD hS => ?_)
  rw [nI_clamp (by omega)] at hP
  exact W.vret hx hb hr (fun t ht hW => ⟨⟨(), rfl, trivial, rwd_at ht (⟨f, n, ht0, hP⟩)⟩, hS.F ht⟩) hS.2.2 d_R_poke_15

theorem call_R_poke {p : Program} {l : Launch} {e : Env} {R : Room} {s : State} {m : MethodId} {args : Array Value} {below : List Frame} {meth : Method} {c : Code} {H : Heap} {locs : List Loc} {cells slots : Nat} {Q : State → Prop} {cc : ByteArray} {pc nL idx : Nat} {ls : Array Slot} {rest : List Value} {Ts : List Cond} {own : String} {adE adK adV : Nat → Nat} {A0 : Nat → Prop} {dC : Nat → ClassId} {dI : Nat → Nat → Nat} {cI cC : ClassId} {r0 r1 r2 r3 : Nat} {str : Nat → Int32} {tb ti tp : Int32} {v : List Int32} {a : Nat} {x : Int32} (S : CallFix p m c cc nL s args Ts own) (hTs : ∀ w ∈ WT, w ∈ Ts) (hlk : Cond.methodLink own idx y_R_poke ∈ WT) (hR : 2 + 1 ≤ R.frames ∧ 8 + (3 + 11) + 40 ≤ R.locals) (hsz : ls.size = nL) (hrm : (rest.map fun v => v.category).sum ≤ 8) (hdg : decode cc pc = .ok (.invokevirtual idx, 3)) (hc : cells ≤ R.cells ∧ slots ≤ R.slots) (hK : rK dC dI cI cC s) (ap : apR r0 r1 r2 r3) (hC : cx adE adK adV A0 s s.heap) (hS : va_S A0 s.heap H locs) (hA : ∀ q, aR r0 r1 r2 r3 q → A0 q) (hw : rwd dC dI cI cC r0 r1 r2 r3 str tb ti tp v H) (ha : a < 256) (kk : ∀ (H1 : Heap) (locs1 : List Loc), rwd dC dI cI cC r0 r1 r2 r3 (upd str a (x &&& 255)) tb ti tp v H1 → va_S A0 s.heap H1 locs1 → (H.size ≤ H1.size ∧ ∀ q : Nat, q < H.size → ¬ aR r0 r1 r2 r3 q → H1[q]? = H[q]?) → W p l e R s m args below meth c H1 locs1 cells slots Q (F0 m (pc + 3) ls (rest))) : W p l e R s m args below meth c H locs cells slots Q (F0 m pc ls (.int x :: .int (nI a) :: .ref r0 :: rest)) :=
  va_callv (va_runV (As := [.int (nI a), .int x]) (rest := rest) S (c_R_poke l adE adK adV dC dI cI cC r0 r1 r2 r3 str tb ti tp v a x) (cwV 2 S.2.2.2.2 (gV hTs hlk m_665 m_666 m_50 m_667) rfl rfl rfl (by decide +kernel) hR) ⟨fun a U g mk q => ⟨q.1, ⟨q.2.1.blind, q.2.2⟩⟩, rwd.recv hK hw, fun U hU hW => ⟨rfl, ⟨rU.at hK ap hC hS hA hw hU hW, ha⟩⟩⟩ rfl rfl hsz rfl (lv_room hrm) hdg hc) hS (fun q _ h => hA q h) hA (fun u t H1 locs1 ht hvm hp hB hz hk hS1 => kk H1 locs1 (by rw [← ht]; exact hB) hS1 ⟨hz, hk⟩)

set_option maxRecDepth 100000 in
set_option maxHeartbeats 4000000 in
theorem c_R_at0 (l : Launch) (adE adK adV : Nat → Nat) (dC : Nat → ClassId) (dI : Nat → Nat → Nat) (cI cC : ClassId) (r0 r1 r2 r3 : Nat) (str : Nat → Int32) (tb ti tp : Int32) (v : List Int32) (a : Nat) : Met l y_R_at (Cond.code y_R_at b_R_at 2 (some .int) :: WT) ({ frames := 9, cells := 0, slots := 0, locals := 196 }) (va_Pc [.ref r0, .int (nI a)] (fun U => rU adE adK adV dC dI cI cC r0 r1 r2 r3 str tb ti tp v U ∧ a < 256 ∧ f_R_isWholeAt str (nI a) = 0)) (va_Qi (fun (r : Int32) (_ : Unit) => r = 0) (fun _ t => rwd dC dI cI cC r0 r1 r2 r3 str tb ti tp v t.heap) (aR r0 r1 r2 r3)) 0 0 (aR r0 r1 r2 r3) := by
  refine va_MetF (cc := b_R_at) (maxL := 2) (ret := (some .int)) (by decide +kernel) rfl ?_
  intro p e s m args below meth c s₁ B hml hv
  obtain ⟨rfl, ⟨hK, ap, hC, hw⟩, ha, hq⟩ := hv
  have hx := B.exec
  have hb := B.bytes
  have hr := B.returns
  have hts := atoms_spec (ws := (Cond.code y_R_at b_R_at 2 (some .int) :: WT)) B.pre
  have hT : ∀ w ∈ WT, w.before _ s = true := fun w h => hts w (inC w h)
  have hown : s.vm.findClass R_R = some m.cls := findClass_of_methodNamed B.named
  have hlocks := B.notSynchronized
  have hS : va_S (aR r0 r1 r2 r3) s.heap s.heap [] := va_S.rf
  have S : CallFix p m c b_R_at 2 s _ (Cond.code y_R_at b_R_at 2 (some .int) :: WT) R_R := ⟨hx, hb, hml, hown, hts⟩
  have hl := lv_entry ([.ref r0, .int (nI a)]) (n := 2) (Nat.le_of_ble_eq_true rfl)
  rw [lg_entry_eq]
  generalize (lg_sl ([.ref r0, .int (nI a)]) ++ List.replicate (2 - (lg_sl ([.ref r0, .int (nI a)])).length) Slot.unset).toArray = ls at hl ⊢
  have hl : lv_has ls 2 [(0, .ref r0), (1, .int (nI a))] := hl
  have hA : ∀ q, aR r0 r1 r2 r3 q → aR r0 r1 r2 r3 q := fun _ h => h
  have had : ¬ f_R_isAddress (nI a) = 0 := by rw [cl_adr ha]; decide
  obtain ⟨f, n, ht0, hP⟩ := id hw
  refine lv_iload_n hx hb d_R_at_0 rfl (lv_at hl 1 rfl) ?_
  refine call_R_demandAddress S inC m_668 ⟨(Nat.le_of_ble_eq_true rfl), (Nat.le_of_ble_eq_true rfl)⟩ hl.1 (Nat.le_of_ble_eq_true rfl) d_R_at_1 ⟨(Nat.le_of_ble_eq_true rfl), (Nat.le_of_ble_eq_true rfl)⟩ had ?_
  refine lv_aload_n hx hb d_R_at_4 rfl (lv_at hl 0 rfl) ?_
  refine lv_iload_n hx hb d_R_at_5 rfl (lv_at hl 1 rfl) ?_
  refine call_R_isWholeAt S inC m_682 ⟨(Nat.le_of_ble_eq_true rfl), (Nat.le_of_ble_eq_true rfl)⟩ hl.1 (Nat.le_of_ble_eq_true rfl) d_R_at_6 ⟨(Nat.le_of_ble_eq_true rfl), (Nat.le_of_ble_eq_true rfl)⟩ hK hC hS hw ?_
  refine lv_if_ne (tgt := 14) hx hb d_R_at_9 (by decide) (fun h => absurd hq h) (fun _ => ?_)
  refine lv_iconst (v := 0) hx hb d_R_at_12 (by decide) ?_
  exact W.iret (v := 0) hx hb hr (fun t ht hW => ⟨⟨_, (), rfl, rfl, rwd_at ht (hw)⟩, hS.F ht⟩) hS.2.2 d_R_at_13

theorem call_R_at0 {p : Program} {l : Launch} {e : Env} {R : Room} {s : State} {m : MethodId} {args : Array Value} {below : List Frame} {meth : Method} {c : Code} {H : Heap} {locs : List Loc} {cells slots : Nat} {Q : State → Prop} {cc : ByteArray} {pc nL idx : Nat} {ls : Array Slot} {rest : List Value} {Ts : List Cond} {own : String} {adE adK adV : Nat → Nat} {A0 : Nat → Prop} {dC : Nat → ClassId} {dI : Nat → Nat → Nat} {cI cC : ClassId} {r0 r1 r2 r3 : Nat} {str : Nat → Int32} {tb ti tp : Int32} {v : List Int32} {a : Nat} (S : CallFix p m c cc nL s args Ts own) (hTs : ∀ w ∈ WT, w ∈ Ts) (hlk : Cond.methodLink own idx y_R_at ∈ WT) (hR : 9 + 1 ≤ R.frames ∧ 8 + (2 + 11) + 196 ≤ R.locals) (hsz : ls.size = nL) (hrm : (rest.map fun v => v.category).sum ≤ 8) (hdg : decode cc pc = .ok (.invokevirtual idx, 3)) (hc : cells ≤ R.cells ∧ slots ≤ R.slots) (hK : rK dC dI cI cC s) (ap : apR r0 r1 r2 r3) (hC : cx adE adK adV A0 s s.heap) (hS : va_S A0 s.heap H locs) (hA : ∀ q, aR r0 r1 r2 r3 q → A0 q) (hw : rwd dC dI cI cC r0 r1 r2 r3 str tb ti tp v H) (ha : a < 256) (hq : f_R_isWholeAt str (nI a) = 0) (kk : ∀ (H1 : Heap) (locs1 : List Loc), rwd dC dI cI cC r0 r1 r2 r3 str tb ti tp v H1 → va_S A0 s.heap H1 locs1 → (H.size ≤ H1.size ∧ ∀ q : Nat, q < H.size → ¬ aR r0 r1 r2 r3 q → H1[q]? = H[q]?) → W p l e R s m args below meth c H1 locs1 cells slots Q (F0 m (pc + 3) ls (.int (0) :: rest))) : W p l e R s m args below meth c H locs cells slots Q (F0 m pc ls (.int (nI a) :: .ref r0 :: rest)) :=
  va_calli (va_runV (As := [.int (nI a)]) (rest := rest) S (c_R_at0 l adE adK adV dC dI cI cC r0 r1 r2 r3 str tb ti tp v a) (cwV 1 S.2.2.2.2 (gV hTs hlk m_679 m_680 m_50 m_681) rfl rfl rfl (by decide +kernel) hR) ⟨fun a U g mk q => ⟨q.1, ⟨q.2.1.blind, q.2.2⟩⟩, rwd.recv hK hw, fun U hU hW => ⟨rfl, ⟨rU.at hK ap hC hS hA hw hU hW, ha, hq⟩⟩⟩ rfl rfl hsz rfl (lv_room hrm) hdg hc) hS (fun q _ h => hA q h) hA (fun r u t H1 locs1 ht hvm hp hB hz hk hS1 => by subst hp; exact kk H1 locs1 (by rw [← ht]; exact hB) hS1 ⟨hz, hk⟩)

set_option maxRecDepth 100000 in
set_option maxHeartbeats 4000000 in
theorem c_R_at1 (l : Launch) (adE adK adV : Nat → Nat) (dC : Nat → ClassId) (dI : Nat → Nat → Nat) (cI cC : ClassId) (r0 r1 r2 r3 : Nat) (str : Nat → Int32) (tb ti tp : Int32) (v : List Int32) (a : Nat) : Met l y_R_at (Cond.code y_R_at b_R_at 2 (some .int) :: WT) ({ frames := 9, cells := 0, slots := 0, locals := 196 }) (va_Pc [.ref r0, .int (nI a)] (fun U => rU adE adK adV dC dI cI cC r0 r1 r2 r3 str tb ti tp v U ∧ a < 256 ∧ ¬ f_R_isWholeAt str (nI a) = 0)) (va_Qi (fun (r : Int32) (_ : Unit) => r = f_tb (f_R_bitsAt str (nI a))) (fun _ t => rwd dC dI cI cC r0 r1 r2 r3 str (f_tb (f_R_bitsAt str (nI a))) (f_K_isInstruction (f_R_kindOf (f_R_bitsAt str (nI a)))) (f_K_operandCount (f_R_kindOf (f_R_bitsAt str (nI a)))) (f_T_write (f_R_kindOf (f_R_bitsAt str (nI a))) (f_R_bitsAt str (nI a))) t.heap) (aR r0 r1 r2 r3)) 0 0 (aR r0 r1 r2 r3) := by
  refine va_MetF (cc := b_R_at) (maxL := 2) (ret := (some .int)) (by decide +kernel) rfl ?_
  intro p e s m args below meth c s₁ B hml hv
  obtain ⟨rfl, ⟨hK, ap, hC, hw⟩, ha, hq⟩ := hv
  have hx := B.exec
  have hb := B.bytes
  have hr := B.returns
  have hts := atoms_spec (ws := (Cond.code y_R_at b_R_at 2 (some .int) :: WT)) B.pre
  have hT : ∀ w ∈ WT, w.before _ s = true := fun w h => hts w (inC w h)
  have hown : s.vm.findClass R_R = some m.cls := findClass_of_methodNamed B.named
  have hlocks := B.notSynchronized
  have hS : va_S (aR r0 r1 r2 r3) s.heap s.heap [] := va_S.rf
  have S : CallFix p m c b_R_at 2 s _ (Cond.code y_R_at b_R_at 2 (some .int) :: WT) R_R := ⟨hx, hb, hml, hown, hts⟩
  have hl := lv_entry ([.ref r0, .int (nI a)]) (n := 2) (Nat.le_of_ble_eq_true rfl)
  rw [lg_entry_eq]
  generalize (lg_sl ([.ref r0, .int (nI a)]) ++ List.replicate (2 - (lg_sl ([.ref r0, .int (nI a)])).length) Slot.unset).toArray = ls at hl ⊢
  have hl : lv_has ls 2 [(0, .ref r0), (1, .int (nI a))] := hl
  have hA : ∀ q, aR r0 r1 r2 r3 q → aR r0 r1 r2 r3 q := fun _ h => h
  have had : ¬ f_R_isAddress (nI a) = 0 := by rw [cl_adr ha]; decide
  obtain ⟨f, n, ht0, hP⟩ := id hw
  refine lv_iload_n hx hb d_R_at_0 rfl (lv_at hl 1 rfl) ?_
  refine call_R_demandAddress S inC m_668 ⟨(Nat.le_of_ble_eq_true rfl), (Nat.le_of_ble_eq_true rfl)⟩ hl.1 (Nat.le_of_ble_eq_true rfl) d_R_at_1 ⟨(Nat.le_of_ble_eq_true rfl), (Nat.le_of_ble_eq_true rfl)⟩ had ?_
  refine lv_aload_n hx hb d_R_at_4 rfl (lv_at hl 0 rfl) ?_
  refine lv_iload_n hx hb d_R_at_5 rfl (lv_at hl 1 rfl) ?_
  refine call_R_isWholeAt S inC m_682 ⟨(Nat.le_of_ble_eq_true rfl), (Nat.le_of_ble_eq_true rfl)⟩ hl.1 (Nat.le_of_ble_eq_true rfl) d_R_at_6 ⟨(Nat.le_of_ble_eq_true rfl), (Nat.le_of_ble_eq_true rfl)⟩ hK hC hS hw ?_
  refine lv_if_ne (tgt := 14) hx hb d_R_at_9 (by decide) (fun _ => ?_) (fun h => absurd h hq)
  refine lv_aload_n hx hb d_R_at_14 rfl (lv_at hl 0 rfl) ?_
  refine lv_aload_n hx hb d_R_at_15 rfl (lv_at hl 0 rfl) ?_
  refine lv_iload_n hx hb d_R_at_16 rfl (lv_at hl 1 rfl) ?_
  refine call_R_bitsAt S inC m_698 ⟨(Nat.le_of_ble_eq_true rfl), (Nat.le_of_ble_eq_true rfl)⟩ hl.1 (Nat.le_of_ble_eq_true rfl) d_R_at_17 ⟨(Nat.le_of_ble_eq_true rfl), (Nat.le_of_ble_eq_true rfl)⟩ hK hC hS hw ?_
  refine call_R_show S inC m_115 ⟨(Nat.le_of_ble_eq_true rfl), (Nat.le_of_ble_eq_true rfl)⟩ hl.1 (Nat.le_of_ble_eq_true rfl) d_R_at_20 ⟨(Nat.le_of_ble_eq_true rfl), (Nat.le_of_ble_eq_true rfl)⟩ hK ap hC hS hA hw (fun H locs hw hS _ => ?_)
  obtain ⟨f, n, ht0, hP⟩ := id hw
  refine lv_aload_n hx hb d_R_at_23 rfl (lv_at hl 0 rfl) ?_
  refine va_get (D := (dC, dI)) (ci := 1) (v := .int (f_tb (f_R_bitsAt str (nI a)))) (C := R_R) (T := F_R) (N := 5) hx hb hT i_R hown hK hP 0 rfl rfl 2 (by decide) (hT _ m_93) (fun _ h9 => h9) rfl d_R_at_24 ?_
  exact W.iret (v := f_tb (f_R_bitsAt str (nI a))) hx hb hr (fun t ht hW => ⟨⟨_, (), rfl, rfl, rwd_at ht (hw)⟩, hS.F ht⟩) hS.2.2 d_R_at_27

theorem call_R_at1 {p : Program} {l : Launch} {e : Env} {R : Room} {s : State} {m : MethodId} {args : Array Value} {below : List Frame} {meth : Method} {c : Code} {H : Heap} {locs : List Loc} {cells slots : Nat} {Q : State → Prop} {cc : ByteArray} {pc nL idx : Nat} {ls : Array Slot} {rest : List Value} {Ts : List Cond} {own : String} {adE adK adV : Nat → Nat} {A0 : Nat → Prop} {dC : Nat → ClassId} {dI : Nat → Nat → Nat} {cI cC : ClassId} {r0 r1 r2 r3 : Nat} {str : Nat → Int32} {tb ti tp : Int32} {v : List Int32} {a : Nat} (S : CallFix p m c cc nL s args Ts own) (hTs : ∀ w ∈ WT, w ∈ Ts) (hlk : Cond.methodLink own idx y_R_at ∈ WT) (hR : 9 + 1 ≤ R.frames ∧ 8 + (2 + 11) + 196 ≤ R.locals) (hsz : ls.size = nL) (hrm : (rest.map fun v => v.category).sum ≤ 8) (hdg : decode cc pc = .ok (.invokevirtual idx, 3)) (hc : cells ≤ R.cells ∧ slots ≤ R.slots) (hK : rK dC dI cI cC s) (ap : apR r0 r1 r2 r3) (hC : cx adE adK adV A0 s s.heap) (hS : va_S A0 s.heap H locs) (hA : ∀ q, aR r0 r1 r2 r3 q → A0 q) (hw : rwd dC dI cI cC r0 r1 r2 r3 str tb ti tp v H) (ha : a < 256) (hq : ¬ f_R_isWholeAt str (nI a) = 0) (kk : ∀ (H1 : Heap) (locs1 : List Loc), rwd dC dI cI cC r0 r1 r2 r3 str (f_tb (f_R_bitsAt str (nI a))) (f_K_isInstruction (f_R_kindOf (f_R_bitsAt str (nI a)))) (f_K_operandCount (f_R_kindOf (f_R_bitsAt str (nI a)))) (f_T_write (f_R_kindOf (f_R_bitsAt str (nI a))) (f_R_bitsAt str (nI a))) H1 → va_S A0 s.heap H1 locs1 → (H.size ≤ H1.size ∧ ∀ q : Nat, q < H.size → ¬ aR r0 r1 r2 r3 q → H1[q]? = H[q]?) → W p l e R s m args below meth c H1 locs1 cells slots Q (F0 m (pc + 3) ls (.int (f_tb (f_R_bitsAt str (nI a))) :: rest))) : W p l e R s m args below meth c H locs cells slots Q (F0 m pc ls (.int (nI a) :: .ref r0 :: rest)) :=
  va_calli (va_runV (As := [.int (nI a)]) (rest := rest) S (c_R_at1 l adE adK adV dC dI cI cC r0 r1 r2 r3 str tb ti tp v a) (cwV 1 S.2.2.2.2 (gV hTs hlk m_679 m_680 m_50 m_681) rfl rfl rfl (by decide +kernel) hR) ⟨fun a U g mk q => ⟨q.1, ⟨q.2.1.blind, q.2.2⟩⟩, rwd.recv hK hw, fun U hU hW => ⟨rfl, ⟨rU.at hK ap hC hS hA hw hU hW, ha, hq⟩⟩⟩ rfl rfl hsz rfl (lv_room hrm) hdg hc) hS (fun q _ h => hA q h) hA (fun r u t H1 locs1 ht hvm hp hB hz hk hS1 => by subst hp; exact kk H1 locs1 (by rw [← ht]; exact hB) hS1 ⟨hz, hk⟩)
