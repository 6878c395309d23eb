abbrev MT : Type := Int32 × Int32 × List Int32
def c16 (x : Int32) : Int32 := (x.toUInt32 % 65536).toInt32
def rgL : List Int32 := [1869768058, 24946, 28787, 28775, 28788, 12404, 12660, 12916, 12403, 12659, 12385, 12641, 12897, 13153, 13409, 13665, 13921, 14177, 12915, 13171, 13427, 13683, 13939, 14195, 14451, 14707, 3158387, 3223923, 13172, 13428, 13684, 13940]
def rgs (j : Nat) : Int32 := rgL.getD j 0
abbrev wM (m0 mt ms mr mk : Nat) (cI cC : ClassId) (th yb bi d a b f : Int32) (op ln sz : Int32) (str rg ft fk : Nat → Int32) : va_W := [(m0, .inr (2, [.int th, .ref mt, .int sz, .int yb, .int op, .int ln, .ref ms, .int bi, .int d, .int a, .int b, .int f, .ref mr, .ref mk])), (mt, .inl (cC, 64, .inl ft)), (ms, .inl (cI, 256, .inl str)), (mr, .inl (cI, 32, .inl rg)), (mk, .inl (cC, 64, .inl fk))]
def txm (ft : Nat → Int32) (v : List Int32) : Prop := v.length ≤ 64 ∧ (∀ j, j < v.length → ft j = v.getD j 0) ∧ ∀ x ∈ v, vp_nar .char x = x
def mwd (dC : Nat → ClassId) (dI : Nat → Nat → Nat) (cI cC : ClassId) (m0 mt ms mr mk : Nat) (th yb bi d a b f : Int32) (str fk : Nat → Int32) (st : MT) (H : Heap) : Prop := ∃ (rg ft : Nat → Int32), (∀ j, j < 32 → rg j = rgs j) ∧ txm ft st.2.2 ∧ va_P (dC, dI) classes (wM m0 mt ms mr mk cI cC th yb bi d a b f st.1 st.2.1 (nI st.2.2.length) str rg ft fk) H
def aM (m0 mt ms mr mk : Nat) : Nat → Prop := fun q => q ∈ [m0, mt, ms, mr, mk]
abbrev apM (m0 mt ms mr mk : Nat) : Prop := [m0, mt, ms, mr, mk].Nodup
theorem wM_D {m0 mt ms mr mk : Nat} (h : apM m0 mt ms mr mk) {A : Nat → Prop} (hA : ∀ q, aM m0 mt ms mr mk q → A q) {cI cC : ClassId} {th yb bi d a b f op ln sz : Int32} {str rg ft fk : Nat → Int32} : va_D A (wM m0 mt ms mr mk cI cC th yb bi d a b f op ln sz str rg ft fk) := vd_of h (fun a ha => hA a ha)
theorem mwd.recv {dC : Nat → ClassId} {dI : Nat → Nat → Nat} {cI cC : ClassId} {m0 mt ms mr mk : Nat} {th yb bi d a b f : Int32} {str fk : Nat → Int32} {st : MT} {s : State} {H : Heap} (hK : rK dC dI cI cC s) (h : mwd dC dI cI cC m0 mt ms mr mk th yb bi d a b f str fk st H) : ∃ cell : Cell, H[m0]? = some cell ∧ cell.vm.isStatics = false ∧ s.vm.findClass R_M = some cell.cls := by
  obtain ⟨rg, ft, h1, h2, hP⟩ := h
  exact va_recv hK hP (ci := 2) (q0 := 0) rfl rfl
def mOk (d a b : Int32) : Prop := vp_in d 32 ∧ vp_in a 32 ∧ vp_in b 32
def mU (dC : Nat → ClassId) (dI : Nat → Nat → Nat) (cI cC : ClassId) (m0 mt ms mr mk : Nat) (th yb bi d a b f : Int32) (str fk : Nat → Int32) (st : MT) (U : State) : Prop := rK dC dI cI cC U ∧ apM m0 mt ms mr mk ∧ mOk d a b ∧ mwd dC dI cI cC m0 mt ms mr mk th yb bi d a b f str fk st U.heap
theorem mU.blind {dC : Nat → ClassId} {dI : Nat → Nat → Nat} {cI cC : ClassId} {m0 mt ms mr mk : Nat} {th yb bi d a b f : Int32} {str fk : Nat → Int32} {st : MT} {U : State} {g : JFrame} {mm : MethodId} {aa : Array Value} (h : mU dC dI cI cC m0 mt ms mr mk th yb bi d a b f str fk st U) : mU dC dI cI cC m0 mt ms mr mk th yb bi d a b f str fk st (U.calling g mm aa) := ⟨va_K.moved (u := U) (U := U.calling g mm aa) (Vm.Alike.refl U.vm) h.1, h.2.1, h.2.2.1, h.2.2.2⟩
theorem mU.at {dC : Nat → ClassId} {dI : Nat → Nat → Nat} {cI cC : ClassId} {m0 mt ms mr mk : Nat} {th yb bi d a b f : Int32} {str fk : Nat → Int32} {st : MT} {s U : State} {H : Heap} (hK : rK dC dI cI cC s) (ap : apM m0 mt ms mr mk) (ok : mOk d a b) (hw : mwd dC dI cI cC m0 mt ms mr mk th yb bi d a b f str fk st H) (hU : U.heap = H) (hW : s.WarmedH U.vm) : mU dC dI cI cC m0 mt ms mr mk th yb bi d a b f str fk st U := ⟨va_K.moved hW.alike hK, ap, ok, by rw [hU]; exact hw⟩
theorem mwd_at {dC : Nat → ClassId} {dI : Nat → Nat → Nat} {cI cC : ClassId} {m0 mt ms mr mk : Nat} {th yb bi d a b f : Int32} {str fk : Nat → Int32} {st : MT} {H : Heap} {t : State} (ht : t.heap = H) (h : mwd dC dI cI cC m0 mt ms mr mk th yb bi d a b f str fk st H) : mwd dC dI cI cC m0 mt ms mr mk th yb bi d a b f str fk st t.heap := by rw [ht]; exact h
theorem mwd_eq {dC : Nat → ClassId} {dI : Nat → Nat → Nat} {cI cC : ClassId} {m0 mt ms mr mk : Nat} {th yb bi d a b f : Int32} {str fk : Nat → Int32} {st st' : MT} {H : Heap} (e : st = st') (h : mwd dC dI cI cC m0 mt ms mr mk th yb bi d a b f str fk st H) : mwd dC dI cI cC m0 mt ms mr mk th yb bi d a b f str fk st' H := e ▸ h
theorem txm_put {ft : Nat → Int32} {v : List Int32} (h : txm ft v) (hl : v.length + 1 ≤ 64) {x : Int32} (hx : vp_nar .char x = x) : txm (upd ft v.length x) (v ++ [x]) := by
  obtain ⟨h1, h2, h3⟩ := h
  refine ⟨by rw [List.length_append]; exact hl, fun j hj => ?_, tx_in h3 hx⟩
  rw [List.length_append, List.length_singleton] at hj
  by_cases q : j = v.length
  · subst q; rw [pk_us, gd_r]
  · rw [pk_un q, h2 j (by omega), gd_l (by omega)]
def uN (x : Int64) : Nat := x.toUInt64.toNat
theorem uN_lt (x : Int64) : uN x < 18446744073709551616 := x.toUInt64.toNat_lt
theorem uN_inj {x y : Int64} (h : uN x = uN y) : x = y := congrArg UInt64.toInt64 (UInt64.toNat_inj.mp h)
theorem uN_shr (x : Int64) (s : UInt64) : uN (x.toUInt64 >>> s).toInt64 = uN x / 2 ^ (s.toNat % 64) := by
  show (x.toUInt64 >>> s).toNat = _
  rw [UInt64.toNat_shiftRight, Nat.shiftRight_eq_div_pow]
  rfl
def sh8 (w : Int64) : Int64 := (w.toUInt64 >>> ((8 : Int32).toInt64.toUInt64 &&& Int64.toUInt64 63)).toInt64
theorem uN_sh8 (w : Int64) : uN (sh8 w) = uN w / 256 := by
  have h : ((8 : Int32).toInt64.toUInt64 &&& Int64.toUInt64 63).toNat % 64 = 8 := by decide
  rw [sh8, uN_shr, h]
def sayG : Nat → Int64 → List Int32
  | 0, _ => []
  | k + 1, w => if w = 0 then [] else c16 (w &&& 255).toInt32 :: sayG k (sh8 w)
def sayT (w : Int64) : List Int32 := sayG 8 w
theorem sayG_le : ∀ k w, (sayG k w).length ≤ k
  | 0, _ => Nat.le_refl _
  | k + 1, w => by
    rw [sayG]
    by_cases h : w = 0
    · rw [if_pos h]; exact Nat.zero_le _
    · rw [if_neg h, List.length_cons]; exact Nat.succ_le_succ (sayG_le k _)
theorem sayT_le (w : Int64) : (sayT w).length ≤ 8 := sayG_le 8 w
def dgn : Nat → Nat → List Int32
  | 0, _ => []
  | k + 1, w => (if 10 ^ k ≤ w ∨ k = 0 then [nI (48 + w / 10 ^ k % 10)] else []) ++ dgn k w
theorem dgn_le : ∀ k w, (dgn k w).length ≤ k
  | 0, _ => Nat.le_refl _
  | k + 1, w => by
    have := dgn_le k w
    rw [dgn, List.length_append]
    by_cases h : 10 ^ k ≤ w ∨ k = 0
    · rw [if_pos h, List.length_singleton]; omega
    · rw [if_neg h, List.length_nil]; omega
def sPut (c : Int32) (st : MT) : MT := (st.1, st.2.1, st.2.2 ++ [c16 c])
def sSay (w : Int64) (st : MT) : MT := (st.1, st.2.1, st.2.2 ++ sayT w)
def sDig (w : Nat) (st : MT) : MT := (st.1, st.2.1, st.2.2 ++ dgn 10 w)
theorem sPut_le (c : Int32) (st : MT) : (sPut c st).2.2.length ≤ st.2.2.length + 1 := by rw [sPut, List.length_append]; exact Nat.le_refl _
theorem sSay_le (w : Int64) (st : MT) : (sSay w st).2.2.length ≤ st.2.2.length + 8 := by rw [sSay, List.length_append]; have := sayT_le w; omega
theorem sDig_le (w : Nat) (st : MT) : (sDig w st).2.2.length ≤ st.2.2.length + 10 := by rw [sDig, List.length_append]; have := dgn_le 10 w; omega

def f_M_part (bi x1 x2 : Int32) : Int32 := (ushr bi x1) &&& (((1 : Int32) <<< (x2 &&& 31)) - 1)
set_option maxRecDepth 100000 in
set_option maxHeartbeats 4000000 in
theorem c_M_part (l : Launch) (adE adK adV : Nat → Nat) (dC : Nat → ClassId) (dI : Nat → Nat → Nat) (cI cC : ClassId) (m0 mt ms mr mk : Nat) (th yb bi d a b f : Int32) (str fk : Nat → Int32) (st : MT) (x1 x2 : Int32) : Met l y_M_part (Cond.code y_M_part b_M_part 3 (some .int) :: WT) ({ frames := 0, cells := 0, slots := 0, locals := 0 }) (va_Pc [.ref m0, .int x1, .int x2] (fun U => rK dC dI cI cC U ∧ mwd dC dI cI cC m0 mt ms mr mk th yb bi d a b f str fk st U.heap)) (vp_Si (fun r => r = f_M_part bi x1 x2)) 0 0 no := by
  refine va_MetF (cc := b_M_part) (maxL := 3) (ret := (some .int)) (by decide +kernel) rfl ?_
  intro p e s m args below meth c s₁ B hml hv
  obtain ⟨rfl, hK, hw⟩ := hv
  have hx := B.exec
  have hb := B.bytes
  have hr := B.returns
  have hts := atoms_spec (ws := (Cond.code y_M_part b_M_part 3 (some .int) :: WT)) B.pre
  have hT : ∀ w ∈ WT, w.before _ s = true := fun w h => hts w (inC w h)
  have hown : s.vm.findClass R_M = some m.cls := findClass_of_methodNamed B.named
  have hlocks := B.notSynchronized
  have hS : va_S no s.heap s.heap [] := va_S.rf
  have S : CallFix p m c b_M_part 3 s _ (Cond.code y_M_part b_M_part 3 (some .int) :: WT) R_M := ⟨hx, hb, hml, hown, hts⟩
  have hl := lv_entry ([.ref m0, .int x1, .int x2]) (n := 3) (Nat.le_of_ble_eq_true rfl)
  rw [lg_entry_eq]
  generalize (lg_sl ([.ref m0, .int x1, .int x2]) ++ List.replicate (3 - (lg_sl ([.ref m0, .int x1, .int x2])).length) Slot.unset).toArray = ls at hl ⊢
  have hl : lv_has ls 3 [(0, .ref m0), (1, .int x1), (2, .int x2)] := hl
  obtain ⟨rg, ft, h1, h2, hP⟩ := hw
  refine lv_aload_n hx hb d_M_part_0 rfl (lv_at hl 0 rfl) ?_
  refine va_get (D := (dC, dI)) (ci := 2) (v := .int bi) (C := R_M) (T := F_M) (N := 14) hx hb hT i_M hown hK hP 0 rfl rfl 7 (by decide) (hT _ m_760) (fun _ h9 => h9) rfl d_M_part_1 ?_
  refine lv_iload_n hx hb d_M_part_4 rfl (lv_at hl 1 rfl) ?_
  refine lv_iushr (v := ushr bi x1) hx hb d_M_part_5 rfl ?_
  refine lv_iconst (v := 1) hx hb d_M_part_6 (by decide) ?_
  refine lv_iload_n hx hb d_M_part_7 rfl (lv_at hl 2 rfl) ?_
  refine lv_ishl hx hb d_M_part_8 ?_
  refine lv_iconst (v := 1) hx hb d_M_part_9 (by decide) ?_
  refine lv_isub hx hb d_M_part_10 ?_
  refine lv_iand hx hb d_M_part_11 ?_
  exact W.iret (v := f_M_part bi x1 x2) hx hb hr (fun t ht hW => ⟨_, rfl, rfl, ht⟩) (fun _ h => by cases h) d_M_part_12

theorem call_M_part {p : Program} {l : Launch} {e : Env} {R : Room} {s : State} {m : MethodId} {args : Array Value} {below : List Frame} {meth : Method} {c : Code} {H : Heap} {locs : List Loc} {cells slots : Nat} {Q : State → Prop} {cc : ByteArray} {pc nL idx : Nat} {ls : Array Slot} {rest : List Value} {Ts : List Cond} {own : String} {dC : Nat → ClassId} {dI : Nat → Nat → Nat} {cI cC : ClassId} {m0 mt ms mr mk : Nat} {th yb bi d a b f : Int32} {str fk : Nat → Int32} {st : MT} {x1 x2 : Int32} (S : CallFix p m c cc nL s args Ts own) (hTs : ∀ w ∈ WT, w ∈ Ts) (hlk : Cond.methodLink own idx y_M_part ∈ WT) (hR : 0 + 1 ≤ R.frames ∧ 8 + (3 + 11) + 0 ≤ R.locals) (hsz : ls.size = nL) (hrm : (rest.map fun v => v.category).sum ≤ 8) (hdg : decode cc pc = .ok (.invokevirtual idx, 3)) (hc : cells ≤ R.cells ∧ slots ≤ R.slots) (hK : rK dC dI cI cC s) (hw : mwd dC dI cI cC m0 mt ms mr mk th yb bi d a b f str fk st H) (kk : W p l e R s m args below meth c H locs cells slots Q (F0 m (pc + 3) ls (.int (f_M_part bi x1 x2) :: rest))) : W p l e R s m args below meth c H locs cells slots Q (F0 m pc ls (.int x2 :: .int x1 :: .ref m0 :: rest)) :=
  vp_callSi (va_Run.run (va_runV (As := [.int x1, .int x2]) (rest := rest) S (c_M_part l (fun _ => 0) (fun _ => 0) (fun _ => 0) dC dI cI cC m0 mt ms mr mk th yb bi d a b f str fk st x1 x2) (cwV 2 S.2.2.2.2 (gV hTs hlk m_811 m_17 m_52 m_812) rfl rfl rfl (by decide +kernel) hR) ⟨fun a U g mk q => ⟨q.1, va_K.moved (u := U) (U := U.calling g mk a) (Vm.Alike.refl U.vm) q.2.1, q.2.2⟩, mwd.recv hK hw, fun U hU hW => ⟨rfl, va_K.moved hW.alike hK, by rw [hU]; exact hw⟩⟩ rfl rfl hsz rfl (lv_room hrm) hdg hc)) (fun r e => by subst e; exact kk)

set_option maxRecDepth 100000 in
set_option maxHeartbeats 4000000 in
theorem c_M_put (l : Launch) (dC : Nat → ClassId) (dI : Nat → Nat → Nat) (cI cC : ClassId) (m0 mt ms mr mk : Nat) (th yb bi d a b f : Int32) (str fk : Nat → Int32) (st : MT) (x : Int32) : Met l y_M_put (Cond.code y_M_put b_M_put 2 none :: WT) ({ frames := 0, cells := 0, slots := 0, locals := 0 }) (va_Pc [.ref m0, .int x] (fun U => mU dC dI cI cC m0 mt ms mr mk th yb bi d a b f str fk st U ∧ st.2.2.length + 1 ≤ 64)) (va_Qv (fun _ : Unit => True) (fun _ t => mwd dC dI cI cC m0 mt ms mr mk th yb bi d a b f str fk (sPut x st) t.heap) (aM m0 mt ms mr mk)) 0 0 (aM m0 mt ms mr mk) := by
  refine va_MetF (cc := b_M_put) (maxL := 2) (ret := none) (by decide +kernel) rfl ?_
  intro p e s m args below meth c s₁ B hml hv
  obtain ⟨rfl, ⟨hK, ap, ok, hw⟩, hlen⟩ := hv
  have hx := B.exec
  have hb := B.bytes
  have hr := B.returns
  have hts := atoms_spec (ws := (Cond.code y_M_put b_M_put 2 none :: WT)) B.pre
  have hT : ∀ w ∈ WT, w.before _ s = true := fun w h => hts w (inC w h)
  have hown : s.vm.findClass R_M = some m.cls := findClass_of_methodNamed B.named
  have hlocks := B.notSynchronized
  have hS : va_S (aM m0 mt ms mr mk) s.heap s.heap [] := va_S.rf
  have S : CallFix p m c b_M_put 2 s _ (Cond.code y_M_put b_M_put 2 none :: WT) R_M := ⟨hx, hb, hml, hown, hts⟩
  have hl := lv_entry ([.ref m0, .int x]) (n := 2) (Nat.le_of_ble_eq_true rfl)
  rw [lg_entry_eq]
  generalize (lg_sl ([.ref m0, .int x]) ++ List.replicate (2 - (lg_sl ([.ref m0, .int x])).length) Slot.unset).toArray = ls at hl ⊢
  have hl : lv_has ls 2 [(0, .ref m0), (1, .int x)] := hl
  have hA : ∀ q, aM m0 mt ms mr mk q → aM m0 mt ms mr mk q := fun _ h => h
  obtain ⟨rg, ft, h1, h2, hP⟩ := hw
  have hD := wM_D ap hA (cI := cI) (cC := cC) (th := th) (yb := yb) (bi := bi) (d := d) (a := a) (b := b) (f := f) (op := st.1) (ln := st.2.1) (sz := nI st.2.2.length) (str := str) (rg := rg) (ft := ft) (fk := fk)
  refine lv_aload_n hx hb d_M_put_0 rfl (lv_at hl 0 rfl) ?_
  refine va_get (D := (dC, dI)) (ci := 2) (v := .ref mt) (C := R_M) (T := F_M) (N := 14) hx hb hT i_M hown hK hP 0 rfl rfl 1 (by decide) (hT _ m_754) (fun _ h9 => h9) rfl d_M_put_1 ?_
  refine lv_aload_n hx hb d_M_put_4 rfl (lv_at hl 0 rfl) ?_
  refine va_get (D := (dC, dI)) (ci := 2) (v := .int (nI st.2.2.length)) (C := R_M) (T := F_M) (N := 14) hx hb hT i_M hown hK hP 0 rfl rfl 2 (by decide) (hT _ m_755) (fun _ h9 => h9) rfl d_M_put_5 ?_
  refine lv_iload_n hx hb d_M_put_8 rfl (lv_at hl 1 rfl) ?_
  refine lv_i2c (v := c16 x) hx hb d_M_put_9 rfl ?_
  refine va_cast (D := (dC, dI)) hx hb hK hP hD hS 1 1 rfl rfl (vp_in_nI (by omega) (by omega)) d_M_put_10 (fun H locs hP hD hS => ?_)
  rw [show vp_nar .char (c16 x) = c16 x from pk_vc x, nI_clamp (by omega)] at hP hD
  have hP : va_P (dC, dI) classes (wM m0 mt ms mr mk cI cC th yb bi d a b f st.1 st.2.1 (nI st.2.2.length) str rg (upd ft st.2.2.length (c16 x)) fk) H := hP
  have hD : va_D (aM m0 mt ms mr mk) (wM m0 mt ms mr mk cI cC th yb bi d a b f st.1 st.2.1 (nI st.2.2.length) str rg (upd ft st.2.2.length (c16 x)) fk) := hD
  refine lv_aload_n hx hb d_M_put_11 rfl (lv_at hl 0 rfl) ?_
  refine lv_dup hx hb d_M_put_12 rfl ?_
  refine va_get (D := (dC, dI)) (ci := 2) (v := .int (nI st.2.2.length)) (C := R_M) (T := F_M) (N := 14) hx hb hT i_M hown hK hP 0 rfl rfl 2 (by decide) (hT _ m_755) (fun _ h9 => h9) rfl d_M_put_13 ?_
  refine lv_iconst (v := 1) hx hb d_M_put_16 (by decide) ?_
  refine lv_iadd hx hb d_M_put_17 ?_
  refine va_put (D := (dC, dI)) (ci := 2) (v := .int (nI st.2.2.length + 1)) (ty := .int) (C := R_M) (T := F_M) (N := 14) hx hb hT i_M ft_M ft_M_ok n_M hown hK hP hD hS 0 rfl rfl 2 (by decide) (hT _ m_755) (fun _ h9 => h9) rfl (by decide +kernel) rfl rfl (Nat.le_of_ble_eq_true rfl) d_M_put_18 (fun H locs hP hD hS => ?_)
  have e : nI st.2.2.length + 1 = nI (sPut x st).2.2.length := by rw [sPut, List.length_append]; exact nI_1 _
  rw [e] at hP
  exact W.vret hx hb hr (fun t ht hW => ⟨⟨(), rfl, trivial, mwd_at ht (⟨rg, _, h1, txm_put h2 hlen (pk_vc x), hP⟩)⟩, hS.F ht⟩) hS.2.2 d_M_put_21

theorem call_M_put {p : Program} {l : Launch} {e : Env} {R : Room} {s : State} {m : MethodId} {args : Array Value} {below : List Frame} {meth : Method} {c : Code} {H : Heap} {locs : List Loc} {cells slots : Nat} {Q : State → Prop} {cc : ByteArray} {pc nL idx : Nat} {ls : Array Slot} {rest : List Value} {Ts : List Cond} {own : String} {A0 : Nat → Prop} {H0 : Heap} {dC : Nat → ClassId} {dI : Nat → Nat → Nat} {cI cC : ClassId} {m0 mt ms mr mk : Nat} {th yb bi d a b f : Int32} {str fk : Nat → Int32} {st : MT} {x : Int32} (S : CallFix p m c cc nL s args Ts own) (hTs : ∀ w ∈ WT, w ∈ Ts) (hlk : Cond.methodLink own idx y_M_put ∈ WT) (hR : 0 + 1 ≤ R.frames ∧ 8 + (2 + 11) + 0 ≤ R.locals) (hsz : ls.size = nL) (hrm : (rest.map fun v => v.category).sum ≤ 8) (hdg : decode cc pc = .ok (.invokevirtual idx, 3)) (hc : cells ≤ R.cells ∧ slots ≤ R.slots) (hK : rK dC dI cI cC s) (ap : apM m0 mt ms mr mk) (ok : mOk d a b) (hS : va_S A0 H0 H locs) (hA : ∀ q, aM m0 mt ms mr mk q → A0 q) (hw : mwd dC dI cI cC m0 mt ms mr mk th yb bi d a b f str fk st H) (hlen : st.2.2.length + 1 ≤ 64) (kk : ∀ (H1 : Heap) (locs1 : List Loc), mwd dC dI cI cC m0 mt ms mr mk th yb bi d a b f str fk (sPut x st) H1 → va_S A0 H0 H1 locs1 → (H.size ≤ H1.size ∧ ∀ q : Nat, q < H.size → ¬ aM m0 mt ms mr mk q → H1[q]? = H[q]?) → W p l e R s m args below meth c H1 locs1 cells slots Q (F0 m (pc + 3) ls (rest))) : W p l e R s m args below meth c H locs cells slots Q (F0 m pc ls (.int x :: .ref m0 :: rest)) :=
  va_callv (va_runV (As := [.int x]) (rest := rest) S (c_M_put l dC dI cI cC m0 mt ms mr mk th yb bi d a b f str fk st x) (cwV 1 S.2.2.2.2 (gV hTs hlk m_844 m_23 m_52 m_845) rfl rfl rfl (by decide +kernel) hR) ⟨fun a U g mk q => ⟨q.1, ⟨q.2.1.blind, q.2.2⟩⟩, mwd.recv hK hw, fun U hU hW => ⟨rfl, ⟨mU.at hK ap ok hw hU hW, hlen⟩⟩⟩ rfl rfl hsz rfl (lv_room hrm) hdg hc) hS (fun q _ h => hA q h) hA (fun u t H1 locs1 ht hvm hp hB hz hk hS1 => kk H1 locs1 (by rw [← ht]; exact hB) hS1 ⟨hz, hk⟩)

set_option maxRecDepth 100000 in
set_option maxHeartbeats 4000000 in
theorem lp_M_say {p : Program} {l : Launch} {e : Env} {R : Room} {s : State} {m : MethodId} {args : Array Value} {below : List Frame} {meth : Method} {c : Code} {cells slots : Nat} {Q : State → Prop} {Ts : List Cond} {A0 : Nat → Prop} {H0 : Heap} {dC : Nat → ClassId} {dI : Nat → Nat → Nat} {cI cC : ClassId} {m0 mt ms mr mk : Nat} {th yb bi d a b f : Int32} {str fk : Nat → Int32} {v : List Int32} {op ln : Int32} {x : Int64} (S : CallFix p m c b_M_say 5 s args Ts R_M) (hTs : ∀ w ∈ WT, w ∈ Ts) (hT : ∀ w ∈ WT, w.before args s = true) (hfr : 1 ≤ R.frames) (hlo : 21 ≤ R.locals) (hc : cells ≤ R.cells ∧ slots ≤ R.slots) (hK : rK dC dI cI cC s) (ap : apM m0 mt ms mr mk) (ok : mOk d a b) (hA : ∀ q, aM m0 mt ms mr mk q → A0 q)
    (kk : ∀ (H : Heap) (locs : List Loc) (ls : Array Slot), mwd dC dI cI cC m0 mt ms mr mk th yb bi d a b f str fk (op, ln, v) H → va_S A0 H0 H locs → W p l e R s m args below meth c H locs cells slots Q (F0 m 26 ls [])) :
    ∀ (k : Nat) (w : Int64) (z : List Int32), uN w < 256 ^ k → z ++ sayG k w = v → z.length + k ≤ 64 → ∀ (H : Heap) (locs : List Loc) (ls : Array Slot), mwd dC dI cI cC m0 mt ms mr mk th yb bi d a b f str fk (op, ln, z) H → va_S A0 H0 H locs → lv_has ls 5 [(3, .long w), (0, .ref m0), (1, .long x)] → W p l e R s m args below meth c H locs cells slots Q (F0 m 2 ls []) := by
  have hx := S.1
  have hb := S.2.1
  have hown := S.2.2.2.1
  intro k
  induction k with
  | zero =>
    intro w z hu hz hl64 H locs ls hw hS hl
    have hw0 : w = 0 := uN_inj (by have : uN w < 1 := hu; have h0 : uN 0 = 0 := rfl; omega)
    subst hw0
    refine lv_lload_n hx hb d_M_say_2 rfl (lv_at hl 0 rfl) ?_
    refine lv_lconst (v := 0) hx hb d_M_say_3 (by decide) ?_
    refine W.lcmp hx hb d_M_say_4 ?_
    refine lv_if_eq (tgt := 26) hx hb d_M_say_5 (by decide) (fun _ => ?_) (fun h => absurd ((lg_cmp_eq _ _).mpr rfl) h)
    exact kk H locs ls (mwd_eq (by rw [← hz, sayG, List.append_nil]) hw) hS
  | succ k ih =>
    intro w z hu hz hl64 H locs ls hw hS hl
    refine lv_lload_n hx hb d_M_say_2 rfl (lv_at hl 0 rfl) ?_
    refine lv_lconst (v := 0) hx hb d_M_say_3 (by decide) ?_
    refine W.lcmp hx hb d_M_say_4 ?_
    refine lv_if_eq (tgt := 26) hx hb d_M_say_5 (by decide) (fun h => ?_) (fun h => ?_)
    · have hw0 : w = 0 := (lg_cmp_eq _ _).mp h
      exact kk H locs ls (mwd_eq (by rw [← hz, sayG, if_pos hw0, List.append_nil]) hw) hS
    · have hw0 : ¬ w = 0 := fun q => h ((lg_cmp_eq _ _).mpr q)
      refine lv_aload_n hx hb d_M_say_8 rfl (lv_at hl 1 rfl) ?_
      refine lv_lload_n hx hb d_M_say_9 rfl (lv_at hl 0 rfl) ?_
      refine lv_ldc2 (v := 255) hx hb hown (hT _ m_841) d_M_say_10 ?_
      refine lv_land hx hb d_M_say_13 ?_
      refine lv_l2i (v := (w &&& 255).toInt32) hx hb d_M_say_14 rfl ?_
      refine call_M_put S hTs m_842 ⟨by omega, by omega⟩ hl.1 (Nat.le_of_ble_eq_true rfl) d_M_say_15 hc hK ap ok hS hA hw (by show z.length + 1 ≤ 64; omega) (fun H locs hw hS _ => ?_)
      refine lv_lload_n hx hb d_M_say_18 rfl (lv_at hl 0 rfl) ?_
      refine lv_bipush (v := 8) hx hb d_M_say_19 (by decide) ?_
      refine lv_lushr (v := sh8 w) hx hb d_M_say_21 rfl ?_
      refine lv_lstore_n (lv' := [(3, .long (sh8 w)), (0, .ref m0), (1, .long x)]) hx hb d_M_say_22 rfl hl (by decide) rfl (fun ls hl => ?_)
      refine lv_goto (tgt := 2) hx hb d_M_say_23 (by decide) ?_
      refine ih (sh8 w) (z ++ [c16 (w &&& 255).toInt32]) (by rw [uN_sh8]; rw [Nat.pow_succ] at hu; exact Nat.div_lt_of_lt_mul (by rw [Nat.mul_comm]; exact hu)) ?_ (by rw [List.length_append, List.length_singleton]; omega) H locs ls hw hS hl
      rw [← hz, sayG, if_neg hw0, List.append_assoc]
      rfl

set_option maxRecDepth 100000 in
set_option maxHeartbeats 4000000 in
theorem c_M_say (l : Launch) (dC : Nat → ClassId) (dI : Nat → Nat → Nat) (cI cC : ClassId) (m0 mt ms mr mk : Nat) (th yb bi d a b f : Int32) (str fk : Nat → Int32) (st : MT) (x : Int64) : Met l y_M_say (Cond.code y_M_say b_M_say 5 none :: WT) ({ frames := 1, cells := 0, slots := 0, locals := 21 }) (va_Pc [.ref m0, .long x] (fun U => mU dC dI cI cC m0 mt ms mr mk th yb bi d a b f str fk st U ∧ st.2.2.length + 8 ≤ 64)) (va_Qv (fun _ : Unit => True) (fun _ t => mwd dC dI cI cC m0 mt ms mr mk th yb bi d a b f str fk (sSay x st) t.heap) (aM m0 mt ms mr mk)) 0 0 (aM m0 mt ms mr mk) := by
  refine va_MetF (cc := b_M_say) (maxL := 5) (ret := none) (by decide +kernel) rfl ?_
  intro p e s m args below meth c s₁ B hml hv
  obtain ⟨rfl, ⟨hK, ap, ok, hw⟩, hlen⟩ := hv
  have hx := B.exec
  have hb := B.bytes
  have hr := B.returns
  have hts := atoms_spec (ws := (Cond.code y_M_say b_M_say 5 none :: WT)) B.pre
  have hT : ∀ w ∈ WT, w.before _ s = true := fun w h => hts w (inC w h)
  have hown : s.vm.findClass R_M = some m.cls := findClass_of_methodNamed B.named
  have hlocks := B.notSynchronized
  have hS : va_S (aM m0 mt ms mr mk) s.heap s.heap [] := va_S.rf
  have S : CallFix p m c b_M_say 5 s _ (Cond.code y_M_say b_M_say 5 none :: WT) R_M := ⟨hx, hb, hml, hown, hts⟩
  have hl := lv_entry ([.ref m0, .long x]) (n := 5) (Nat.le_of_ble_eq_true rfl)
  rw [lg_entry_eq]
  generalize (lg_sl ([.ref m0, .long x]) ++ List.replicate (5 - (lg_sl ([.ref m0, .long x])).length) Slot.unset).toArray = ls at hl ⊢
  have hl : lv_has ls 5 [(0, .ref m0), (1, .long x)] := hl
  have hA : ∀ q, aM m0 mt ms mr mk q → aM m0 mt ms mr mk q := fun _ h => h
  refine lv_lload_n hx hb d_M_say_0 rfl (lv_at hl 1 rfl) ?_
  refine lv_lstore_n (lv' := [(3, .long x), (0, .ref m0), (1, .long x)]) hx hb d_M_say_1 rfl hl (by decide) rfl (fun ls hl => ?_)
  refine lp_M_say (v := st.2.2 ++ sayT x) S inC hT (Nat.le_of_ble_eq_true rfl) (Nat.le_of_ble_eq_true rfl) ⟨(Nat.le_of_ble_eq_true rfl), (Nat.le_of_ble_eq_true rfl)⟩ hK ap ok hA (fun H locs ls hw hS => ?_) 8 x st.2.2 (uN_lt x) rfl hlen _ _ ls (mwd_eq rfl hw) hS hl
  exact W.vret hx hb hr (fun t ht hW => ⟨⟨(), rfl, trivial, mwd_at ht (hw)⟩, hS.F ht⟩) hS.2.2 d_M_say_26

theorem call_M_say {p : Program} {l : Launch} {e : Env} {R : Room} {s : State} {m : MethodId} {args : Array Value} {below : List Frame} {meth : Method} {c : Code} {H : Heap} {locs : List Loc} {cells slots : Nat} {Q : State → Prop} {cc : ByteArray} {pc nL idx : Nat} {ls : Array Slot} {rest : List Value} {Ts : List Cond} {own : String} {A0 : Nat → Prop} {H0 : Heap} {dC : Nat → ClassId} {dI : Nat → Nat → Nat} {cI cC : ClassId} {m0 mt ms mr mk : Nat} {th yb bi d a b f : Int32} {str fk : Nat → Int32} {st : MT} {x : Int64} (S : CallFix p m c cc nL s args Ts own) (hTs : ∀ w ∈ WT, w ∈ Ts) (hlk : Cond.methodLink own idx y_M_say ∈ WT) (hR : 1 + 1 ≤ R.frames ∧ 8 + (5 + 11) + 21 ≤ R.locals) (hsz : ls.size = nL) (hrm : (rest.map fun v => v.category).sum ≤ 8) (hdg : decode cc pc = .ok (.invokevirtual idx, 3)) (hc : cells ≤ R.cells ∧ slots ≤ R.slots) (hK : rK dC dI cI cC s) (ap : apM m0 mt ms mr mk) (ok : mOk d a b) (hS : va_S A0 H0 H locs) (hA : ∀ q, aM m0 mt ms mr mk q → A0 q) (hw : mwd dC dI cI cC m0 mt ms mr mk th yb bi d a b f str fk st H) (hlen : st.2.2.length + 8 ≤ 64) (kk : ∀ (H1 : Heap) (locs1 : List Loc), mwd dC dI cI cC m0 mt ms mr mk th yb bi d a b f str fk (sSay x st) H1 → va_S A0 H0 H1 locs1 → (H.size ≤ H1.size ∧ ∀ q : Nat, q < H.size → ¬ aM m0 mt ms mr mk q → H1[q]? = H[q]?) → W p l e R s m args below meth c H1 locs1 cells slots Q (F0 m (pc + 3) ls (rest))) : W p l e R s m args below meth c H locs cells slots Q (F0 m pc ls (.long x :: .ref m0 :: rest)) :=
  va_callv (va_runV (As := [.long x]) (rest := rest) S (c_M_say l dC dI cI cC m0 mt ms mr mk th yb bi d a b f str fk st x) (cwV 1 S.2.2.2.2 (gV hTs hlk m_839 m_22 m_52 m_840) rfl rfl rfl (by decide +kernel) hR) ⟨fun a U g mk q => ⟨q.1, ⟨q.2.1.blind, q.2.2⟩⟩, mwd.recv hK hw, fun U hU hW => ⟨rfl, ⟨mU.at hK ap ok hw hU hW, hlen⟩⟩⟩ rfl rfl hsz rfl (lv_room hrm) hdg hc) hS (fun q _ h => hA q h) hA (fun u t H1 locs1 ht hvm hp hB hz hk hS1 => kk H1 locs1 (by rw [← ht]; exact hB) hS1 ⟨hz, hk⟩)
