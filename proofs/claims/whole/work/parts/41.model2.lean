def dgf : Nat → Nat → List Int32
  | 0, _ => []
  | k + 1, w => nI (48 + w / 10 ^ k % 10) :: dgf k w
theorem dgf_len : ∀ k w, (dgf k w).length = k
  | 0, _ => rfl
  | k + 1, w => by rw [dgf, List.length_cons, dgf_len k w]
theorem dgn_skip {w j : Nat} (hw : w < 10 ^ (j + 1)) : ∀ n, dgn (j + 1 + n) w = dgn (j + 1) w
  | 0 => rfl
  | n + 1 => by
    have h1 : 10 ^ (j + 1) ≤ 10 ^ (j + 1 + n) := Nat.pow_le_pow_right (by decide) (by omega)
    show dgn (j + 1 + n + 1) w = _
    rw [dgn, if_neg (by omega), List.nil_append]
    exact dgn_skip hw n
theorem dgn_all {w j : Nat} (hj : j = 0 ∨ 10 ^ j ≤ w) : ∀ k, k ≤ j + 1 → dgn k w = dgf k w
  | 0, _ => rfl
  | k + 1, h => by
    have c : 10 ^ k ≤ w ∨ k = 0 := by
      rcases hj with hj | hj
      · exact Or.inr (by omega)
      · exact Or.inl (Nat.le_trans (Nat.pow_le_pow_right (by decide) (by omega)) hj)
    rw [dgn, if_pos c, dgf, dgn_all hj k (by omega)]
    rfl
theorem dgn_dgf {w j : Nat} (hj : j = 0 ∨ 10 ^ j ≤ w) (hw : w < 10 ^ (j + 1)) (h9 : j ≤ 9) : dgf (j + 1) w = dgn 10 w := by
  have h := dgn_skip hw (9 - j)
  rw [show j + 1 + (9 - j) = 10 by omega] at h
  rw [h, dgn_all hj (j + 1) (Nat.le_refl _)]
theorem c16_nI {m : Nat} (h : m < 65536) : c16 (nI m) = nI m := by
  rw [c16, pk_char, pk_tn (by omega), Nat.mod_eq_of_lt h]
theorem dg_ch {w k : Nat} (hw : w < 2 ^ 32) (hk : k ≤ 9) : ((48 : Int64) + (lN w / lN (10 ^ k) - lN w / lN (10 ^ k) / 10 * 10)).toInt32 = nI (48 + w / 10 ^ k % 10) := by
  obtain ⟨h0, h1⟩ := p10 hk
  have h2 : w / 10 ^ k < 2 ^ 63 := Nat.lt_of_le_of_lt (Nat.div_le_self _ _) (by omega)
  rw [pk_lDiv (by omega) h0 (by omega)]
  have e := pk_lRem (a := w / 10 ^ k) (b := 10) h2 (by decide) (by decide)
  rw [show (lN (w / 10 ^ k) - lN (w / 10 ^ k) / 10 * 10) = lN (w / 10 ^ k % 10) from e]
  rw [show (48 : Int64) + lN (w / 10 ^ k % 10) = lN (48 + w / 10 ^ k % 10) from lN_add 48 _, lN_i]

set_option maxRecDepth 100000 in
set_option maxHeartbeats 4000000 in
theorem lq_M_digits {p : Program} {l : Launch} {e : Env} {R : Room} {s : State} {m : MethodId} {args : Array Value} {below : List Frame} {meth : Method} {c : Code} {cells slots : Nat} {Q : State → Prop} {Ts : List Cond} {A0 : Nat → Prop} {H0 : Heap} {dC : Nat → ClassId} {dI : Nat → Nat → Nat} {cI cC : ClassId} {m0 mt ms mr mk : Nat} {th yb bi d a b f : Int32} {str fk : Nat → Int32} {v : List Int32} {op ln : Int32} {w : Nat} {u3 : Int64} (S : CallFix p m c b_M_digits 7 s args Ts R_M) (hTs : ∀ w ∈ WT, w ∈ Ts) (hT : ∀ w ∈ WT, w.before args s = true) (hfr : 1 ≤ R.frames) (hlo : 21 ≤ R.locals) (hc : cells ≤ R.cells ∧ slots ≤ R.slots) (hK : rK dC dI cI cC s) (ap : apM m0 mt ms mr mk) (ok : mOk d a b) (hA : ∀ q, aM m0 mt ms mr mk q → A0 q) (hw32 : w < 2 ^ 32)
    (kk : ∀ (H : Heap) (locs : List Loc) (ls : Array Slot), mwd dC dI cI cC m0 mt ms mr mk th yb bi d a b f str fk (op, ln, v) H → va_S A0 H0 H locs → W p l e R s m args below meth c H locs cells slots Q (F0 m 59 ls [])) :
    ∀ (r : Nat) (z : List Int32), r ≤ 10 → z ++ dgf r w = v → z.length + r ≤ 64 → ∀ (H : Heap) (locs : List Loc) (ls : Array Slot), mwd dC dI cI cC m0 mt ms mr mk th yb bi d a b f str fk (op, ln, z) H → va_S A0 H0 H locs → lv_has ls 7 [(5, .long (lN (10 ^ r / 10))), (3, .long u3), (0, .ref m0), (1, .long (lN w))] → W p l e R s m args below meth c H locs cells slots Q (F0 m 24 ls []) := by
  have hx := S.1
  have hb := S.2.1
  have hown := S.2.2.2.1
  intro r
  induction r with
  | zero =>
    intro z _ hz hl64 H locs ls hw hS hl
    refine lv_lload hx hb d_M_digits_24 (lv_at hl 0 rfl) ?_
    refine lv_lconst (v := 0) hx hb d_M_digits_26 (by decide) ?_
    refine W.lcmp hx hb d_M_digits_27 ?_
    refine lv_if_le (tgt := 59) hx hb d_M_digits_28 (by decide) (fun _ => ?_) (fun h => absurd (by decide) h)
    exact kk H locs ls (mwd_eq (by rw [← hz, dgf, List.append_nil]) hw) hS
  | succ k ih =>
    intro z hr hz hl64 H locs ls hw hS hl
    obtain ⟨hp0, hp1⟩ := p10 (k := k) (by omega)
    rw [p10d] at hl
    refine lv_lload hx hb d_M_digits_24 (lv_at hl 0 rfl) ?_
    refine lv_lconst (v := 0) hx hb d_M_digits_26 (by decide) ?_
    refine W.lcmp hx hb d_M_digits_27 ?_
    refine lv_if_le (tgt := 59) hx hb d_M_digits_28 (by decide) (fun h => absurd ((pk_lLE (a := 10 ^ k) (b := 0) (by omega) (by decide)).mp ((lg_cmp_le _ _).mp h)) (by omega)) (fun _ => ?_)
    refine lv_aload_n hx hb d_M_digits_31 rfl (lv_at hl 2 rfl) ?_
    refine lv_ldc2 (v := 48) hx hb hown (hT _ m_891) d_M_digits_32 ?_
    refine lv_lload_n hx hb d_M_digits_35 rfl (lv_at hl 3 rfl) ?_
    refine lv_lload hx hb d_M_digits_36 (lv_at hl 0 rfl) ?_
    refine lv_ldiv hx hb d_M_digits_38 (fun h => absurd ((pk_lEQ (a := 10 ^ k) (b := 0) (by omega) (by decide)).mp h) (by omega)) ?_
    refine lv_ldc2 (v := 10) hx hb hown (hT _ m_890) d_M_digits_39 ?_
    refine lv_lrem hx hb d_M_digits_42 (by decide) ?_
    refine lv_ladd hx hb d_M_digits_43 ?_
    refine lv_l2i (v := nI (48 + w / 10 ^ k % 10)) hx hb d_M_digits_44 (dg_ch hw32 (by omega)) ?_
    refine call_M_put S hTs m_842 ⟨by omega, by omega⟩ hl.1 (Nat.le_of_ble_eq_true rfl) d_M_digits_45 hc hK ap ok hS hA hw (by show z.length + 1 ≤ 64; omega) (fun H locs hw hS _ => ?_)
    refine lv_lload hx hb d_M_digits_48 (lv_at hl 0 rfl) ?_
    refine lv_ldc2 (v := 10) hx hb hown (hT _ m_890) d_M_digits_50 ?_
    refine lv_ldiv hx hb d_M_digits_53 (by decide) ?_
    refine lv_topl (fun y ey => ?_)
    have ey2 : y = lN (10 ^ k / 10) := by rw [ey]; exact pk_lDiv (a := 10 ^ k) (b := 10) (by omega) (by decide) (by decide)
    refine lv_lstore (lv' := [(5, .long y), (3, .long u3), (0, .ref m0), (1, .long (lN w))]) hx hb d_M_digits_54 hl (by decide) rfl (fun ls hl => ?_)
    refine lv_goto (tgt := 24) hx hb d_M_digits_56 (by decide) ?_
    rw [ey2] at hl
    have hd : w / 10 ^ k % 10 < 10 := Nat.mod_lt _ (by decide)
    refine ih (z ++ [nI (48 + w / 10 ^ k % 10)]) (by omega) (by rw [← hz, dgf, List.append_assoc]; rfl) (by rw [List.length_append, List.length_singleton]; omega) H locs ls (mwd_eq (by rw [sPut, c16_nI (by omega)]) hw) hS hl

set_option maxRecDepth 100000 in
set_option maxHeartbeats 4000000 in
theorem lp_M_digits {p : Program} {l : Launch} {e : Env} {R : Room} {s : State} {m : MethodId} {args : Array Value} {below : List Frame} {meth : Method} {c : Code} {cells slots : Nat} {Q : State → Prop} {Ts : List Cond} {A0 : Nat → Prop} {H0 : Heap} {dC : Nat → ClassId} {dI : Nat → Nat → Nat} {cI cC : ClassId} {m0 mt ms mr mk : Nat} {th yb bi d a b f : Int32} {str fk : Nat → Int32} {v z : List Int32} {op ln : Int32} {w : Nat} (S : CallFix p m c b_M_digits 7 s args Ts R_M) (hTs : ∀ w ∈ WT, w ∈ Ts) (hT : ∀ w ∈ WT, w.before args s = true) (hfr : 1 ≤ R.frames) (hlo : 21 ≤ R.locals) (hc : cells ≤ R.cells ∧ slots ≤ R.slots) (hK : rK dC dI cI cC s) (ap : apM m0 mt ms mr mk) (ok : mOk d a b) (hA : ∀ q, aM m0 mt ms mr mk q → A0 q) (hw32 : w < 2 ^ 32) (hz : z ++ dgn 10 w = v) (hl64 : z.length + 10 ≤ 64)
    (kk : ∀ (H : Heap) (locs : List Loc) (ls : Array Slot), mwd dC dI cI cC m0 mt ms mr mk th yb bi d a b f str fk (op, ln, v) H → va_S A0 H0 H locs → W p l e R s m args below meth c H locs cells slots Q (F0 m 59 ls []))
    {H : Heap} {locs : List Loc} (hw : mwd dC dI cI cC m0 mt ms mr mk th yb bi d a b f str fk (op, ln, z) H) (hS : va_S A0 H0 H locs) :
    ∀ (n j : Nat), j + n = 9 → (j = 0 ∨ 10 ^ j ≤ w) → ∀ (ls : Array Slot), lv_has ls 7 [(3, .long (lN (10 ^ j))), (0, .ref m0), (1, .long (lN w))] → W p l e R s m args below meth c H locs cells slots Q (F0 m 2 ls []) := by
  have hx := S.1
  have hb := S.2.1
  have hown := S.2.2.2.1
  have stop : ∀ (j : Nat), j ≤ 9 → (j = 0 ∨ 10 ^ j ≤ w) → w < 10 ^ (j + 1) → ∀ (ls : Array Slot), lv_has ls 7 [(3, .long (lN (10 ^ j))), (0, .ref m0), (1, .long (lN w))] → W p l e R s m args below meth c H locs cells slots Q (F0 m 21 ls []) := by
    intro j hj9 hj hwj ls hl
    refine lv_lload_n hx hb d_M_digits_21 rfl (lv_at hl 0 rfl) ?_
    refine lv_lstore (lv' := [(5, .long (lN (10 ^ j))), (3, .long (lN (10 ^ j))), (0, .ref m0), (1, .long (lN w))]) hx hb d_M_digits_22 hl (by decide) rfl (fun ls hl => ?_)
    refine lq_M_digits (u3 := lN (10 ^ j)) S hTs hT hfr hlo hc hK ap ok hA hw32 kk (j + 1) z (by omega) (by rw [dgn_dgf hj hwj hj9]; exact hz) (by omega) H locs ls hw hS ?_
    rw [p10d]
    exact hl
  intro n
  induction n with
  | zero =>
    intro j hj9 hj ls hl
    have hj9' : j = 9 := by omega
    subst hj9'
    refine lv_lload_n hx hb d_M_digits_2 rfl (lv_at hl 2 rfl) ?_
    refine lv_lload_n hx hb d_M_digits_3 rfl (lv_at hl 0 rfl) ?_
    refine lv_ldiv hx hb d_M_digits_4 (by decide) ?_
    refine lv_topl (fun y ey => ?_)
    rw [pk_lDiv (by omega) (by decide) (by decide)] at ey
    subst ey
    refine lv_ldc2 (v := 9) hx hb hown (hT _ m_889) d_M_digits_5 ?_
    refine W.lcmp hx hb d_M_digits_8 ?_
    exact lv_if_le (tgt := 21) hx hb d_M_digits_9 (by decide) (fun _ => stop 9 (by omega) hj (by omega) ls hl) (fun h => absurd ((lg_cmp_le _ _).mpr ((pk_lLE (a := w / 10 ^ 9) (b := 9) (by omega) (by decide)).mpr (by omega))) h)
  | succ n ih =>
    intro j hj9 hj ls hl
    obtain ⟨hp0, hp1⟩ := p10 (k := j) (by omega)
    have hdv : w / 10 ^ j ≤ w := Nat.div_le_self _ _
    refine lv_lload_n hx hb d_M_digits_2 rfl (lv_at hl 2 rfl) ?_
    refine lv_lload_n hx hb d_M_digits_3 rfl (lv_at hl 0 rfl) ?_
    refine lv_ldiv hx hb d_M_digits_4 (fun h => absurd ((pk_lEQ (a := 10 ^ j) (b := 0) (by omega) (by decide)).mp h) (by omega)) ?_
    refine lv_topl (fun y ey => ?_)
    rw [pk_lDiv (by omega) hp0 (by omega)] at ey
    subst ey
    refine lv_ldc2 (v := 9) hx hb hown (hT _ m_889) d_M_digits_5 ?_
    refine W.lcmp hx hb d_M_digits_8 ?_
    refine lv_if_le (tgt := 21) hx hb d_M_digits_9 (by decide) (fun h => ?_) (fun h => ?_)
    · have h2 := (pk_lLE (a := w / 10 ^ j) (b := 9) (by omega) (by decide)).mp ((lg_cmp_le _ _).mp h)
      have h3 : w < 10 * 10 ^ j := (Nat.div_lt_iff_lt_mul hp0).mp (by omega)
      exact stop j (by omega) hj (by rw [Nat.pow_succ]; omega) ls hl
    · have h2 : ¬ w / 10 ^ j ≤ 9 := fun q => h ((lg_cmp_le _ _).mpr ((pk_lLE (a := w / 10 ^ j) (b := 9) (by omega) (by decide)).mpr q))
      have h3 : 10 * 10 ^ j ≤ w := (Nat.le_div_iff_mul_le hp0).mp (by omega)
      refine lv_ldc2 (v := 10) hx hb hown (hT _ m_890) d_M_digits_12 ?_
      refine lv_lload_n hx hb d_M_digits_15 rfl (lv_at hl 0 rfl) ?_
      refine lv_lmul hx hb d_M_digits_16 ?_
      refine lv_topl (fun y ey => ?_)
      have ey2 : y = lN (10 ^ (j + 1)) := by rw [ey, show (10 : Int64) * lN (10 ^ j) = lN (10 * 10 ^ j) from lN_mul 10 _, Nat.pow_succ, Nat.mul_comm]
      refine lv_lstore_n (lv' := [(3, .long y), (0, .ref m0), (1, .long (lN w))]) hx hb d_M_digits_17 rfl hl (by decide) rfl (fun ls hl => ?_)
      refine lv_goto (tgt := 2) hx hb d_M_digits_18 (by decide) ?_
      rw [ey2] at hl
      exact ih (j + 1) (by omega) (Or.inr (by rw [Nat.pow_succ]; omega)) ls hl

set_option maxRecDepth 100000 in
set_option maxHeartbeats 4000000 in
theorem c_M_digits (l : Launch) (dC : Nat → ClassId) (dI : Nat → Nat → Nat) (cI cC : ClassId) (m0 mt ms mr mk : Nat) (th yb bi d a b f : Int32) (str fk : Nat → Int32) (st : MT) (w : Nat) : Met l y_M_digits (Cond.code y_M_digits b_M_digits 7 none :: WT) ({ frames := 1, cells := 0, slots := 0, locals := 21 }) (va_Pc [.ref m0, .long (lN w)] (fun U => mU dC dI cI cC m0 mt ms mr mk th yb bi d a b f str fk st U ∧ w < 2 ^ 32 ∧ st.2.2.length + 10 ≤ 64)) (va_Qv (fun _ : Unit => True) (fun _ t => mwd dC dI cI cC m0 mt ms mr mk th yb bi d a b f str fk (sDig w st) t.heap) (aM m0 mt ms mr mk)) 0 0 (aM m0 mt ms mr mk) := by
  refine va_MetF (cc := b_M_digits) (maxL := 7) (ret := none) (by decide +kernel) rfl ?_
  intro p e s m args below meth c s₁ B hml hv
  obtain ⟨rfl, ⟨hK, ap, ok, hw⟩, hw32, hlen⟩ := hv
  have hx := B.exec
  have hb := B.bytes
  have hr := B.returns
  have hts := atoms_spec (ws := (Cond.code y_M_digits b_M_digits 7 none :: WT)) B.pre
  have hT : ∀ w ∈ WT, w.before _ s = true := fun w h => hts w (inC w h)
  have hown : s.vm.findClass R_M = some m.cls := findClass_of_methodNamed B.named
  have hlocks := B.notSynchronized
  have hS : va_S (aM m0 mt ms mr mk) s.heap s.heap [] := va_S.rf
  have S : CallFix p m c b_M_digits 7 s _ (Cond.code y_M_digits b_M_digits 7 none :: WT) R_M := ⟨hx, hb, hml, hown, hts⟩
  have hl := lv_entry ([.ref m0, .long (lN w)]) (n := 7) (Nat.le_of_ble_eq_true rfl)
  rw [lg_entry_eq]
  generalize (lg_sl ([.ref m0, .long (lN w)]) ++ List.replicate (7 - (lg_sl ([.ref m0, .long (lN w)])).length) Slot.unset).toArray = ls at hl ⊢
  have hl : lv_has ls 7 [(0, .ref m0), (1, .long (lN w))] := hl
  have hA : ∀ q, aM m0 mt ms mr mk q → aM m0 mt ms mr mk q := fun _ h => h
  refine lv_lconst (v := 1) hx hb d_M_digits_0 (by decide) ?_
  refine lv_lstore_n (lv' := [(3, .long (lN (10 ^ 0))), (0, .ref m0), (1, .long (lN w))]) hx hb d_M_digits_1 rfl hl (by decide) rfl (fun ls hl => ?_)
  refine lp_M_digits (v := st.2.2 ++ dgn 10 w) (z := st.2.2) S inC hT (Nat.le_of_ble_eq_true rfl) (Nat.le_of_ble_eq_true rfl) ⟨(Nat.le_of_ble_eq_true rfl), (Nat.le_of_ble_eq_true rfl)⟩ hK ap ok hA hw32 rfl hlen (fun H locs ls hw hS => ?_) (mwd_eq rfl hw) hS 9 0 rfl (Or.inl rfl) ls hl
  exact W.vret hx hb hr (fun t ht hW => ⟨⟨(), rfl, trivial, mwd_at ht (hw)⟩, hS.F ht⟩) hS.2.2 d_M_digits_59

theorem call_M_digits {p : Program} {l : Launch} {e : Env} {R : Room} {s : State} {m : MethodId} {args : Array Value} {below : List Frame} {meth : Method} {c : Code} {H : Heap} {locs : List Loc} {cells slots : Nat} {Q : State → Prop} {cc : ByteArray} {pc nL idx : Nat} {ls : Array Slot} {rest : List Value} {Ts : List Cond} {own : String} {A0 : Nat → Prop} {H0 : Heap} {dC : Nat → ClassId} {dI : Nat → Nat → Nat} {cI cC : ClassId} {m0 mt ms mr mk : Nat} {th yb bi d a b f : Int32} {str fk : Nat → Int32} {st : MT} {w : Nat} (S : CallFix p m c cc nL s args Ts own) (hTs : ∀ w ∈ WT, w ∈ Ts) (hlk : Cond.methodLink own idx y_M_digits ∈ WT) (hR : 1 + 1 ≤ R.frames ∧ 8 + (7 + 11) + 21 ≤ R.locals) (hsz : ls.size = nL) (hrm : (rest.map fun v => v.category).sum ≤ 8) (hdg : decode cc pc = .ok (.invokevirtual idx, 3)) (hc : cells ≤ R.cells ∧ slots ≤ R.slots) (hK : rK dC dI cI cC s) (ap : apM m0 mt ms mr mk) (ok : mOk d a b) (hS : va_S A0 H0 H locs) (hA : ∀ q, aM m0 mt ms mr mk q → A0 q) (hw : mwd dC dI cI cC m0 mt ms mr mk th yb bi d a b f str fk st H) (hw32 : w < 2 ^ 32) (hlen : st.2.2.length + 10 ≤ 64) (kk : ∀ (H1 : Heap) (locs1 : List Loc), mwd dC dI cI cC m0 mt ms mr mk th yb bi d a b f str fk (sDig w st) H1 → va_S A0 H0 H1 locs1 → (H.size ≤ H1.size ∧ ∀ q : Nat, q < H.size → ¬ aM m0 mt ms mr mk q → H1[q]? = H[q]?) → W p l e R s m args below meth c H1 locs1 cells slots Q (F0 m (pc + 3) ls (rest))) : W p l e R s m args below meth c H locs cells slots Q (F0 m pc ls (.long (lN w) :: .ref m0 :: rest)) :=
  va_callv (va_runV (As := [.long (lN w)]) (rest := rest) S (c_M_digits l dC dI cI cC m0 mt ms mr mk th yb bi d a b f str fk st w) (cwV 1 S.2.2.2.2 (gV hTs hlk m_887 m_29 m_52 m_888) rfl rfl rfl (by decide +kernel) hR) ⟨fun a U g mk q => ⟨q.1, ⟨q.2.1.blind, q.2.2⟩⟩, mwd.recv hK hw, fun U hU hW => ⟨rfl, ⟨mU.at hK ap ok hw hU hW, hw32, hlen⟩⟩⟩ rfl rfl hsz rfl (lv_room hrm) hdg hc) hS (fun q _ h => hA q h) hA (fun u t H1 locs1 ht hvm hp hB hz hk hS1 => kk H1 locs1 (by rw [← ht]; exact hB) hS1 ⟨hz, hk⟩)

def nA (x : Int32) : Nat := x.toInt.natAbs
theorem nA_lt (x : Int32) : nA x < 2 ^ 32 := by
  have h1 := x.toInt_lt
  have h2 := x.le_toInt
  rw [nA]; omega
theorem nA_pos {x : Int32} (h : 0 ≤ x) : x.toInt64 = lN (nA x) := by
  have h0 : (0 : Int) ≤ x.toInt := by simpa using Int32.le_iff_toInt_le.mp h
  apply Int64.toInt_inj.mp
  have := nA_lt x
  rw [Int32.toInt_toInt64, pk_lT (by omega), nA]; omega
theorem nA_neg {x : Int32} (h : ¬ 0 ≤ x) : -x.toInt64 = lN (nA x) := by
  have h0 : x.toInt < 0 := by
    have := mt Int32.le_iff_toInt_le.mpr h
    simpa using this
  have h2 := x.le_toInt
  apply Int64.toInt_inj.mp
  have := nA_lt x
  rw [pk_lT (by omega), Int64.toInt_neg, Int32.toInt_toInt64, nA]
  rw [Int.bmod_eq_of_le (by omega) (by omega)]
  omega
def sNum (x : Int32) (st : MT) : MT := sDig (nA x) (if 0 ≤ x then st else sPut 45 st)
theorem sNum_le (x : Int32) (st : MT) : (sNum x st).2.2.length ≤ st.2.2.length + 11 := by
  rw [sNum]
  have h1 := sDig_le (nA x) (if 0 ≤ x then st else sPut 45 st)
  by_cases h : 0 ≤ x
  · rw [if_pos h] at h1 ⊢; omega
  · rw [if_neg h] at h1 ⊢; have := sPut_le 45 st; omega
def sNext (st : MT) : MT := ((if st.1 ≤ 0 then sPut 32 st else sPut 32 (sPut 44 st)).1 + 1, (if st.1 ≤ 0 then sPut 32 st else sPut 32 (sPut 44 st)).2)
theorem sNext_le (st : MT) : (sNext st).2.2.length ≤ st.2.2.length + 2 := by
  rw [sNext]
  have h2 := sPut_le 32 st
  have h3 := sPut_le 32 (sPut 44 st)
  have h4 := sPut_le 44 st
  by_cases h : st.1 ≤ 0
  · rw [if_pos h]; show (sPut 32 st).2.2.length ≤ _; omega
  · rw [if_neg h]; show (sPut 32 (sPut 44 st)).2.2.length ≤ _; omega
def sName (w : Int64) (st : MT) : MT := sSay w (0, 1, st.2.2)
theorem sName_le (w : Int64) (st : MT) : (sName w st).2.2.length ≤ st.2.2.length + 8 := sSay_le w (0, 1, st.2.2)
def rgw (x : Int32) : Int64 := (rgs x.toNatClampNeg).toInt64
def sReg (x : Int32) (st : MT) : MT := sSay (rgw x) (sNext st)
theorem sReg_le (x : Int32) (st : MT) : (sReg x st).2.2.length ≤ st.2.2.length + 10 := by have h1 := sSay_le (rgw x) (sNext st); have h2 := sNext_le st; rw [sReg]; omega
def sBra (x : Int32) (st : MT) : MT := sPut 41 (sSay (rgw x) (sPut 40 st))
theorem sBra_le (x : Int32) (st : MT) : (sBra x st).2.2.length ≤ st.2.2.length + 10 := by have h1 := sPut_le 41 (sSay (rgw x) (sPut 40 st)); have h2 := sSay_le (rgw x) (sPut 40 st); have h3 := sPut_le 40 st; rw [sBra]; omega

set_option maxRecDepth 100000 in
set_option maxHeartbeats 4000000 in
theorem c_M_number (l : Launch) (dC : Nat → ClassId) (dI : Nat → Nat → Nat) (cI cC : ClassId) (m0 mt ms mr mk : Nat) (th yb bi d a b f : Int32) (str fk : Nat → Int32) (st : MT) (x : Int32) : Met l y_M_number (Cond.code y_M_number b_M_number 2 none :: WT) ({ frames := 2, cells := 0, slots := 0, locals := 47 }) (va_Pc [.ref m0, .int x] (fun U => mU dC dI cI cC m0 mt ms mr mk th yb bi d a b f str fk st U ∧ st.2.2.length + 11 ≤ 64)) (va_Qv (fun _ : Unit => True) (fun _ t => mwd dC dI cI cC m0 mt ms mr mk th yb bi d a b f str fk (sNum x st) t.heap) (aM m0 mt ms mr mk)) 0 0 (aM m0 mt ms mr mk) := by
  refine va_MetF (cc := b_M_number) (maxL := 2) (ret := none) (by decide +kernel) rfl ?_
  intro p e s m args below meth c s₁ B hml hv
  obtain ⟨rfl, ⟨hK, ap, ok, hw⟩, hlen⟩ := hv
  have hx := B.exec
  have hb := B.bytes
  have hr := B.returns
  have hts := atoms_spec (ws := (Cond.code y_M_number b_M_number 2 none :: WT)) B.pre
  have hT : ∀ w ∈ WT, w.before _ s = true := fun w h => hts w (inC w h)
  have hown : s.vm.findClass R_M = some m.cls := findClass_of_methodNamed B.named
  have hlocks := B.notSynchronized
  have hS : va_S (aM m0 mt ms mr mk) s.heap s.heap [] := va_S.rf
  have S : CallFix p m c b_M_number 2 s _ (Cond.code y_M_number b_M_number 2 none :: WT) R_M := ⟨hx, hb, hml, hown, hts⟩
  have hl := lv_entry ([.ref m0, .int x]) (n := 2) (Nat.le_of_ble_eq_true rfl)
  rw [lg_entry_eq]
  generalize (lg_sl ([.ref m0, .int x]) ++ List.replicate (2 - (lg_sl ([.ref m0, .int x])).length) Slot.unset).toArray = ls at hl ⊢
  have hl : lv_has ls 2 [(0, .ref m0), (1, .int x)] := hl
  have hA : ∀ q, aM m0 mt ms mr mk q → aM m0 mt ms mr mk q := fun _ h => h
  refine lv_iload_n hx hb d_M_number_0 rfl (lv_at hl 1 rfl) ?_
  refine lv_if_ge (tgt := 10) hx hb d_M_number_1 (by decide) (fun h => ?_) (fun h => ?_)
  · refine lv_aload_n hx hb d_M_number_10 rfl (lv_at hl 0 rfl) ?_
    refine lv_iload_n hx hb d_M_number_11 rfl (lv_at hl 1 rfl) ?_
    refine lv_if_ge (tgt := 21) hx hb d_M_number_12 (by decide) (fun _ => ?_) (fun q => absurd h q)
    refine lv_iload_n hx hb d_M_number_21 rfl (lv_at hl 1 rfl) ?_
    refine lv_i2l (v := lN (nA x)) hx hb d_M_number_22 (nA_pos h) ?_
    refine call_M_digits S inC m_885 ⟨(Nat.le_of_ble_eq_true rfl), (Nat.le_of_ble_eq_true rfl)⟩ hl.1 (Nat.le_of_ble_eq_true rfl) d_M_number_23 ⟨(Nat.le_of_ble_eq_true rfl), (Nat.le_of_ble_eq_true rfl)⟩ hK ap ok hS hA hw (nA_lt x) (by omega) (fun H locs hw hS _ => ?_)
    exact W.vret hx hb hr (fun t ht hW => ⟨⟨(), rfl, trivial, mwd_at ht (mwd_eq (by rw [sNum, if_pos h]) hw)⟩, hS.F ht⟩) hS.2.2 d_M_number_26
  · refine lv_aload_n hx hb d_M_number_4 rfl (lv_at hl 0 rfl) ?_
    refine lv_bipush (v := 45) hx hb d_M_number_5 (by decide) ?_
    refine call_M_put S inC m_842 ⟨(Nat.le_of_ble_eq_true rfl), (Nat.le_of_ble_eq_true rfl)⟩ hl.1 (Nat.le_of_ble_eq_true rfl) d_M_number_7 ⟨(Nat.le_of_ble_eq_true rfl), (Nat.le_of_ble_eq_true rfl)⟩ hK ap ok hS hA hw (by omega) (fun H locs hw hS _ => ?_)
    have h5 := sPut_le 45 st
    refine lv_aload_n hx hb d_M_number_10 rfl (lv_at hl 0 rfl) ?_
    refine lv_iload_n hx hb d_M_number_11 rfl (lv_at hl 1 rfl) ?_
    refine lv_if_ge (tgt := 21) hx hb d_M_number_12 (by decide) (fun q => absurd q h) (fun _ => ?_)
    refine lv_iload_n hx hb d_M_number_15 rfl (lv_at hl 1 rfl) ?_
    refine lv_i2l (v := x.toInt64) hx hb d_M_number_16 rfl ?_
    refine lv_lneg hx hb d_M_number_17 ?_
    rw [nA_neg h]
    refine lv_goto (tgt := 23) hx hb d_M_number_18 (by decide) ?_
    refine call_M_digits S inC m_885 ⟨(Nat.le_of_ble_eq_true rfl), (Nat.le_of_ble_eq_true rfl)⟩ hl.1 (Nat.le_of_ble_eq_true rfl) d_M_number_23 ⟨(Nat.le_of_ble_eq_true rfl), (Nat.le_of_ble_eq_true rfl)⟩ hK ap ok hS hA hw (nA_lt x) (by omega) (fun H locs hw hS _ => ?_)
    exact W.vret hx hb hr (fun t ht hW => ⟨⟨(), rfl, trivial, mwd_at ht (mwd_eq (by rw [sNum, if_neg h]) hw)⟩, hS.F ht⟩) hS.2.2 d_M_number_26

theorem call_M_number {p : Program} {l : Launch} {e : Env} {R : Room} {s : State} {m : MethodId} {args : Array Value} {below : List Frame} {meth : Method} {c : Code} {H : Heap} {locs : List Loc} {cells slots : Nat} {Q : State → Prop} {cc : ByteArray} {pc nL idx : Nat} {ls : Array Slot} {rest : List Value} {Ts : List Cond} {own : String} {A0 : Nat → Prop} {H0 : Heap} {dC : Nat → ClassId} {dI : Nat → Nat → Nat} {cI cC : ClassId} {m0 mt ms mr mk : Nat} {th yb bi d a b f : Int32} {str fk : Nat → Int32} {st : MT} {x : Int32} (S : CallFix p m c cc nL s args Ts own) (hTs : ∀ w ∈ WT, w ∈ Ts) (hlk : Cond.methodLink own idx y_M_number ∈ WT) (hR : 2 + 1 ≤ R.frames ∧ 8 + (2 + 11) + 47 ≤ R.locals) (hsz : ls.size = nL) (hrm : (rest.map fun v => v.category).sum ≤ 8) (hdg : decode cc pc = .ok (.invokevirtual idx, 3)) (hc : cells ≤ R.cells ∧ slots ≤ R.slots) (hK : rK dC dI cI cC s) (ap : apM m0 mt ms mr mk) (ok : mOk d a b) (hS : va_S A0 H0 H locs) (hA : ∀ q, aM m0 mt ms mr mk q → A0 q) (hw : mwd dC dI cI cC m0 mt ms mr mk th yb bi d a b f str fk st H) (hlen : st.2.2.length + 11 ≤ 64) (kk : ∀ (H1 : Heap) (locs1 : List Loc), mwd dC dI cI cC m0 mt ms mr mk th yb bi d a b f str fk (sNum x st) H1 → va_S A0 H0 H1 locs1 → (H.size ≤ H1.size ∧ ∀ q : Nat, q < H.size → ¬ aM m0 mt ms mr mk q → H1[q]? = H[q]?) → W p l e R s m args below meth c H1 locs1 cells slots Q (F0 m (pc + 3) ls (rest))) : W p l e R s m args below meth c H locs cells slots Q (F0 m pc ls (.int x :: .ref m0 :: rest)) :=
  va_callv (va_runV (As := [.int x]) (rest := rest) S (c_M_number l dC dI cI cC m0 mt ms mr mk th yb bi d a b f str fk st x) (cwV 1 S.2.2.2.2 (gV hTs hlk m_883 m_28 m_52 m_884) rfl rfl rfl (by decide +kernel) hR) ⟨fun a U g mk q => ⟨q.1, ⟨q.2.1.blind, q.2.2⟩⟩, mwd.recv hK hw, fun U hU hW => ⟨rfl, ⟨mU.at hK ap ok hw hU hW, hlen⟩⟩⟩ rfl rfl hsz rfl (lv_room hrm) hdg hc) hS (fun q _ h => hA q h) hA (fun u t H1 locs1 ht hvm hp hB hz hk hS1 => kk H1 locs1 (by rw [← ht]; exact hB) hS1 ⟨hz, hk⟩)

set_option maxRecDepth 100000 in
set_option maxHeartbeats 4000000 in
theorem c_M_next (l : Launch) (dC : Nat → ClassId) (dI : Nat → Nat → Nat) (cI cC : ClassId) (m0 mt ms mr mk : Nat) (th yb bi d a b f : Int32) (str fk : Nat → Int32) (st : MT)  : Met l y_M_next (Cond.code y_M_next b_M_next 1 none :: WT) ({ frames := 1, cells := 0, slots := 0, locals := 21 }) (va_Pc [.ref m0] (fun U => mU dC dI cI cC m0 mt ms mr mk th yb bi d a b f str fk st U ∧ st.2.2.length + 2 ≤ 64)) (va_Qv (fun _ : Unit => True) (fun _ t => mwd dC dI cI cC m0 mt ms mr mk th yb bi d a b f str fk (sNext st) t.heap) (aM m0 mt ms mr mk)) 0 0 (aM m0 mt ms mr mk) := by
  refine va_MetF (cc := b_M_next) (maxL := 1) (ret := none) (by decide +kernel) rfl ?_
  intro p e s m args below meth c s₁ B hml hv
  obtain ⟨rfl, ⟨hK, ap, ok, hw⟩, hlen⟩ := hv
  have hx := B.exec
  have hb := B.bytes
  have hr := B.returns
  have hts := atoms_spec (ws := (Cond.code y_M_next b_M_next 1 none :: WT)) B.pre
  have hT : ∀ w ∈ WT, w.before _ s = true := fun w h => hts w (inC w h)
  have hown : s.vm.findClass R_M = some m.cls := findClass_of_methodNamed B.named
  have hlocks := B.notSynchronized
  have hS : va_S (aM m0 mt ms mr mk) s.heap s.heap [] := va_S.rf
  have S : CallFix p m c b_M_next 1 s _ (Cond.code y_M_next b_M_next 1 none :: WT) R_M := ⟨hx, hb, hml, hown, hts⟩
  have hl := lv_entry ([.ref m0]) (n := 1) (Nat.le_of_ble_eq_true rfl)
  rw [lg_entry_eq]
  generalize (lg_sl ([.ref m0]) ++ List.replicate (1 - (lg_sl ([.ref m0])).length) Slot.unset).toArray = ls at hl ⊢
  have hl : lv_has ls 1 [(0, .ref m0)] := hl
  have hA : ∀ q, aM m0 mt ms mr mk q → aM m0 mt ms mr mk q := fun _ h => h
  obtain ⟨rg, ft, h1, h2, hP⟩ := id hw
  refine lv_aload_n hx hb d_M_next_0 rfl (lv_at hl 0 rfl) ?_
  refine va_get (D := (dC, dI)) (ci := 2) (v := .int st.1) (C := R_M) (T := F_M) (N := 14) hx hb hT i_M hown hK hP 0 rfl rfl 4 (by decide) (hT _ m_757) (fun _ h9 => h9) rfl d_M_next_1 ?_
  refine lv_if_le (tgt := 13) hx hb d_M_next_4 (by decide) (fun h => ?_) (fun h => ?_)
  · refine lv_aload_n hx hb d_M_next_13 rfl (lv_at hl 0 rfl) ?_
    refine lv_bipush (v := 32) hx hb d_M_next_14 (by decide) ?_
    refine call_M_put S inC m_842 ⟨(Nat.le_of_ble_eq_true rfl), (Nat.le_of_ble_eq_true rfl)⟩ hl.1 (Nat.le_of_ble_eq_true rfl) d_M_next_16 ⟨(Nat.le_of_ble_eq_true rfl), (Nat.le_of_ble_eq_true rfl)⟩ hK ap ok hS hA hw (by omega) (fun H locs hw hS _ => ?_)
    obtain ⟨rg, ft, h1, h2, hP⟩ := hw
    have hD := wM_D ap hA (cI := cI) (cC := cC) (th := th) (yb := yb) (bi := bi) (d := d) (a := a) (b := b) (f := f) (op := (sPut 32 st).1) (ln := (sPut 32 st).2.1) (sz := nI (sPut 32 st).2.2.length) (str := str) (rg := rg) (ft := ft) (fk := fk)
    refine lv_aload_n hx hb d_M_next_19 rfl (lv_at hl 0 rfl) ?_
    refine lv_dup hx hb d_M_next_20 rfl ?_
    refine va_get (D := (dC, dI)) (ci := 2) (v := .int (sPut 32 st).1) (C := R_M) (T := F_M) (N := 14) hx hb hT i_M hown hK hP 0 rfl rfl 4 (by decide) (hT _ m_757) (fun _ h9 => h9) rfl d_M_next_21 ?_
    refine lv_iconst (v := 1) hx hb d_M_next_24 (by decide) ?_
    refine lv_iadd hx hb d_M_next_25 ?_
    refine va_put (D := (dC, dI)) (ci := 2) (v := .int ((sPut 32 st).1 + 1)) (ty := .int) (C := R_M) (T := F_M) (N := 14) hx hb hT i_M ft_M ft_M_ok n_M hown hK hP hD hS 0 rfl rfl 4 (by decide) (hT _ m_757) (fun _ h9 => h9) rfl (by decide +kernel) rfl rfl (Nat.le_of_ble_eq_true rfl) d_M_next_26 (fun H locs hP hD hS => ?_)
    exact W.vret hx hb hr (fun t ht hW => ⟨⟨(), rfl, trivial, mwd_at ht (mwd_eq (st := ((sPut 32 st).1 + 1, (sPut 32 st).2)) (by rw [sNext, if_pos h]) ⟨rg, ft, h1, h2, hP⟩)⟩, hS.F ht⟩) hS.2.2 d_M_next_29
  · refine lv_aload_n hx hb d_M_next_7 rfl (lv_at hl 0 rfl) ?_
    refine lv_bipush (v := 44) hx hb d_M_next_8 (by decide) ?_
    refine call_M_put S inC m_842 ⟨(Nat.le_of_ble_eq_true rfl), (Nat.le_of_ble_eq_true rfl)⟩ hl.1 (Nat.le_of_ble_eq_true rfl) d_M_next_10 ⟨(Nat.le_of_ble_eq_true rfl), (Nat.le_of_ble_eq_true rfl)⟩ hK ap ok hS hA hw (by omega) (fun H locs hw hS _ => ?_)
    have h5 := sPut_le 44 st
    refine lv_aload_n hx hb d_M_next_13 rfl (lv_at hl 0 rfl) ?_
    refine lv_bipush (v := 32) hx hb d_M_next_14 (by decide) ?_
    refine call_M_put S inC m_842 ⟨(Nat.le_of_ble_eq_true rfl), (Nat.le_of_ble_eq_true rfl)⟩ hl.1 (Nat.le_of_ble_eq_true rfl) d_M_next_16 ⟨(Nat.le_of_ble_eq_true rfl), (Nat.le_of_ble_eq_true rfl)⟩ hK ap ok hS hA hw (by omega) (fun H locs hw hS _ => ?_)
    obtain ⟨rg, ft, h1, h2, hP⟩ := hw
    have hD := wM_D ap hA (cI := cI) (cC := cC) (th := th) (yb := yb) (bi := bi) (d := d) (a := a) (b := b) (f := f) (op := (sPut 32 (sPut 44 st)).1) (ln := (sPut 32 (sPut 44 st)).2.1) (sz := nI (sPut 32 (sPut 44 st)).2.2.length) (str := str) (rg := rg) (ft := ft) (fk := fk)
    refine lv_aload_n hx hb d_M_next_19 rfl (lv_at hl 0 rfl) ?_
    refine lv_dup hx hb d_M_next_20 rfl ?_
    refine va_get (D := (dC, dI)) (ci := 2) (v := .int (sPut 32 (sPut 44 st)).1) (C := R_M) (T := F_M) (N := 14) hx hb hT i_M hown hK hP 0 rfl rfl 4 (by decide) (hT _ m_757) (fun _ h9 => h9) rfl d_M_next_21 ?_
    refine lv_iconst (v := 1) hx hb d_M_next_24 (by decide) ?_
    refine lv_iadd hx hb d_M_next_25 ?_
    refine va_put (D := (dC, dI)) (ci := 2) (v := .int ((sPut 32 (sPut 44 st)).1 + 1)) (ty := .int) (C := R_M) (T := F_M) (N := 14) hx hb hT i_M ft_M ft_M_ok n_M hown hK hP hD hS 0 rfl rfl 4 (by decide) (hT _ m_757) (fun _ h9 => h9) rfl (by decide +kernel) rfl rfl (Nat.le_of_ble_eq_true rfl) d_M_next_26 (fun H locs hP hD hS => ?_)
    exact W.vret hx hb hr (fun t ht hW => ⟨⟨(), rfl, trivial, mwd_at ht (mwd_eq (st := ((sPut 32 (sPut 44 st)).1 + 1, (sPut 32 (sPut 44 st)).2)) (by rw [sNext, if_neg h]) ⟨rg, ft, h1, h2, hP⟩)⟩, hS.F ht⟩) hS.2.2 d_M_next_29

theorem call_M_next {p : Program} {l : Launch} {e : Env} {R : Room} {s : State} {m : MethodId} {args : Array Value} {below : List Frame} {meth : Method} {c : Code} {H : Heap} {locs : List Loc} {cells slots : Nat} {Q : State → Prop} {cc : ByteArray} {pc nL idx : Nat} {ls : Array Slot} {rest : List Value} {Ts : List Cond} {own : String} {A0 : Nat → Prop} {H0 : Heap} {dC : Nat → ClassId} {dI : Nat → Nat → Nat} {cI cC : ClassId} {m0 mt ms mr mk : Nat} {th yb bi d a b f : Int32} {str fk : Nat → Int32} {st : MT}  (S : CallFix p m c cc nL s args Ts own) (hTs : ∀ w ∈ WT, w ∈ Ts) (hlk : Cond.methodLink own idx y_M_next ∈ WT) (hR : 1 + 1 ≤ R.frames ∧ 8 + (1 + 11) + 21 ≤ R.locals) (hsz : ls.size = nL) (hrm : (rest.map fun v => v.category).sum ≤ 8) (hdg : decode cc pc = .ok (.invokevirtual idx, 3)) (hc : cells ≤ R.cells ∧ slots ≤ R.slots) (hK : rK dC dI cI cC s) (ap : apM m0 mt ms mr mk) (ok : mOk d a b) (hS : va_S A0 H0 H locs) (hA : ∀ q, aM m0 mt ms mr mk q → A0 q) (hw : mwd dC dI cI cC m0 mt ms mr mk th yb bi d a b f str fk st H) (hlen : st.2.2.length + 2 ≤ 64) (kk : ∀ (H1 : Heap) (locs1 : List Loc), mwd dC dI cI cC m0 mt ms mr mk th yb bi d a b f str fk (sNext st) H1 → va_S A0 H0 H1 locs1 → (H.size ≤ H1.size ∧ ∀ q : Nat, q < H.size → ¬ aM m0 mt ms mr mk q → H1[q]? = H[q]?) → W p l e R s m args below meth c H1 locs1 cells slots Q (F0 m (pc + 3) ls (rest))) : W p l e R s m args below meth c H locs cells slots Q (F0 m pc ls (.ref m0 :: rest)) :=
  va_callv (va_runV (As := []) (rest := rest) S (c_M_next l dC dI cI cC m0 mt ms mr mk th yb bi d a b f str fk st ) (cwV 0 S.2.2.2.2 (gV hTs hlk m_852 m_25 m_52 m_853) rfl rfl rfl (by decide +kernel) hR) ⟨fun a U g mk q => ⟨q.1, ⟨q.2.1.blind, q.2.2⟩⟩, mwd.recv hK hw, fun U hU hW => ⟨rfl, ⟨mU.at hK ap ok hw hU hW, hlen⟩⟩⟩ rfl rfl hsz rfl (lv_room hrm) hdg hc) hS (fun q _ h => hA q h) hA (fun u t H1 locs1 ht hvm hp hB hz hk hS1 => kk H1 locs1 (by rw [← ht]; exact hB) hS1 ⟨hz, hk⟩)

set_option maxRecDepth 100000 in
set_option maxHeartbeats 4000000 in
theorem c_M_name (l : Launch) (dC : Nat → ClassId) (dI : Nat → Nat → Nat) (cI cC : ClassId) (m0 mt ms mr mk : Nat) (th yb bi d a b f : Int32) (str fk : Nat → Int32) (st : MT) (x : Int64) : Met l y_M_name (Cond.code y_M_name b_M_name 3 none :: WT) ({ frames := 2, cells := 0, slots := 0, locals := 45 }) (va_Pc [.ref m0, .long x] (fun U => mU dC dI cI cC m0 mt ms mr mk th yb bi d a b f str fk st U ∧ st.2.2.length + 8 ≤ 64)) (va_Qv (fun _ : Unit => True) (fun _ t => mwd dC dI cI cC m0 mt ms mr mk th yb bi d a b f str fk (sName x st) t.heap) (aM m0 mt ms mr mk)) 0 0 (aM m0 mt ms mr mk) := by
  refine va_MetF (cc := b_M_name) (maxL := 3) (ret := none) (by decide +kernel) rfl ?_
  intro p e s m args below meth c s₁ B hml hv
  obtain ⟨rfl, ⟨hK, ap, ok, hw⟩, hlen⟩ := hv
  have hx := B.exec
  have hb := B.bytes
  have hr := B.returns
  have hts := atoms_spec (ws := (Cond.code y_M_name b_M_name 3 none :: WT)) B.pre
  have hT : ∀ w ∈ WT, w.before _ s = true := fun w h => hts w (inC w h)
  have hown : s.vm.findClass R_M = some m.cls := findClass_of_methodNamed B.named
  have hlocks := B.notSynchronized
  have hS : va_S (aM m0 mt ms mr mk) s.heap s.heap [] := va_S.rf
  have S : CallFix p m c b_M_name 3 s _ (Cond.code y_M_name b_M_name 3 none :: WT) R_M := ⟨hx, hb, hml, hown, hts⟩
  have hl := lv_entry ([.ref m0, .long x]) (n := 3) (Nat.le_of_ble_eq_true rfl)
  rw [lg_entry_eq]
  generalize (lg_sl ([.ref m0, .long x]) ++ List.replicate (3 - (lg_sl ([.ref m0, .long x])).length) Slot.unset).toArray = ls at hl ⊢
  have hl : lv_has ls 3 [(0, .ref m0), (1, .long x)] := hl
  have hA : ∀ q, aM m0 mt ms mr mk q → aM m0 mt ms mr mk q := fun _ h => h
  obtain ⟨rg, ft, h1, h2, hP⟩ := hw
  have hD := wM_D ap hA (cI := cI) (cC := cC) (th := th) (yb := yb) (bi := bi) (d := d) (a := a) (b := b) (f := f) (op := (st).1) (ln := (st).2.1) (sz := nI (st).2.2.length) (str := str) (rg := rg) (ft := ft) (fk := fk)
  refine lv_aload_n hx hb d_M_name_0 rfl (lv_at hl 0 rfl) ?_
  refine lv_iconst (v := 1) hx hb d_M_name_1 (by decide) ?_
  refine va_put (D := (dC, dI)) (ci := 2) (v := .int 1) (ty := .boolean) (C := R_M) (T := F_M) (N := 14) hx hb hT i_M ft_M ft_M_ok n_M hown hK hP hD hS 0 rfl rfl 5 (by decide) (hT _ m_758) (fun _ h9 => h9) rfl (by decide +kernel) rfl rfl (Nat.le_of_ble_eq_true rfl) d_M_name_2 (fun H locs hP hD hS => ?_)
  refine lv_aload_n hx hb d_M_name_5 rfl (lv_at hl 0 rfl) ?_
  refine lv_iconst (v := 0) hx hb d_M_name_6 (by decide) ?_
  refine va_put (D := (dC, dI)) (ci := 2) (v := .int 0) (ty := .int) (C := R_M) (T := F_M) (N := 14) hx hb hT i_M ft_M ft_M_ok n_M hown hK hP hD hS 0 rfl rfl 4 (by decide) (hT _ m_757) (fun _ h9 => h9) rfl (by decide +kernel) rfl rfl (Nat.le_of_ble_eq_true rfl) d_M_name_7 (fun H locs hP hD hS => ?_)
  have hw : mwd dC dI cI cC m0 mt ms mr mk th yb bi d a b f str fk (0, 1, st.2.2) H := ⟨rg, ft, h1, h2, hP⟩
  refine lv_aload_n hx hb d_M_name_10 rfl (lv_at hl 0 rfl) ?_
  refine lv_lload_n hx hb d_M_name_11 rfl (lv_at hl 1 rfl) ?_
  refine call_M_say S inC m_837 ⟨(Nat.le_of_ble_eq_true rfl), (Nat.le_of_ble_eq_true rfl)⟩ hl.1 (Nat.le_of_ble_eq_true rfl) d_M_name_12 ⟨(Nat.le_of_ble_eq_true rfl), (Nat.le_of_ble_eq_true rfl)⟩ hK ap ok hS hA hw hlen (fun H locs hw hS _ => ?_)
  exact W.vret hx hb hr (fun t ht hW => ⟨⟨(), rfl, trivial, mwd_at ht (hw)⟩, hS.F ht⟩) hS.2.2 d_M_name_15

theorem call_M_name {p : Program} {l : Launch} {e : Env} {R : Room} {s : State} {m : MethodId} {args : Array Value} {below : List Frame} {meth : Method} {c : Code} {H : Heap} {locs : List Loc} {cells slots : Nat} {Q : State → Prop} {cc : ByteArray} {pc nL idx : Nat} {ls : Array Slot} {rest : List Value} {Ts : List Cond} {own : String} {A0 : Nat → Prop} {H0 : Heap} {dC : Nat → ClassId} {dI : Nat → Nat → Nat} {cI cC : ClassId} {m0 mt ms mr mk : Nat} {th yb bi d a b f : Int32} {str fk : Nat → Int32} {st : MT} {x : Int64} (S : CallFix p m c cc nL s args Ts own) (hTs : ∀ w ∈ WT, w ∈ Ts) (hlk : Cond.methodLink own idx y_M_name ∈ WT) (hR : 2 + 1 ≤ R.frames ∧ 8 + (3 + 11) + 45 ≤ R.locals) (hsz : ls.size = nL) (hrm : (rest.map fun v => v.category).sum ≤ 8) (hdg : decode cc pc = .ok (.invokevirtual idx, 3)) (hc : cells ≤ R.cells ∧ slots ≤ R.slots) (hK : rK dC dI cI cC s) (ap : apM m0 mt ms mr mk) (ok : mOk d a b) (hS : va_S A0 H0 H locs) (hA : ∀ q, aM m0 mt ms mr mk q → A0 q) (hw : mwd dC dI cI cC m0 mt ms mr mk th yb bi d a b f str fk st H) (hlen : st.2.2.length + 8 ≤ 64) (kk : ∀ (H1 : Heap) (locs1 : List Loc), mwd dC dI cI cC m0 mt ms mr mk th yb bi d a b f str fk (sName x st) H1 → va_S A0 H0 H1 locs1 → (H.size ≤ H1.size ∧ ∀ q : Nat, q < H.size → ¬ aM m0 mt ms mr mk q → H1[q]? = H[q]?) → W p l e R s m args below meth c H1 locs1 cells slots Q (F0 m (pc + 3) ls (rest))) : W p l e R s m args below meth c H locs cells slots Q (F0 m pc ls (.long x :: .ref m0 :: rest)) :=
  va_callv (va_runV (As := [.long x]) (rest := rest) S (c_M_name l dC dI cI cC m0 mt ms mr mk th yb bi d a b f str fk st x) (cwV 1 S.2.2.2.2 (gV hTs hlk m_835 m_21 m_52 m_836) rfl rfl rfl (by decide +kernel) hR) ⟨fun a U g mk q => ⟨q.1, ⟨q.2.1.blind, q.2.2⟩⟩, mwd.recv hK hw, fun U hU hW => ⟨rfl, ⟨mU.at hK ap ok hw hU hW, hlen⟩⟩⟩ rfl rfl hsz rfl (lv_room hrm) hdg hc) hS (fun q _ h => hA q h) hA (fun u t H1 locs1 ht hvm hp hB hz hk hS1 => kk H1 locs1 (by rw [← ht]; exact hB) hS1 ⟨hz, hk⟩)

set_option maxRecDepth 100000 in
set_option maxHeartbeats 4000000 in
theorem c_M_register (l : Launch) (dC : Nat → ClassId) (dI : Nat → Nat → Nat) (cI cC : ClassId) (m0 mt ms mr mk : Nat) (th yb bi d a b f : Int32) (str fk : Nat → Int32) (st : MT) (x : Int32) : Met l y_M_register (Cond.code y_M_register b_M_register 2 none :: WT) ({ frames := 2, cells := 0, slots := 0, locals := 45 }) (va_Pc [.ref m0, .int x] (fun U => mU dC dI cI cC m0 mt ms mr mk th yb bi d a b f str fk st U ∧ vp_in x 32 ∧ st.2.2.length + 10 ≤ 64)) (va_Qv (fun _ : Unit => True) (fun _ t => mwd dC dI cI cC m0 mt ms mr mk th yb bi d a b f str fk (sReg x st) t.heap) (aM m0 mt ms mr mk)) 0 0 (aM m0 mt ms mr mk) := by
  refine va_MetF (cc := b_M_register) (maxL := 2) (ret := none) (by decide +kernel) rfl ?_
  intro p e s m args below meth c s₁ B hml hv
  obtain ⟨rfl, ⟨hK, ap, ok, hw⟩, hin, hlen⟩ := hv
  have hx := B.exec
  have hb := B.bytes
  have hr := B.returns
  have hts := atoms_spec (ws := (Cond.code y_M_register b_M_register 2 none :: WT)) B.pre
  have hT : ∀ w ∈ WT, w.before _ s = true := fun w h => hts w (inC w h)
  have hown : s.vm.findClass R_M = some m.cls := findClass_of_methodNamed B.named
  have hlocks := B.notSynchronized
  have hS : va_S (aM m0 mt ms mr mk) s.heap s.heap [] := va_S.rf
  have S : CallFix p m c b_M_register 2 s _ (Cond.code y_M_register b_M_register 2 none :: WT) R_M := ⟨hx, hb, hml, hown, hts⟩
  have hl := lv_entry ([.ref m0, .int x]) (n := 2) (Nat.le_of_ble_eq_true rfl)
  rw [lg_entry_eq]
  generalize (lg_sl ([.ref m0, .int x]) ++ List.replicate (2 - (lg_sl ([.ref m0, .int x])).length) Slot.unset).toArray = ls at hl ⊢
  have hl : lv_has ls 2 [(0, .ref m0), (1, .int x)] := hl
  have hA : ∀ q, aM m0 mt ms mr mk q → aM m0 mt ms mr mk q := fun _ h => h
  refine lv_aload_n hx hb d_M_register_0 rfl (lv_at hl 0 rfl) ?_
  refine call_M_next S inC m_850 ⟨(Nat.le_of_ble_eq_true rfl), (Nat.le_of_ble_eq_true rfl)⟩ hl.1 (Nat.le_of_ble_eq_true rfl) d_M_register_1 ⟨(Nat.le_of_ble_eq_true rfl), (Nat.le_of_ble_eq_true rfl)⟩ hK ap ok hS hA hw (by omega) (fun H locs hw hS _ => ?_)
  have h5 := sNext_le st
  obtain ⟨rg, ft, h1, h2, hP⟩ := id hw
  refine lv_aload_n hx hb d_M_register_4 rfl (lv_at hl 0 rfl) ?_
  refine lv_aload_n hx hb d_M_register_5 rfl (lv_at hl 0 rfl) ?_
  refine va_get (D := (dC, dI)) (ci := 2) (v := .ref mr) (C := R_M) (T := F_M) (N := 14) hx hb hT i_M hown hK hP 0 rfl rfl 12 (by decide) (hT _ m_765) (fun _ h9 => h9) rfl d_M_register_6 ?_
  refine lv_iload_n hx hb d_M_register_9 rfl (lv_at hl 1 rfl) ?_
  have ex : x.toNatClampNeg < 32 := Nat.not_le.mp fun q => hin (Or.inr q)
  refine va_iald (D := (dC, dI)) hx hb hK hP 3 0 rfl rfl hin d_M_register_10 ?_
  rw [h1 _ ex]
  refine lv_i2l (v := rgw x) hx hb d_M_register_11 rfl ?_
  refine call_M_say S inC m_837 ⟨(Nat.le_of_ble_eq_true rfl), (Nat.le_of_ble_eq_true rfl)⟩ hl.1 (Nat.le_of_ble_eq_true rfl) d_M_register_12 ⟨(Nat.le_of_ble_eq_true rfl), (Nat.le_of_ble_eq_true rfl)⟩ hK ap ok hS hA hw (by omega) (fun H locs hw hS _ => ?_)
  exact W.vret hx hb hr (fun t ht hW => ⟨⟨(), rfl, trivial, mwd_at ht (hw)⟩, hS.F ht⟩) hS.2.2 d_M_register_15

theorem call_M_register {p : Program} {l : Launch} {e : Env} {R : Room} {s : State} {m : MethodId} {args : Array Value} {below : List Frame} {meth : Method} {c : Code} {H : Heap} {locs : List Loc} {cells slots : Nat} {Q : State → Prop} {cc : ByteArray} {pc nL idx : Nat} {ls : Array Slot} {rest : List Value} {Ts : List Cond} {own : String} {A0 : Nat → Prop} {H0 : Heap} {dC : Nat → ClassId} {dI : Nat → Nat → Nat} {cI cC : ClassId} {m0 mt ms mr mk : Nat} {th yb bi d a b f : Int32} {str fk : Nat → Int32} {st : MT} {x : Int32} (S : CallFix p m c cc nL s args Ts own) (hTs : ∀ w ∈ WT, w ∈ Ts) (hlk : Cond.methodLink own idx y_M_register ∈ WT) (hR : 2 + 1 ≤ R.frames ∧ 8 + (2 + 11) + 45 ≤ R.locals) (hsz : ls.size = nL) (hrm : (rest.map fun v => v.category).sum ≤ 8) (hdg : decode cc pc = .ok (.invokevirtual idx, 3)) (hc : cells ≤ R.cells ∧ slots ≤ R.slots) (hK : rK dC dI cI cC s) (ap : apM m0 mt ms mr mk) (ok : mOk d a b) (hS : va_S A0 H0 H locs) (hA : ∀ q, aM m0 mt ms mr mk q → A0 q) (hw : mwd dC dI cI cC m0 mt ms mr mk th yb bi d a b f str fk st H) (hin : vp_in x 32) (hlen : st.2.2.length + 10 ≤ 64) (kk : ∀ (H1 : Heap) (locs1 : List Loc), mwd dC dI cI cC m0 mt ms mr mk th yb bi d a b f str fk (sReg x st) H1 → va_S A0 H0 H1 locs1 → (H.size ≤ H1.size ∧ ∀ q : Nat, q < H.size → ¬ aM m0 mt ms mr mk q → H1[q]? = H[q]?) → W p l e R s m args below meth c H1 locs1 cells slots Q (F0 m (pc + 3) ls (rest))) : W p l e R s m args below meth c H locs cells slots Q (F0 m pc ls (.int x :: .ref m0 :: rest)) :=
  va_callv (va_runV (As := [.int x]) (rest := rest) S (c_M_register l dC dI cI cC m0 mt ms mr mk th yb bi d a b f str fk st x) (cwV 1 S.2.2.2.2 (gV hTs hlk m_848 m_24 m_52 m_849) rfl rfl rfl (by decide +kernel) hR) ⟨fun a U g mk q => ⟨q.1, ⟨q.2.1.blind, q.2.2⟩⟩, mwd.recv hK hw, fun U hU hW => ⟨rfl, ⟨mU.at hK ap ok hw hU hW, hin, hlen⟩⟩⟩ rfl rfl hsz rfl (lv_room hrm) hdg hc) hS (fun q _ h => hA q h) hA (fun u t H1 locs1 ht hvm hp hB hz hk hS1 => kk H1 locs1 (by rw [← ht]; exact hB) hS1 ⟨hz, hk⟩)

set_option maxRecDepth 100000 in
set_option maxHeartbeats 4000000 in
theorem c_M_bracket (l : Launch) (dC : Nat → ClassId) (dI : Nat → Nat → Nat) (cI cC : ClassId) (m0 mt ms mr mk : Nat) (th yb bi d a b f : Int32) (str fk : Nat → Int32) (st : MT) (x : Int32) : Met l y_M_bracket (Cond.code y_M_bracket b_M_bracket 2 none :: WT) ({ frames := 2, cells := 0, slots := 0, locals := 45 }) (va_Pc [.ref m0, .int x] (fun U => mU dC dI cI cC m0 mt ms mr mk th yb bi d a b f str fk st U ∧ vp_in x 32 ∧ st.2.2.length + 10 ≤ 64)) (va_Qv (fun _ : Unit => True) (fun _ t => mwd dC dI cI cC m0 mt ms mr mk th yb bi d a b f str fk (sBra x st) t.heap) (aM m0 mt ms mr mk)) 0 0 (aM m0 mt ms mr mk) := by
  refine va_MetF (cc := b_M_bracket) (maxL := 2) (ret := none) (by decide +kernel) rfl ?_
  intro p e s m args below meth c s₁ B hml hv
  obtain ⟨rfl, ⟨hK, ap, ok, hw⟩, hin, hlen⟩ := hv
  have hx := B.exec
  have hb := B.bytes
  have hr := B.returns
  have hts := atoms_spec (ws := (Cond.code y_M_bracket b_M_bracket 2 none :: WT)) B.pre
  have hT : ∀ w ∈ WT, w.before _ s = true := fun w h => hts w (inC w h)
  have hown : s.vm.findClass R_M = some m.cls := findClass_of_methodNamed B.named
  have hlocks := B.notSynchronized
  have hS : va_S (aM m0 mt ms mr mk) s.heap s.heap [] := va_S.rf
  have S : CallFix p m c b_M_bracket 2 s _ (Cond.code y_M_bracket b_M_bracket 2 none :: WT) R_M := ⟨hx, hb, hml, hown, hts⟩
  have hl := lv_entry ([.ref m0, .int x]) (n := 2) (Nat.le_of_ble_eq_true rfl)
  rw [lg_entry_eq]
  generalize (lg_sl ([.ref m0, .int x]) ++ List.replicate (2 - (lg_sl ([.ref m0, .int x])).length) Slot.unset).toArray = ls at hl ⊢
  have hl : lv_has ls 2 [(0, .ref m0), (1, .int x)] := hl
  have hA : ∀ q, aM m0 mt ms mr mk q → aM m0 mt ms mr mk q := fun _ h => h
  refine lv_aload_n hx hb d_M_bracket_0 rfl (lv_at hl 0 rfl) ?_
  refine lv_bipush (v := 40) hx hb d_M_bracket_1 (by decide) ?_
  refine call_M_put S inC m_842 ⟨(Nat.le_of_ble_eq_true rfl), (Nat.le_of_ble_eq_true rfl)⟩ hl.1 (Nat.le_of_ble_eq_true rfl) d_M_bracket_3 ⟨(Nat.le_of_ble_eq_true rfl), (Nat.le_of_ble_eq_true rfl)⟩ hK ap ok hS hA hw (by omega) (fun H locs hw hS _ => ?_)
  have h5 := sPut_le 40 st
  obtain ⟨rg, ft, h1, h2, hP⟩ := id hw
  refine lv_aload_n hx hb d_M_bracket_6 rfl (lv_at hl 0 rfl) ?_
  refine lv_aload_n hx hb d_M_bracket_7 rfl (lv_at hl 0 rfl) ?_
  refine va_get (D := (dC, dI)) (ci := 2) (v := .ref mr) (C := R_M) (T := F_M) (N := 14) hx hb hT i_M hown hK hP 0 rfl rfl 12 (by decide) (hT _ m_765) (fun _ h9 => h9) rfl d_M_bracket_8 ?_
  refine lv_iload_n hx hb d_M_bracket_11 rfl (lv_at hl 1 rfl) ?_
  have ex : x.toNatClampNeg < 32 := Nat.not_le.mp fun q => hin (Or.inr q)
  refine va_iald (D := (dC, dI)) hx hb hK hP 3 0 rfl rfl hin d_M_bracket_12 ?_
  rw [h1 _ ex]
  refine lv_i2l (v := rgw x) hx hb d_M_bracket_13 rfl ?_
  refine call_M_say S inC m_837 ⟨(Nat.le_of_ble_eq_true rfl), (Nat.le_of_ble_eq_true rfl)⟩ hl.1 (Nat.le_of_ble_eq_true rfl) d_M_bracket_14 ⟨(Nat.le_of_ble_eq_true rfl), (Nat.le_of_ble_eq_true rfl)⟩ hK ap ok hS hA hw (by omega) (fun H locs hw hS _ => ?_)
  have h6 := sSay_le (rgw x) (sPut 40 st)
  refine lv_aload_n hx hb d_M_bracket_17 rfl (lv_at hl 0 rfl) ?_
  refine lv_bipush (v := 41) hx hb d_M_bracket_18 (by decide) ?_
  refine call_M_put S inC m_842 ⟨(Nat.le_of_ble_eq_true rfl), (Nat.le_of_ble_eq_true rfl)⟩ hl.1 (Nat.le_of_ble_eq_true rfl) d_M_bracket_20 ⟨(Nat.le_of_ble_eq_true rfl), (Nat.le_of_ble_eq_true rfl)⟩ hK ap ok hS hA hw (by omega) (fun H locs hw hS _ => ?_)
  exact W.vret hx hb hr (fun t ht hW => ⟨⟨(), rfl, trivial, mwd_at ht (hw)⟩, hS.F ht⟩) hS.2.2 d_M_bracket_23

theorem call_M_bracket {p : Program} {l : Launch} {e : Env} {R : Room} {s : State} {m : MethodId} {args : Array Value} {below : List Frame} {meth : Method} {c : Code} {H : Heap} {locs : List Loc} {cells slots : Nat} {Q : State → Prop} {cc : ByteArray} {pc nL idx : Nat} {ls : Array Slot} {rest : List Value} {Ts : List Cond} {own : String} {A0 : Nat → Prop} {H0 : Heap} {dC : Nat → ClassId} {dI : Nat → Nat → Nat} {cI cC : ClassId} {m0 mt ms mr mk : Nat} {th yb bi d a b f : Int32} {str fk : Nat → Int32} {st : MT} {x : Int32} (S : CallFix p m c cc nL s args Ts own) (hTs : ∀ w ∈ WT, w ∈ Ts) (hlk : Cond.methodLink own idx y_M_bracket ∈ WT) (hR : 2 + 1 ≤ R.frames ∧ 8 + (2 + 11) + 45 ≤ R.locals) (hsz : ls.size = nL) (hrm : (rest.map fun v => v.category).sum ≤ 8) (hdg : decode cc pc = .ok (.invokevirtual idx, 3)) (hc : cells ≤ R.cells ∧ slots ≤ R.slots) (hK : rK dC dI cI cC s) (ap : apM m0 mt ms mr mk) (ok : mOk d a b) (hS : va_S A0 H0 H locs) (hA : ∀ q, aM m0 mt ms mr mk q → A0 q) (hw : mwd dC dI cI cC m0 mt ms mr mk th yb bi d a b f str fk st H) (hin : vp_in x 32) (hlen : st.2.2.length + 10 ≤ 64) (kk : ∀ (H1 : Heap) (locs1 : List Loc), mwd dC dI cI cC m0 mt ms mr mk th yb bi d a b f str fk (sBra x st) H1 → va_S A0 H0 H1 locs1 → (H.size ≤ H1.size ∧ ∀ q : Nat, q < H.size → ¬ aM m0 mt ms mr mk q → H1[q]? = H[q]?) → W p l e R s m args below meth c H1 locs1 cells slots Q (F0 m (pc + 3) ls (rest))) : W p l e R s m args below meth c H locs cells slots Q (F0 m pc ls (.int x :: .ref m0 :: rest)) :=
  va_callv (va_runV (As := [.int x]) (rest := rest) S (c_M_bracket l dC dI cI cC m0 mt ms mr mk th yb bi d a b f str fk st x) (cwV 1 S.2.2.2.2 (gV hTs hlk m_907 m_32 m_52 m_908) rfl rfl rfl (by decide +kernel) hR) ⟨fun a U g mk q => ⟨q.1, ⟨q.2.1.blind, q.2.2⟩⟩, mwd.recv hK hw, fun U hU hW => ⟨rfl, ⟨mU.at hK ap ok hw hU hW, hin, hlen⟩⟩⟩ rfl rfl hsz rfl (lv_room hrm) hdg hc) hS (fun q _ h => hA q h) hA (fun u t H1 locs1 ht hvm hp hB hz hk hS1 => kk H1 locs1 (by rw [← ht]; exact hB) hS1 ⟨hz, hk⟩)
