theorem sPut_ln (c : Int32) (st : MT) : (sPut c st).2.1 = st.2.1 := rfl
theorem sSay_ln (c : Int64) (st : MT) : (sSay c st).2.1 = st.2.1 := rfl
theorem sNext_ln (st : MT) : (sNext st).2.1 = st.2.1 := by
  rw [sNext]
  by_cases h : st.1 ≤ 0
  · rw [if_pos h]; rfl
  · rw [if_neg h]; rfl
theorem sReg_ln (c : Int32) (st : MT) : (sReg c st).2.1 = st.2.1 := sNext_ln st
theorem sBra_ln (c : Int32) (st : MT) : (sBra c st).2.1 = st.2.1 := rfl
theorem sName_ln (c : Int64) (st : MT) : (sName c st).2.1 = 1 := rfl
def lnB (s : MT) : Prop := s.2.1 = 0 → s.2.2.length ≤ 44
theorem it_ln {A B : MT} (c : Prop) [Decidable c] (ha : lnB A) (hb : lnB B) : lnB (if c then A else B) := by
  by_cases h : c
  · rw [if_pos h]; exact ha
  · rw [if_neg h]; exact hb
theorem ln_of1 {s : MT} (h : s.2.1 = 1) : lnB s := fun h0 => absurd (h.symm.trans h0) (by decide)
set_option maxRecDepth 100000 in
theorem ln_atomic (bi d a b f x1 : Int32) (st : MT) (hz : st.2.2.length ≤ 44) : lnB (g_M_atomic bi d a b f x1 st) := by
  unfold g_M_atomic
  exact (it_ln _ (it_ln _ (it_ln _ (it_ln _ (fun _ => hz) (it_ln _ (it_ln _ (it_ln _ (ln_of1 ((sBra_ln _ _).trans ((sNext_ln _).trans ((sReg_ln _ _).trans ((sSay_ln _ _).trans (sName_ln _ _)))))) (ln_of1 ((sBra_ln _ _).trans ((sNext_ln _).trans ((sReg_ln _ _).trans ((sReg_ln _ _).trans ((sSay_ln _ _).trans (sName_ln _ _)))))))) (it_ln _ (ln_of1 ((sBra_ln _ _).trans ((sNext_ln _).trans ((sReg_ln _ _).trans ((sSay_ln _ _).trans ((sSay_ln _ _).trans (sName_ln _ _))))))) (ln_of1 ((sBra_ln _ _).trans ((sNext_ln _).trans ((sReg_ln _ _).trans ((sReg_ln _ _).trans ((sSay_ln _ _).trans ((sSay_ln _ _).trans (sName_ln _ _)))))))))) (it_ln _ (it_ln _ (it_ln _ (ln_of1 ((sBra_ln _ _).trans ((sNext_ln _).trans ((sReg_ln _ _).trans ((sSay_ln _ _).trans (sName_ln _ _)))))) (ln_of1 ((sBra_ln _ _).trans ((sNext_ln _).trans ((sReg_ln _ _).trans ((sReg_ln _ _).trans ((sSay_ln _ _).trans (sName_ln _ _)))))))) (it_ln _ (ln_of1 ((sBra_ln _ _).trans ((sNext_ln _).trans ((sReg_ln _ _).trans ((sSay_ln _ _).trans ((sSay_ln _ _).trans (sName_ln _ _))))))) (ln_of1 ((sBra_ln _ _).trans ((sNext_ln _).trans ((sReg_ln _ _).trans ((sReg_ln _ _).trans ((sSay_ln _ _).trans ((sSay_ln _ _).trans (sName_ln _ _)))))))))) (it_ln _ (it_ln _ (ln_of1 ((sBra_ln _ _).trans ((sNext_ln _).trans ((sReg_ln _ _).trans ((sSay_ln _ _).trans ((sSay_ln _ _).trans (sName_ln _ _))))))) (ln_of1 ((sBra_ln _ _).trans ((sNext_ln _).trans ((sReg_ln _ _).trans ((sReg_ln _ _).trans ((sSay_ln _ _).trans ((sSay_ln _ _).trans (sName_ln _ _))))))))) (it_ln _ (ln_of1 ((sBra_ln _ _).trans ((sNext_ln _).trans ((sReg_ln _ _).trans ((sSay_ln _ _).trans ((sSay_ln _ _).trans ((sSay_ln _ _).trans (sName_ln _ _)))))))) (ln_of1 ((sBra_ln _ _).trans ((sNext_ln _).trans ((sReg_ln _ _).trans ((sReg_ln _ _).trans ((sSay_ln _ _).trans ((sSay_ln _ _).trans ((sSay_ln _ _).trans (sName_ln _ _)))))))))))))) (fun _ => hz)) (it_ln _ (fun _ => hz) (it_ln _ (it_ln _ (it_ln _ (ln_of1 ((sBra_ln _ _).trans ((sNext_ln _).trans ((sReg_ln _ _).trans ((sSay_ln _ _).trans (sName_ln _ _)))))) (ln_of1 ((sBra_ln _ _).trans ((sNext_ln _).trans ((sReg_ln _ _).trans ((sReg_ln _ _).trans ((sSay_ln _ _).trans (sName_ln _ _)))))))) (it_ln _ (ln_of1 ((sBra_ln _ _).trans ((sNext_ln _).trans ((sReg_ln _ _).trans ((sSay_ln _ _).trans ((sSay_ln _ _).trans (sName_ln _ _))))))) (ln_of1 ((sBra_ln _ _).trans ((sNext_ln _).trans ((sReg_ln _ _).trans ((sReg_ln _ _).trans ((sSay_ln _ _).trans ((sSay_ln _ _).trans (sName_ln _ _)))))))))) (it_ln _ (it_ln _ (it_ln _ (ln_of1 ((sBra_ln _ _).trans ((sNext_ln _).trans ((sReg_ln _ _).trans ((sSay_ln _ _).trans (sName_ln _ _)))))) (ln_of1 ((sBra_ln _ _).trans ((sNext_ln _).trans ((sReg_ln _ _).trans ((sReg_ln _ _).trans ((sSay_ln _ _).trans (sName_ln _ _)))))))) (it_ln _ (ln_of1 ((sBra_ln _ _).trans ((sNext_ln _).trans ((sReg_ln _ _).trans ((sSay_ln _ _).trans ((sSay_ln _ _).trans (sName_ln _ _))))))) (ln_of1 ((sBra_ln _ _).trans ((sNext_ln _).trans ((sReg_ln _ _).trans ((sReg_ln _ _).trans ((sSay_ln _ _).trans ((sSay_ln _ _).trans (sName_ln _ _)))))))))) (it_ln _ (it_ln _ (ln_of1 ((sBra_ln _ _).trans ((sNext_ln _).trans ((sReg_ln _ _).trans ((sSay_ln _ _).trans ((sSay_ln _ _).trans (sName_ln _ _))))))) (ln_of1 ((sBra_ln _ _).trans ((sNext_ln _).trans ((sReg_ln _ _).trans ((sReg_ln _ _).trans ((sSay_ln _ _).trans ((sSay_ln _ _).trans (sName_ln _ _))))))))) (it_ln _ (ln_of1 ((sBra_ln _ _).trans ((sNext_ln _).trans ((sReg_ln _ _).trans ((sSay_ln _ _).trans ((sSay_ln _ _).trans ((sSay_ln _ _).trans (sName_ln _ _)))))))) (ln_of1 ((sBra_ln _ _).trans ((sNext_ln _).trans ((sReg_ln _ _).trans ((sReg_ln _ _).trans ((sSay_ln _ _).trans ((sSay_ln _ _).trans ((sSay_ln _ _).trans (sName_ln _ _))))))))))))))) (fun _ => hz))
theorem ln_of {s : MT} {n : Nat} (h : s.2.2.length ≤ n) (hn : n ≤ 44) : lnB s := fun _ => Nat.le_trans h hn
abbrev s00 : MT := (0, 0, [])
theorem ln_longOne (bi d a b f : Int32) : lnB (g_M_longOne bi d a b f s00) := by
  unfold g_M_longOne
  exact (it_ln _ (ln_of (gl_M_loads _ _ _ _ _ _) (by decide)) (it_ln _ (ln_of (gl_M_twos _ _ _ _ _ _ _) (by decide)) (it_ln _ (ln_of (gl_M_stores _ _ _ _ _ _) (by decide)) (it_ln _ (ln_atomic _ _ _ _ _ _ _ (by decide)) (it_ln _ (ln_of (gl_M_plain _ _ _ _ _ _ _) (by decide)) (it_ln _ (ln_of (gl_M_branches _ _ _ _ _ _) (by decide)) (it_ln _ (ln_of (gl_M_system _ _ _ _ _ _) (by decide)) (ln_of (gl_M_others _ _ _ _ _ _) (by decide)))))))))
def uB (bi : Int32) : Nat := bi.toBitVec.toNat
theorem uB_lt (bi : Int32) : uB bi < 2 ^ 32 := bi.toBitVec.isLt
theorem uB_and (bi : Int32) : bi.toInt64 &&& 4294967295 = lN (uB bi) := by
  apply uN_inj
  have h1 : uN (bi.toInt64 &&& 4294967295) = uN bi.toInt64 &&& 4294967295 := UInt64.toNat_and _ _
  have h2 : uN (lN (uB bi)) = uB bi := by
    have := uB_lt bi
    show (UInt64.ofNat (uB bi)).toNat = _
    exact UInt64.toNat_ofNat_of_lt' (by show uB bi < 18446744073709551616; omega)
  rw [h1, h2, show (4294967295 : Nat) = 2 ^ 32 - 1 by decide, Nat.and_two_pow_sub_one_eq_mod]
  show (bi.toBitVec.signExtend 64).toNat % 2 ^ 32 = bi.toBitVec.toNat
  rw [BitVec.toNat_signExtend]
  have := uB_lt bi
  rw [uB] at this
  split
  · rw [BitVec.toNat_setWidth]; omega
  · rw [BitVec.toNat_setWidth]; omega
def finU (bi x1 : Int32) (s : MT) : MT := if s.2.1 = 0 then sDig (uB bi) (sNext (sSay (if x1 = 0 then 439904987182 else 431416637230) s)) else s

set_option maxRecDepth 100000 in
set_option maxHeartbeats 4000000 in
theorem tl_M_understand {p : Program} {l : Launch} {e : Env} {R : Room} {s : State} {m : MethodId} {args : Array Value} {below : List Frame} {meth : Method} {c : Code} {cells slots : Nat} {Q : State → Prop} {Ts : List Cond} {A0 : Nat → Prop} {H0 : Heap} {dC : Nat → ClassId} {dI : Nat → Nat → Nat} {cI cC : ClassId} {m0 mt ms mr mk : Nat} {th yb bi d a b f : Int32} {str fk : Nat → Int32} {st : MT} {x1 : Int32} {H : Heap} {locs : List Loc} {ls : Array Slot} (S : CallFix p m c b_M_understand 2 s args Ts R_M) (hTs : ∀ w ∈ WT, w ∈ Ts) (hT : ∀ w ∈ WT, w.before args s = true) (hfr : 7 ≤ R.frames) (hlo : 153 ≤ R.locals) (hc : cells ≤ R.cells ∧ slots ≤ R.slots) (hK : rK dC dI cI cC s) (ap : apM m0 mt ms mr mk) (ok : mOk d a b) (hA : ∀ q, aM m0 mt ms mr mk q → A0 q) (hS : va_S A0 H0 H locs) (hw : mwd dC dI cI cC m0 mt ms mr mk th yb bi d a b f str fk st H) (hB : lnB st) (hl : lv_has ls 2 [(1, .int x1), (0, .ref m0)])
    (k1 : ∀ (H : Heap) (locs : List Loc) (ls : Array Slot), mwd dC dI cI cC m0 mt ms mr mk th yb bi d a b f str fk (finU bi x1 st) H → va_S A0 H0 H locs → W p l e R s m args below meth c H locs cells slots Q (F0 m 121 ls []))
    (k2 : ∀ (H : Heap) (locs : List Loc) (ls : Array Slot), mwd dC dI cI cC m0 mt ms mr mk th yb bi d a b f str fk (finU bi x1 st) H → va_S A0 H0 H locs → W p l e R s m args below meth c H locs cells slots Q (F0 m 156 ls [])) : W p l e R s m args below meth c H locs cells slots Q (F0 m 114 ls []) := by
  have hx := S.1
  have hb := S.2.1
  have hown := S.2.2.2.1
  obtain ⟨rg, ft, h1, h2, hP⟩ := id hw
  refine lv_aload_n hx hb d_M_understand_114 rfl (lv_at hl 1 rfl) ?_
  refine va_get (D := (dC, dI)) (ci := 2) (v := .int st.2.1) (C := R_M) (T := F_M) (N := 14) hx hb hT i_M hown hK hP 0 rfl rfl 5 (by decide) (hT _ m_758) (fun _ h9 => h9) rfl d_M_understand_115 ?_
  refine lv_if_eq (tgt := 122) hx hb d_M_understand_118 (by decide) (fun h => ?_) (fun h => k1 H locs ls (mwd_eq (by rw [finU, if_neg h]) hw) hS)
  have hlen := hB h
  refine lv_aload_n hx hb d_M_understand_122 rfl (lv_at hl 1 rfl) ?_
  refine lv_iload_n hx hb d_M_understand_123 rfl (lv_at hl 0 rfl) ?_
  refine lv_if_eq (tgt := 133) hx hb d_M_understand_124 (by decide) (fun hq => ?_) (fun hq => ?_)
  · skip
    refine lv_ldc2 (v := 439904987182) hx hb hown (hT _ m_1026) d_M_understand_133 ?_
    refine call_M_say S hTs m_837 ⟨by omega, by omega⟩ hl.1 (Nat.le_of_ble_eq_true rfl) d_M_understand_136 hc hK ap ok hS hA hw (by omega) (fun H locs hw hS _ => ?_)
    have h5 := sSay_le 439904987182 st
    refine lv_aload_n hx hb d_M_understand_139 rfl (lv_at hl 1 rfl) ?_
    refine call_M_next S hTs m_850 ⟨by omega, by omega⟩ hl.1 (Nat.le_of_ble_eq_true rfl) d_M_understand_140 hc hK ap ok hS hA hw (by omega) (fun H locs hw hS _ => ?_)
    have h6 := sNext_le (sSay 439904987182 st)
    obtain ⟨rg, ft, h1, h2, hP⟩ := id hw
    refine lv_aload_n hx hb d_M_understand_143 rfl (lv_at hl 1 rfl) ?_
    refine lv_aload_n hx hb d_M_understand_144 rfl (lv_at hl 1 rfl) ?_
    refine va_get (D := (dC, dI)) (ci := 2) (v := .int bi) (C := R_M) (T := F_M) (N := 14) hx hb hT i_M hown hK hP 0 rfl rfl 7 (by decide) (hT _ m_760) (fun _ h9 => h9) rfl d_M_understand_145 ?_
    refine lv_i2l (v := bi.toInt64) hx hb d_M_understand_148 rfl ?_
    refine lv_ldc2 (v := 4294967295) hx hb hown (hT _ m_1027) d_M_understand_149 ?_
    refine lv_land hx hb d_M_understand_152 ?_
    rw [uB_and bi]
    refine call_M_digits S hTs m_885 ⟨by omega, by omega⟩ hl.1 (Nat.le_of_ble_eq_true rfl) d_M_understand_153 hc hK ap ok hS hA hw (uB_lt bi) (by omega) (fun H locs hw hS _ => ?_)
    exact k2 H locs ls (mwd_eq (by rw [finU, if_pos h, if_pos hq]) hw) hS
  · skip
    refine lv_ldc2 (v := 431416637230) hx hb hown (hT _ m_1025) d_M_understand_127 ?_
    refine lv_goto (tgt := 136) hx hb d_M_understand_130 (by decide) ?_
    refine call_M_say S hTs m_837 ⟨by omega, by omega⟩ hl.1 (Nat.le_of_ble_eq_true rfl) d_M_understand_136 hc hK ap ok hS hA hw (by omega) (fun H locs hw hS _ => ?_)
    have h5 := sSay_le 431416637230 st
    refine lv_aload_n hx hb d_M_understand_139 rfl (lv_at hl 1 rfl) ?_
    refine call_M_next S hTs m_850 ⟨by omega, by omega⟩ hl.1 (Nat.le_of_ble_eq_true rfl) d_M_understand_140 hc hK ap ok hS hA hw (by omega) (fun H locs hw hS _ => ?_)
    have h6 := sNext_le (sSay 431416637230 st)
    obtain ⟨rg, ft, h1, h2, hP⟩ := id hw
    refine lv_aload_n hx hb d_M_understand_143 rfl (lv_at hl 1 rfl) ?_
    refine lv_aload_n hx hb d_M_understand_144 rfl (lv_at hl 1 rfl) ?_
    refine va_get (D := (dC, dI)) (ci := 2) (v := .int bi) (C := R_M) (T := F_M) (N := 14) hx hb hT i_M hown hK hP 0 rfl rfl 7 (by decide) (hT _ m_760) (fun _ h9 => h9) rfl d_M_understand_145 ?_
    refine lv_i2l (v := bi.toInt64) hx hb d_M_understand_148 rfl ?_
    refine lv_ldc2 (v := 4294967295) hx hb hown (hT _ m_1027) d_M_understand_149 ?_
    refine lv_land hx hb d_M_understand_152 ?_
    rw [uB_and bi]
    refine call_M_digits S hTs m_885 ⟨by omega, by omega⟩ hl.1 (Nat.le_of_ble_eq_true rfl) d_M_understand_153 hc hK ap ok hS hA hw (uB_lt bi) (by omega) (fun H locs hw hS _ => ?_)
    exact k2 H locs ls (mwd_eq (by rw [finU, if_pos h, if_neg hq]) hw) hS

def dis (bi a b x1 : Int32) : MT := if x1 = 0 then (if bi &&& 3 = 0 then g_M_first bi (f_M_part bi 7 5) a b (f_M_part bi 13 3) s00 else if bi &&& 3 = 1 then g_M_second bi (f_M_part bi 7 5) a b (f_M_part bi 13 3) s00 else g_M_third bi (f_M_part bi 7 5) a b (f_M_part bi 13 3) s00) else g_M_longOne bi (f_M_part bi 7 5) a b (f_M_part bi 13 3) s00

set_option maxRecDepth 100000 in
set_option maxHeartbeats 4000000 in
theorem w41_M_understand {p : Program} {l : Launch} {e : Env} {R : Room} {s : State} {m : MethodId} {args : Array Value} {below : List Frame} {meth : Method} {c : Code} {cells slots : Nat} {Q : State → Prop} {Ts : List Cond} {A0 : Nat → Prop} {H0 : Heap} {dC : Nat → ClassId} {dI : Nat → Nat → Nat} {cI cC : ClassId} {m0 mt ms mr mk : Nat} {th yb bi d a b f : Int32} {str fk : Nat → Int32} {x1 y : Int32} {H : Heap} {locs : List Loc} {ls : Array Slot} (S : CallFix p m c b_M_understand 2 s args Ts R_M) (hTs : ∀ w ∈ WT, w ∈ Ts) (hT : ∀ w ∈ WT, w.before args s = true) (hfr : 7 ≤ R.frames) (hlo : 153 ≤ R.locals) (hc : cells ≤ R.cells ∧ slots ≤ R.slots) (hK : rK dC dI cI cC s) (ap : apM m0 mt ms mr mk) (ok : mOk d a b) (hA : ∀ q, aM m0 mt ms mr mk q → A0 q) (hS : va_S A0 H0 H locs) (hw : mwd dC dI cI cC m0 mt ms mr mk th yb bi d a b f str fk s00 H) (hl : lv_has ls 2 [(1, .int x1), (0, .ref m0)])
    (k1 : ∀ (H : Heap) (locs : List Loc) (ls : Array Slot), mwe dC dI cI cC m0 mt ms mr mk th y bi str fk (finU bi x1 (dis bi a b x1)) H → va_S A0 H0 H locs → W p l e R s m args below meth c H locs cells slots Q (F0 m 121 ls [])) (k2 : ∀ (H : Heap) (locs : List Loc) (ls : Array Slot), mwe dC dI cI cC m0 mt ms mr mk th y bi str fk (finU bi x1 (dis bi a b x1)) H → va_S A0 H0 H locs → W p l e R s m args below meth c H locs cells slots Q (F0 m 156 ls [])) : W p l e R s m args below meth c H locs cells slots Q (F0 m 41 ls [.int y, .ref m0]) := by
  have hx := S.1
  have hb := S.2.1
  have hown := S.2.2.2.1
  obtain ⟨rg, ft, h1, h2, hP⟩ := hw
  have hD := wM_D ap hA (cI := cI) (cC := cC) (th := th) (yb := yb) (bi := bi) (d := d) (a := a) (b := b) (f := f) (op := (s00 : MT).1) (ln := (s00 : MT).2.1) (sz := nI (s00 : MT).2.2.length) (str := str) (rg := rg) (ft := ft) (fk := fk)
  refine va_put (D := (dC, dI)) (ci := 2) (v := .int y) (ty := .int) (C := R_M) (T := F_M) (N := 14) hx hb hT i_M ft_M ft_M_ok n_M hown hK hP hD hS 0 rfl rfl 3 (by decide) (hT _ m_756) (fun _ h9 => h9) rfl (by decide +kernel) rfl rfl (Nat.le_of_ble_eq_true rfl) d_M_understand_41 (fun H locs hP hD hS => ?_)
  have hP : va_P (dC, dI) classes (wM m0 mt ms mr mk cI cC th y bi d a b f 0 0 (nI ([] : List Int32).length) str rg ft fk) H := hP
  have hw : mwd dC dI cI cC m0 mt ms mr mk th y bi d a b f str fk s00 H := ⟨rg, ft, h1, h2, hP⟩
  refine lv_aload_n hx hb d_M_understand_44 rfl (lv_at hl 1 rfl) ?_
  refine lv_aload_n hx hb d_M_understand_45 rfl (lv_at hl 1 rfl) ?_
  refine lv_bipush (v := 7) hx hb d_M_understand_46 (by decide) ?_
  refine lv_iconst (v := 5) hx hb d_M_understand_48 (by decide) ?_
  refine call_M_part S hTs m_809 ⟨by omega, by omega⟩ hl.1 (Nat.le_of_ble_eq_true rfl) d_M_understand_49 hc hK hw ?_
  refine va_put (D := (dC, dI)) (ci := 2) (v := .int (f_M_part bi 7 5)) (ty := .int) (C := R_M) (T := F_M) (N := 14) hx hb hT i_M ft_M ft_M_ok n_M hown hK hP hD hS 0 rfl rfl 8 (by decide) (hT _ m_761) (fun _ h9 => h9) rfl (by decide +kernel) rfl rfl (Nat.le_of_ble_eq_true rfl) d_M_understand_52 (fun H locs hP hD hS => ?_)
  have hP : va_P (dC, dI) classes (wM m0 mt ms mr mk cI cC th y bi (f_M_part bi 7 5) a b f 0 0 (nI ([] : List Int32).length) str rg ft fk) H := hP
  have hw : mwd dC dI cI cC m0 mt ms mr mk th y bi (f_M_part bi 7 5) a b f str fk s00 H := ⟨rg, ft, h1, h2, hP⟩
  have ok : mOk (f_M_part bi 7 5) a b := ⟨p5_in _ _, ok.2.1, ok.2.2⟩
  refine lv_aload_n hx hb d_M_understand_55 rfl (lv_at hl 1 rfl) ?_
  refine lv_aload_n hx hb d_M_understand_56 rfl (lv_at hl 1 rfl) ?_
  refine lv_bipush (v := 13) hx hb d_M_understand_57 (by decide) ?_
  refine lv_iconst (v := 3) hx hb d_M_understand_59 (by decide) ?_
  refine call_M_part S hTs m_809 ⟨by omega, by omega⟩ hl.1 (Nat.le_of_ble_eq_true rfl) d_M_understand_60 hc hK hw ?_
  refine va_put (D := (dC, dI)) (ci := 2) (v := .int (f_M_part bi 13 3)) (ty := .int) (C := R_M) (T := F_M) (N := 14) hx hb hT i_M ft_M ft_M_ok n_M hown hK hP hD hS 0 rfl rfl 11 (by decide) (hT _ m_764) (fun _ h9 => h9) rfl (by decide +kernel) rfl rfl (Nat.le_of_ble_eq_true rfl) d_M_understand_63 (fun H locs hP hD hS => ?_)
  have hP : va_P (dC, dI) classes (wM m0 mt ms mr mk cI cC th y bi (f_M_part bi 7 5) a b (f_M_part bi 13 3) 0 0 (nI ([] : List Int32).length) str rg ft fk) H := hP
  have hw : mwd dC dI cI cC m0 mt ms mr mk th y bi (f_M_part bi 7 5) a b (f_M_part bi 13 3) str fk s00 H := ⟨rg, ft, h1, h2, hP⟩
  refine lv_iload_n hx hb d_M_understand_66 rfl (lv_at hl 0 rfl) ?_
  refine lv_if_eq (tgt := 77) hx hb d_M_understand_67 (by decide) (fun q => ?_) (fun q => ?_)
  · skip
    obtain ⟨rg, ft, h1, h2, hP⟩ := id hw
    refine lv_aload_n hx hb d_M_understand_77 rfl (lv_at hl 1 rfl) ?_
    refine va_get (D := (dC, dI)) (ci := 2) (v := .int bi) (C := R_M) (T := F_M) (N := 14) hx hb hT i_M hown hK hP 0 rfl rfl 7 (by decide) (hT _ m_760) (fun _ h9 => h9) rfl d_M_understand_78 ?_
    refine lv_iconst (v := 3) hx hb d_M_understand_81 (by decide) ?_
    refine lv_iand hx hb d_M_understand_82 ?_
    refine lv_if_ne (tgt := 93) hx hb d_M_understand_83 (by decide) (fun q0 => ?_) (fun q0 => ?_)
    · skip
      obtain ⟨rg, ft, h1, h2, hP⟩ := id hw
      refine lv_aload_n hx hb d_M_understand_93 rfl (lv_at hl 1 rfl) ?_
      refine va_get (D := (dC, dI)) (ci := 2) (v := .int bi) (C := R_M) (T := F_M) (N := 14) hx hb hT i_M hown hK hP 0 rfl rfl 7 (by decide) (hT _ m_760) (fun _ h9 => h9) rfl d_M_understand_94 ?_
      refine lv_iconst (v := 3) hx hb d_M_understand_97 (by decide) ?_
      refine lv_iand hx hb d_M_understand_98 ?_
      refine lv_iconst (v := 1) hx hb d_M_understand_99 (by decide) ?_
      refine lv_icmp_ne (tgt := 110) hx hb d_M_understand_100 (by decide) (fun q1 => ?_) (fun q1 => ?_)
      · refine lv_aload_n hx hb d_M_understand_110 rfl (lv_at hl 1 rfl) ?_
        refine call_M_third S hTs m_1013 ⟨by omega, by omega⟩ hl.1 (Nat.le_of_ble_eq_true rfl) d_M_understand_111 hc hK ap ok hS hA hw (by decide) (fun H locs hw hS _ => ?_)
        obtain ⟨d1, a1, b1, f1, ok, hw⟩ := hw
        have e : dis bi a b x1 = g_M_third bi (f_M_part bi 7 5) a b (f_M_part bi 13 3) s00 := by rw [dis, if_pos q, if_neg q0, if_neg q1]
        exact tl_M_understand S hTs hT hfr hlo hc hK ap ok hA hS hw (ln_of (gl_M_third ..) (by decide)) hl (fun H locs ls hw hS => k1 H locs ls ⟨_, _, _, _, ok, mwd_eq (by rw [e]) hw⟩ hS) (fun H locs ls hw hS => k2 H locs ls ⟨_, _, _, _, ok, mwd_eq (by rw [e]) hw⟩ hS)
      · refine lv_aload_n hx hb d_M_understand_103 rfl (lv_at hl 1 rfl) ?_
        refine call_M_second S hTs m_976 ⟨by omega, by omega⟩ hl.1 (Nat.le_of_ble_eq_true rfl) d_M_understand_104 hc hK ap ok hS hA hw (by decide) (fun H locs hw hS _ => ?_)
        obtain ⟨d1, a1, b1, f1, ok, hw⟩ := hw
        refine lv_goto (tgt := 114) hx hb d_M_understand_107 (by decide) ?_
        have e : dis bi a b x1 = g_M_second bi (f_M_part bi 7 5) a b (f_M_part bi 13 3) s00 := by rw [dis, if_pos q, if_neg q0, if_pos q1]
        exact tl_M_understand S hTs hT hfr hlo hc hK ap ok hA hS hw (ln_of (gl_M_second ..) (by decide)) hl (fun H locs ls hw hS => k1 H locs ls ⟨_, _, _, _, ok, mwd_eq (by rw [e]) hw⟩ hS) (fun H locs ls hw hS => k2 H locs ls ⟨_, _, _, _, ok, mwd_eq (by rw [e]) hw⟩ hS)
    · refine lv_aload_n hx hb d_M_understand_86 rfl (lv_at hl 1 rfl) ?_
      refine call_M_first S hTs m_968 ⟨by omega, by omega⟩ hl.1 (Nat.le_of_ble_eq_true rfl) d_M_understand_87 hc hK ap ok hS hA hw (by decide) (fun H locs hw hS _ => ?_)
      obtain ⟨d1, a1, b1, f1, ok, hw⟩ := hw
      refine lv_goto (tgt := 114) hx hb d_M_understand_90 (by decide) ?_
      have e : dis bi a b x1 = g_M_first bi (f_M_part bi 7 5) a b (f_M_part bi 13 3) s00 := by rw [dis, if_pos q, if_pos q0]
      exact tl_M_understand S hTs hT hfr hlo hc hK ap ok hA hS hw (ln_of (gl_M_first ..) (by decide)) hl (fun H locs ls hw hS => k1 H locs ls ⟨_, _, _, _, ok, mwd_eq (by rw [e]) hw⟩ hS) (fun H locs ls hw hS => k2 H locs ls ⟨_, _, _, _, ok, mwd_eq (by rw [e]) hw⟩ hS)
  · refine lv_aload_n hx hb d_M_understand_70 rfl (lv_at hl 1 rfl) ?_
    refine call_M_longOne S hTs m_813 ⟨by omega, by omega⟩ hl.1 (Nat.le_of_ble_eq_true rfl) d_M_understand_71 hc hK ap ok hS hA hw (by decide) (fun H locs hw hS _ => ?_)
    obtain ⟨d1, a1, b1, f1, ok, hw⟩ := hw
    refine lv_goto (tgt := 114) hx hb d_M_understand_74 (by decide) ?_
    have e : dis bi a b x1 = g_M_longOne bi (f_M_part bi 7 5) a b (f_M_part bi 13 3) s00 := by rw [dis, if_neg q]
    exact tl_M_understand S hTs hT hfr hlo hc hK ap ok hA hS hw (ln_longOne _ _ _ _ _) hl (fun H locs ls hw hS => k1 H locs ls ⟨_, _, _, _, ok, mwd_eq (by rw [e]) hw⟩ hS) (fun H locs ls hw hS => k2 H locs ls ⟨_, _, _, _, ok, mwd_eq (by rw [e]) hw⟩ hS)

set_option maxRecDepth 100000 in
set_option maxHeartbeats 4000000 in
theorem w15_M_understand {p : Program} {l : Launch} {e : Env} {R : Room} {s : State} {m : MethodId} {args : Array Value} {below : List Frame} {meth : Method} {c : Code} {cells slots : Nat} {Q : State → Prop} {Ts : List Cond} {A0 : Nat → Prop} {H0 : Heap} {dC : Nat → ClassId} {dI : Nat → Nat → Nat} {cI cC : ClassId} {m0 mt ms mr mk : Nat} {th yb bi d a b f : Int32} {str fk : Nat → Int32} {st : MT} {x1 : Int32} {H : Heap} {locs : List Loc} {ls : Array Slot} (S : CallFix p m c b_M_understand 2 s args Ts R_M) (hTs : ∀ w ∈ WT, w ∈ Ts) (hT : ∀ w ∈ WT, w.before args s = true) (hfr : 7 ≤ R.frames) (hlo : 153 ≤ R.locals) (hc : cells ≤ R.cells ∧ slots ≤ R.slots) (hK : rK dC dI cI cC s) (ap : apM m0 mt ms mr mk) (ok : mOk d a b) (hA : ∀ q, aM m0 mt ms mr mk q → A0 q) (hS : va_S A0 H0 H locs) (hw : mwd dC dI cI cC m0 mt ms mr mk th yb bi d a b f str fk st H) (hl : lv_has ls 2 [(0, .ref m0)])
    (k1 : ∀ (H : Heap) (locs : List Loc) (ls : Array Slot), mwe dC dI cI cC m0 mt ms mr mk th (if x1 = 0 then 2 else 4) bi str fk (finU bi x1 (dis bi a b x1)) H → va_S A0 H0 H locs → W p l e R s m args below meth c H locs cells slots Q (F0 m 121 ls [])) (k2 : ∀ (H : Heap) (locs : List Loc) (ls : Array Slot), mwe dC dI cI cC m0 mt ms mr mk th (if x1 = 0 then 2 else 4) bi str fk (finU bi x1 (dis bi a b x1)) H → va_S A0 H0 H locs → W p l e R s m args below meth c H locs cells slots Q (F0 m 156 ls [])) : W p l e R s m args below meth c H locs cells slots Q (F0 m 15 ls [.int x1]) := by
  have hx := S.1
  have hb := S.2.1
  have hown := S.2.2.2.1
  obtain ⟨rg, ft, h1, h2, hP⟩ := hw
  have hD := wM_D ap hA (cI := cI) (cC := cC) (th := th) (yb := yb) (bi := bi) (d := d) (a := a) (b := b) (f := f) (op := (st).1) (ln := (st).2.1) (sz := nI (st).2.2.length) (str := str) (rg := rg) (ft := ft) (fk := fk)
  refine lv_istore_n (lv' := [(1, .int x1), (0, .ref m0)]) hx hb d_M_understand_15 rfl hl (by decide) rfl (fun ls hl => ?_)
  refine lv_aload_n hx hb d_M_understand_16 rfl (lv_at hl 1 rfl) ?_
  refine lv_iconst (v := 0) hx hb d_M_understand_17 (by decide) ?_
  refine va_put (D := (dC, dI)) (ci := 2) (v := .int 0) (ty := .int) (C := R_M) (T := F_M) (N := 14) hx hb hT i_M ft_M ft_M_ok n_M hown hK hP hD hS 0 rfl rfl 2 (by decide) (hT _ m_755) (fun _ h9 => h9) rfl (by decide +kernel) rfl rfl (Nat.le_of_ble_eq_true rfl) d_M_understand_18 (fun H locs hP hD hS => ?_)
  refine lv_aload_n hx hb d_M_understand_21 rfl (lv_at hl 1 rfl) ?_
  refine lv_iconst (v := 0) hx hb d_M_understand_22 (by decide) ?_
  refine va_put (D := (dC, dI)) (ci := 2) (v := .int 0) (ty := .boolean) (C := R_M) (T := F_M) (N := 14) hx hb hT i_M ft_M ft_M_ok n_M hown hK hP hD hS 0 rfl rfl 5 (by decide) (hT _ m_758) (fun _ h9 => h9) rfl (by decide +kernel) rfl rfl (Nat.le_of_ble_eq_true rfl) d_M_understand_23 (fun H locs hP hD hS => ?_)
  refine lv_aload_n hx hb d_M_understand_26 rfl (lv_at hl 1 rfl) ?_
  refine lv_iconst (v := 0) hx hb d_M_understand_27 (by decide) ?_
  refine va_put (D := (dC, dI)) (ci := 2) (v := .int 0) (ty := .int) (C := R_M) (T := F_M) (N := 14) hx hb hT i_M ft_M ft_M_ok n_M hown hK hP hD hS 0 rfl rfl 4 (by decide) (hT _ m_757) (fun _ h9 => h9) rfl (by decide +kernel) rfl rfl (Nat.le_of_ble_eq_true rfl) d_M_understand_28 (fun H locs hP hD hS => ?_)
  have hw : mwd dC dI cI cC m0 mt ms mr mk th yb bi d a b f str fk s00 H := ⟨rg, ft, h1, ⟨Nat.zero_le _, fun j hj => absurd hj (Nat.not_lt_zero j), fun x hx => absurd hx List.not_mem_nil⟩, hP⟩
  refine lv_aload_n hx hb d_M_understand_31 rfl (lv_at hl 1 rfl) ?_
  refine lv_iload_n hx hb d_M_understand_32 rfl (lv_at hl 0 rfl) ?_
  refine lv_if_eq (tgt := 40) hx hb d_M_understand_33 (by decide) (fun q => ?_) (fun q => ?_)
  · rw [if_pos q] at k1 k2
    refine lv_iconst (v := 2) hx hb d_M_understand_40 (by decide) ?_
    exact w41_M_understand S hTs hT hfr hlo hc hK ap ok hA hS hw hl k1 k2
  · rw [if_neg q] at k1 k2
    refine lv_iconst (v := 4) hx hb d_M_understand_36 (by decide) ?_
    refine lv_goto (tgt := 41) hx hb d_M_understand_37 (by decide) ?_
    exact w41_M_understand S hTs hT hfr hlo hc hK ap ok hA hS hw hl k1 k2

def wh (bi : Int32) : Int32 := if bi &&& 3 = 3 then 1 else 0
def gU2 (bi a b : Int32) : MT := finU bi (wh bi) (dis bi a b (wh bi))
def tbM (bi : Int32) : Int32 := if wh bi = 0 then 2 else 4
def gU (bi : Int32) : MT := gU2 bi 0 0
set_option maxRecDepth 100000 in
theorem gU_any (bi a b : Int32) : gU2 bi a b = gU bi := rfl

set_option maxRecDepth 100000 in
set_option maxHeartbeats 4000000 in
theorem c_M_understand (l : Launch) (dC : Nat → ClassId) (dI : Nat → Nat → Nat) (cI cC : ClassId) (m0 mt ms mr mk : Nat) (th yb bi d a b f : Int32) (str fk : Nat → Int32) (st : MT)  : Met l y_M_understand (Cond.code y_M_understand b_M_understand 2 none :: WT) ({ frames := 7, cells := 0, slots := 0, locals := 153 }) (va_Pc [.ref m0] (fun U => mU dC dI cI cC m0 mt ms mr mk th yb bi d a b f str fk st U)) (va_Qv (fun _ : Unit => True) (fun _ t => mwe dC dI cI cC m0 mt ms mr mk th (tbM bi) bi str fk (gU bi) t.heap) (aM m0 mt ms mr mk)) 0 0 (aM m0 mt ms mr mk) := by
  refine va_MetF (cc := b_M_understand) (maxL := 2) (ret := none) (by decide +kernel) rfl ?_
  intro p e s m args below meth c s₁ B hml hv
  obtain ⟨rfl, ⟨hK, ap, ok, hw⟩⟩ := hv
  have hx := B.exec
  have hb := B.bytes
  have hr := B.returns
  have hts := atoms_spec (ws := (Cond.code y_M_understand b_M_understand 2 none :: WT)) B.pre
  have hT : ∀ w ∈ WT, w.before _ s = true := fun w h => hts w (inC w h)
  have hown : s.vm.findClass R_M = some m.cls := findClass_of_methodNamed B.named
  have hlocks := B.notSynchronized
  have hS : va_S (aM m0 mt ms mr mk) s.heap s.heap [] := va_S.rf
  have S : CallFix p m c b_M_understand 2 s _ (Cond.code y_M_understand b_M_understand 2 none :: WT) R_M := ⟨hx, hb, hml, hown, hts⟩
  have hl := lv_entry ([.ref m0]) (n := 2) (Nat.le_of_ble_eq_true rfl)
  rw [lg_entry_eq]
  generalize (lg_sl ([.ref m0]) ++ List.replicate (2 - (lg_sl ([.ref m0])).length) Slot.unset).toArray = ls at hl ⊢
  have hl : lv_has ls 2 [(0, .ref m0)] := hl
  have hA : ∀ q, aM m0 mt ms mr mk q → aM m0 mt ms mr mk q := fun _ h => h
  obtain ⟨rg, ft, h1, h2, hP⟩ := id hw
  refine lv_aload_n hx hb d_M_understand_0 rfl (lv_at hl 0 rfl) ?_
  refine va_get (D := (dC, dI)) (ci := 2) (v := .int bi) (C := R_M) (T := F_M) (N := 14) hx hb hT i_M hown hK hP 0 rfl rfl 7 (by decide) (hT _ m_760) (fun _ h9 => h9) rfl d_M_understand_1 ?_
  refine lv_iconst (v := 3) hx hb d_M_understand_4 (by decide) ?_
  refine lv_iand hx hb d_M_understand_5 ?_
  refine lv_iconst (v := 3) hx hb d_M_understand_6 (by decide) ?_
  refine lv_icmp_ne (tgt := 14) hx hb d_M_understand_7 (by decide) (fun h => ?_) (fun h => ?_)
  · have e : wh bi = 0 := by rw [wh, if_neg h]
    refine lv_iconst (v := 0) hx hb d_M_understand_14 (by decide) ?_
    refine w15_M_understand S inC hT (Nat.le_of_ble_eq_true rfl) (Nat.le_of_ble_eq_true rfl) ⟨(Nat.le_of_ble_eq_true rfl), (Nat.le_of_ble_eq_true rfl)⟩ hK ap ok hA hS hw hl (fun H locs ls hw hS => ?_) (fun H locs ls hw hS => ?_)
    · obtain ⟨d1, a1, b1, f1, ok, hw⟩ := hw
      have hw : mwe dC dI cI cC m0 mt ms mr mk th (tbM bi) bi str fk (gU bi) H := ⟨d1, a1, b1, f1, ok, by rw [← gU_any bi a b, gU2, tbM, e]; exact hw⟩
      exact W.vret hx hb hr (fun t ht hW => ⟨⟨(), rfl, trivial, by show mwe dC dI cI cC m0 mt ms mr mk th (tbM bi) bi str fk (gU bi) t.heap; rw [ht]; exact hw⟩, hS.F ht⟩) hS.2.2 d_M_understand_121
    · obtain ⟨d1, a1, b1, f1, ok, hw⟩ := hw
      have hw : mwe dC dI cI cC m0 mt ms mr mk th (tbM bi) bi str fk (gU bi) H := ⟨d1, a1, b1, f1, ok, by rw [← gU_any bi a b, gU2, tbM, e]; exact hw⟩
      exact W.vret hx hb hr (fun t ht hW => ⟨⟨(), rfl, trivial, by show mwe dC dI cI cC m0 mt ms mr mk th (tbM bi) bi str fk (gU bi) t.heap; rw [ht]; exact hw⟩, hS.F ht⟩) hS.2.2 d_M_understand_156
  · have e : wh bi = 1 := by rw [wh, if_pos h]
    refine lv_iconst (v := 1) hx hb d_M_understand_10 (by decide) ?_
    refine lv_goto (tgt := 15) hx hb d_M_understand_11 (by decide) ?_
    refine w15_M_understand S inC hT (Nat.le_of_ble_eq_true rfl) (Nat.le_of_ble_eq_true rfl) ⟨(Nat.le_of_ble_eq_true rfl), (Nat.le_of_ble_eq_true rfl)⟩ hK ap ok hA hS hw hl (fun H locs ls hw hS => ?_) (fun H locs ls hw hS => ?_)
    · obtain ⟨d1, a1, b1, f1, ok, hw⟩ := hw
      have hw : mwe dC dI cI cC m0 mt ms mr mk th (tbM bi) bi str fk (gU bi) H := ⟨d1, a1, b1, f1, ok, by rw [← gU_any bi a b, gU2, tbM, e]; exact hw⟩
      exact W.vret hx hb hr (fun t ht hW => ⟨⟨(), rfl, trivial, by show mwe dC dI cI cC m0 mt ms mr mk th (tbM bi) bi str fk (gU bi) t.heap; rw [ht]; exact hw⟩, hS.F ht⟩) hS.2.2 d_M_understand_121
    · obtain ⟨d1, a1, b1, f1, ok, hw⟩ := hw
      have hw : mwe dC dI cI cC m0 mt ms mr mk th (tbM bi) bi str fk (gU bi) H := ⟨d1, a1, b1, f1, ok, by rw [← gU_any bi a b, gU2, tbM, e]; exact hw⟩
      exact W.vret hx hb hr (fun t ht hW => ⟨⟨(), rfl, trivial, by show mwe dC dI cI cC m0 mt ms mr mk th (tbM bi) bi str fk (gU bi) t.heap; rw [ht]; exact hw⟩, hS.F ht⟩) hS.2.2 d_M_understand_156

theorem call_M_understand {p : Program} {l : Launch} {e : Env} {R : Room} {s : State} {m : MethodId} {args : Array Value} {below : List Frame} {meth : Method} {c : Code} {H : Heap} {locs : List Loc} {cells slots : Nat} {Q : State → Prop} {cc : ByteArray} {pc nL idx : Nat} {ls : Array Slot} {rest : List Value} {Ts : List Cond} {own : String} {A0 : Nat → Prop} {H0 : Heap} {dC : Nat → ClassId} {dI : Nat → Nat → Nat} {cI cC : ClassId} {m0 mt ms mr mk : Nat} {th yb bi d a b f : Int32} {str fk : Nat → Int32} {st : MT}  (S : CallFix p m c cc nL s args Ts own) (hTs : ∀ w ∈ WT, w ∈ Ts) (hlk : Cond.methodLink own idx y_M_understand ∈ WT) (hR : 7 + 1 ≤ R.frames ∧ 8 + (2 + 11) + 153 ≤ R.locals) (hsz : ls.size = nL) (hrm : (rest.map fun v => v.category).sum ≤ 8) (hdg : decode cc pc = .ok (.invokevirtual idx, 3)) (hc : cells ≤ R.cells ∧ slots ≤ R.slots) (hK : rK dC dI cI cC s) (ap : apM m0 mt ms mr mk) (ok : mOk d a b) (hS : va_S A0 H0 H locs) (hA : ∀ q, aM m0 mt ms mr mk q → A0 q) (hw : mwd dC dI cI cC m0 mt ms mr mk th yb bi d a b f str fk st H)  (kk : ∀ (H1 : Heap) (locs1 : List Loc), mwe dC dI cI cC m0 mt ms mr mk th (tbM bi) bi str fk (gU bi) H1 → va_S A0 H0 H1 locs1 → (H.size ≤ H1.size ∧ ∀ q : Nat, q < H.size → ¬ aM m0 mt ms mr mk q → H1[q]? = H[q]?) → W p l e R s m args below meth c H1 locs1 cells slots Q (F0 m (pc + 3) ls (rest))) : W p l e R s m args below meth c H locs cells slots Q (F0 m pc ls (.ref m0 :: rest)) :=
  va_callv (va_runV (As := []) (rest := rest) S (c_M_understand l dC dI cI cC m0 mt ms mr mk th yb bi d a b f str fk st ) (cwV 0 S.2.2.2.2 (gV hTs hlk m_807 m_16 m_52 m_808) rfl rfl rfl (by decide +kernel) hR) ⟨fun a U g mk q => ⟨q.1, q.2.blind⟩, mwd.recv hK hw, fun U hU hW => ⟨rfl, mU.at hK ap ok hw hU hW⟩⟩ rfl rfl hsz rfl (lv_room hrm) hdg hc) hS (fun q _ h => hA q h) hA (fun u t H1 locs1 ht hvm hp hB hz hk hS1 => kk H1 locs1 (by rw [← ht]; exact hB) hS1 ⟨hz, hk⟩)
