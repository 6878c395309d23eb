theorem shl_and3 (b : Int32) (s : Int32) (k : Nat) (hs : (s.toBitVec.smod 32).toNat = k) (hk : 2 ≤ k) : (b <<< s) &&& 3 = 0 := by
  rw [pk_and _ 2 (by decide), pk_shl b s k hs]
  have e : b.toBitVec.toNat * 2 ^ k % 2 ^ 32 % 2 ^ 2 = 0 := by
    obtain ⟨j, rfl⟩ : ∃ j, k = j + 2 := ⟨k - 2, by omega⟩
    rw [Nat.pow_add, ← Nat.mul_assoc]
    generalize b.toBitVec.toNat * 2 ^ j = z
    omega
  rw [e]; rfl
theorem or_and3 {a b : Int32} (h : b &&& 3 = 0) : (a ||| b) &&& 3 = a &&& 3 := by
  have e : (a ||| b) &&& 3 = (a &&& 3) ||| (b &&& 3) := Int32.toBitVec_inj.1 (by simp only [Int32.toBitVec_and, Int32.toBitVec_or]; exact BitVec.and_or_distrib_right)
  rw [e, h, Int32.or_zero]
theorem tk_and3 (str : Nat → Int32) (h : Nat) : tkM str h &&& 3 = str h &&& 3 := by
  have e8 := shl_and3 (str (h + 1)) ((8 : Int32) &&& 31) 8 (by decide) (by decide)
  have e16 := shl_and3 (str (h + 2)) ((16 : Int32) &&& 31) 16 (by decide) (by decide)
  have e24 := shl_and3 (str (h + 3)) ((24 : Int32) &&& 31) 24 (by decide) (by decide)
  rw [tkM]
  by_cases q : nI (bt str h) = 2
  · rw [if_pos q, or_and3 e8]
  · rw [if_neg q, or_and3 e24, or_and3 e16, or_and3 e8]
theorem tb_tk (str : Nat → Int32) (h : Nat) : tbM (tkM str h) = nI (bt str h) := by
  rw [tbM, wh, tk_and3, bt]
  by_cases q : str h &&& 3 = 3
  · rw [if_pos q, if_pos q, if_neg (by decide)]; rfl
  · rw [if_neg q, if_neg q, if_pos rfl]; rfl
def goM (str : Nat → Int32) : Nat → Nat → Nat → Nat
  | 0, _, z => z
  | k + 1, h, z => if 255 ≤ h ∨ 256 < h + bt str h then z else goM str k (h + bt str h) (z + if (gU (tkM str h)).2.1 = 0 then 1 else 0)
theorem goM_stop {str : Nat → Int32} {k h z : Nat} (q : 255 ≤ h ∨ 256 < h + bt str h) : goM str k h z = z := by
  cases k with
  | zero => rfl
  | succ k => rw [goM, if_pos q]

set_option maxRecDepth 100000 in
set_option maxHeartbeats 4000000 in
theorem lc_M_numbers {p : Program} {l : Launch} {e : Env} {R : Room} {s : State} {m : MethodId} {args : Array Value} {below : List Frame} {meth : Method} {c : Code} {cells slots : Nat} {Q : State → Prop} {Ts : List Cond} {A0 : Nat → Prop} {H0 : Heap} {dC : Nat → ClassId} {dI : Nat → Nat → Nat} {cI cC : ClassId} {m0 mt ms mr mk : Nat} {th yb bi d a b f : Int32} {str fk : Nat → Int32} {st : MT} {x1 x2 x3 x4 x5 x6 x7 : Int32} (S : CallFix p m c b_M_numbers 9 s args Ts R_M) (hTs : ∀ w ∈ WT, w ∈ Ts) (hT : ∀ w ∈ WT, w.before args s = true) (hfr : 8 ≤ R.frames) (hlo : 174 ≤ R.locals) (hc : cells ≤ R.cells ∧ slots ≤ R.slots) (hK : rK dC dI cI cC s) (ap : apM m0 mt ms mr mk) (ok : mOk d a b) (hA : ∀ q, aM m0 mt ms mr mk q → A0 q)
    (kk : ∀ (fk2 : Nat → Int32) (H : Heap) (locs : List Loc) (ls : Array Slot), (∀ j, j < st.2.2.length → fk2 j = st.2.2.getD j 0) → mwd dC dI cI cC m0 mt ms mr mk th yb bi d a b f str fk2 st H → va_S A0 H0 H locs → lv_has ls 9 [(7, .int x7), (6, .int x6), (5, .int x5), (4, .int x4), (3, .int x3), (2, .int x2), (0, .ref m0), (1, .int x1)] → W p l e R s m args below meth c H locs cells slots Q (F0 m 70 ls [])) :
    ∀ (n i : Nat), i + n = st.2.2.length → ∀ (fk1 : Nat → Int32) (H : Heap) (locs : List Loc) (ls : Array Slot), (∀ j, j < i → fk1 j = st.2.2.getD j 0) → mwd dC dI cI cC m0 mt ms mr mk th yb bi d a b f str fk1 st H → va_S A0 H0 H locs → lv_has ls 9 [(8, .int (nI i)), (7, .int x7), (6, .int x6), (5, .int x5), (4, .int x4), (3, .int x3), (2, .int x2), (0, .ref m0), (1, .int x1)] → W p l e R s m args below meth c H locs cells slots Q (F0 m 41 ls []) := by
  have hx := S.1
  have hb := S.2.1
  have hown := S.2.2.2.1
  intro n
  induction n with
  | zero =>
    intro i hi fk1 H locs ls hf hw hS hl
    obtain ⟨rg, ft, h1, h2, hP⟩ := id hw
    have h64 := h2.1
    refine lv_iload hx hb d_M_numbers_41 (lv_at hl 0 rfl) ?_
    refine lv_aload_n hx hb d_M_numbers_43 rfl (lv_at hl 7 rfl) ?_
    refine va_get (D := (dC, dI)) (ci := 2) (v := .int (nI st.2.2.length)) (C := R_M) (T := F_M) (N := 14) hx hb hT i_M hown hK hP 0 rfl rfl 2 (by decide) (hT _ m_755) (fun _ h9 => h9) rfl d_M_numbers_44 ?_
    refine lv_icmp_ge (tgt := 70) hx hb d_M_numbers_47 (by decide) (fun _ => ?_) (fun q => absurd (nI_le (by omega) (by omega)) q)
    exact kk fk1 H locs ls (fun j hj => hf j (by omega)) hw hS (lv_sub hl [1, 2, 3, 4, 5, 6, 7, 8] rfl)
  | succ n ih =>
    intro i hi fk1 H locs ls hf hw hS hl
    obtain ⟨rg, ft, h1, h2, hP⟩ := hw
    have h64 := h2.1
    have hil : i < st.2.2.length := by omega
    have hD := wM_D ap hA (cI := cI) (cC := cC) (th := th) (yb := yb) (bi := bi) (d := d) (a := a) (b := b) (f := f) (op := st.1) (ln := st.2.1) (sz := nI st.2.2.length) (str := str) (rg := rg) (ft := ft) (fk := fk1)
    refine lv_iload hx hb d_M_numbers_41 (lv_at hl 0 rfl) ?_
    refine lv_aload_n hx hb d_M_numbers_43 rfl (lv_at hl 7 rfl) ?_
    refine va_get (D := (dC, dI)) (ci := 2) (v := .int (nI st.2.2.length)) (C := R_M) (T := F_M) (N := 14) hx hb hT i_M hown hK hP 0 rfl rfl 2 (by decide) (hT _ m_755) (fun _ h9 => h9) rfl d_M_numbers_44 ?_
    refine lv_icmp_ge (tgt := 70) hx hb d_M_numbers_47 (by decide) (fun q => absurd q (nI_ge (by omega) (by omega))) (fun _ => ?_)
    refine lv_aload_n hx hb d_M_numbers_50 rfl (lv_at hl 7 rfl) ?_
    refine va_get (D := (dC, dI)) (ci := 2) (v := .ref mk) (C := R_M) (T := F_M) (N := 14) hx hb hT i_M hown hK hP 0 rfl rfl 13 (by decide) (hT _ m_766) (fun _ h9 => h9) rfl d_M_numbers_51 ?_
    refine lv_iload hx hb d_M_numbers_54 (lv_at hl 0 rfl) ?_
    refine lv_aload_n hx hb d_M_numbers_56 rfl (lv_at hl 7 rfl) ?_
    refine va_get (D := (dC, dI)) (ci := 2) (v := .ref mt) (C := R_M) (T := F_M) (N := 14) hx hb hT i_M hown hK hP 0 rfl rfl 1 (by decide) (hT _ m_754) (fun _ h9 => h9) rfl d_M_numbers_57 ?_
    refine lv_iload hx hb d_M_numbers_60 (lv_at hl 0 rfl) ?_
    refine va_cald (D := (dC, dI)) hx hb hK hP 1 1 rfl rfl (vp_in_nI (by omega) (by omega)) d_M_numbers_62 ?_
    rw [nI_clamp (by omega), h2.2.1 i hil]
    refine va_cast (D := (dC, dI)) hx hb hK hP hD hS 4 1 rfl rfl (vp_in_nI (by omega) (by omega)) d_M_numbers_63 (fun H locs hP hD hS => ?_)
    rw [h2.2.2 _ (getD_mem hil), nI_clamp (by omega)] at hP
    refine lv_iinc (v := nI (i + 1)) (lv' := [(8, .int (nI (i + 1))), (7, .int x7), (6, .int x6), (5, .int x5), (4, .int x4), (3, .int x3), (2, .int x2), (0, .ref m0), (1, .int x1)]) hx hb d_M_numbers_64 hl (k := 0) rfl (nI_inc i) (by decide) rfl (fun ls hl => ?_)
    refine lv_goto (tgt := 41) hx hb d_M_numbers_67 (by decide) ?_
    refine ih (i + 1) (by omega) (upd fk1 i (st.2.2.getD i 0)) H locs ls (fun j hj => ?_) ⟨rg, ft, h1, h2, hP⟩ hS hl
    by_cases q : j = i
    · subst q; rw [pk_us]
    · rw [pk_un q]; exact hf j (by omega)

set_option maxRecDepth 100000 in
set_option maxHeartbeats 4000000 in
theorem lp_M_numbers {p : Program} {l : Launch} {e : Env} {R : Room} {s : State} {m : MethodId} {args : Array Value} {below : List Frame} {meth : Method} {c : Code} {cells slots : Nat} {Q : State → Prop} {Ts : List Cond} {A0 : Nat → Prop} {H0 : Heap} {dC : Nat → ClassId} {dI : Nat → Nat → Nat} {cI cC : ClassId} {m0 mt ms mr mk : Nat} {th : Int32} {str fk : Nat → Int32} {G : Nat} {x1 x4 x5 x6 x7 : Int32} (S : CallFix p m c b_M_numbers 9 s args Ts R_M) (hTs : ∀ w ∈ WT, w ∈ Ts) (hT : ∀ w ∈ WT, w.before args s = true) (hfr : 8 ≤ R.frames) (hlo : 174 ≤ R.locals) (hc : cells ≤ R.cells ∧ slots ≤ R.slots) (hK : rK dC dI cI cC s) (ap : apM m0 mt ms mr mk) (hA : ∀ q, aM m0 mt ms mr mk q → A0 q)
    (kk : ∀ (H : Heap) (locs : List Loc) (ls : Array Slot), (∃ (yb bi d a b f : Int32) (st : MT), mOk d a b ∧ mwd dC dI cI cC m0 mt ms mr mk th yb bi d a b f str fk st H) → va_S A0 H0 H locs → lv_has ls 9 [(2, .int (nI G)), (7, .int x7), (6, .int x6), (5, .int x5), (4, .int x4), (0, .ref m0), (1, .int x1)] → W p l e R s m args below meth c H locs cells slots Q (F0 m 128 ls [])) :
    ∀ (k h z : Nat), 255 ≤ h + 2 * k → h ≤ 258 → goM str k h z = G → ∀ (H : Heap) (locs : List Loc) (ls : Array Slot), (∃ (yb bi d a b f : Int32) (st : MT), mOk d a b ∧ mwd dC dI cI cC m0 mt ms mr mk th yb bi d a b f str fk st H) → va_S A0 H0 H locs → lv_has ls 9 [(3, .int (nI h)), (2, .int (nI z)), (7, .int x7), (6, .int x6), (5, .int x5), (4, .int x4), (0, .ref m0), (1, .int x1)] → W p l e R s m args below meth c H locs cells slots Q (F0 m 70 ls []) := by
  have hx := S.1
  have hb := S.2.1
  have hown := S.2.2.2.1
  intro k
  induction k with
  | zero =>
    intro h z hk hh hG H locs ls hw hS hl
    rw [goM_stop (Or.inl (by omega))] at hG
    subst hG
    refine lv_iload_n hx hb d_M_numbers_70 rfl (lv_at hl 0 rfl) ?_
    refine lv_sipush (v := nI 255) hx hb d_M_numbers_71 (by decide) ?_
    exact lv_icmp_ge (tgt := 128) hx hb d_M_numbers_74 (by decide) (fun _ => kk H locs ls hw hS (lv_sub hl [1, 2, 3, 4, 5, 6, 7] rfl)) (fun q => absurd (nI_le (by omega) (by omega)) q)
  | succ k ih =>
    intro h z hk hh hG H locs ls hw hS hl
    refine lv_iload_n hx hb d_M_numbers_70 rfl (lv_at hl 0 rfl) ?_
    refine lv_sipush (v := nI 255) hx hb d_M_numbers_71 (by decide) ?_
    refine lv_icmp_ge (tgt := 128) hx hb d_M_numbers_74 (by decide) (fun z2 => ?_) (fun z2 => ?_)
    · rw [goM_stop (Or.inl ((nI_leI (by omega) (by omega)).mp z2))] at hG
      subst hG
      exact kk H locs ls hw hS (lv_sub hl [1, 2, 3, 4, 5, 6, 7] rfl)
    · have h255 : ¬ 255 ≤ h := _root_.mt (nI_leI (a := 255) (b := h) (by omega) (by omega)).mpr z2
      have hb4 := bt_24 str h
      obtain ⟨yb, bi, d, a, b, f, st, ok, hw⟩ := hw
      refine lv_iload_n hx hb d_M_numbers_77 rfl (lv_at hl 0 rfl) ?_
      refine lv_aload_n hx hb d_M_numbers_78 rfl (lv_at hl 6 rfl) ?_
      refine lv_iload_n hx hb d_M_numbers_79 rfl (lv_at hl 0 rfl) ?_
      refine call_M_long4 S hTs m_1048 ⟨by omega, by omega⟩ hl.1 (Nat.le_of_ble_eq_true rfl) d_M_numbers_80 hc hK hw (by omega) ?_
      refine lv_iadd hx hb d_M_numbers_83 ?_
      rw [nI_add]
      refine lv_sipush (v := nI 256) hx hb d_M_numbers_84 (by decide) ?_
      refine lv_icmp_gt (tgt := 128) hx hb d_M_numbers_87 (by decide) (fun z3 => ?_) (fun z3 => ?_)
      · rw [goM_stop (Or.inr ((nI_ltI (by omega) (by omega)).mp z3))] at hG
        subst hG
        exact kk H locs ls ⟨_, _, _, _, _, _, _, ok, hw⟩ hS (lv_sub hl [1, 2, 3, 4, 5, 6, 7] rfl)
      · have h256 : ¬ 256 < h + bt str h := _root_.mt (nI_ltI (a := 256) (b := h + bt str h) (by omega) (by omega)).mpr z3
        rw [goM, if_neg (by omega)] at hG
        refine lv_aload_n hx hb d_M_numbers_90 rfl (lv_at hl 6 rfl) ?_
        refine lv_aload_n hx hb d_M_numbers_91 rfl (lv_at hl 6 rfl) ?_
        refine lv_iload_n hx hb d_M_numbers_92 rfl (lv_at hl 0 rfl) ?_
        refine call_M_take S hTs m_1052 ⟨by omega, by omega⟩ hl.1 (Nat.le_of_ble_eq_true rfl) d_M_numbers_93 hc hK hw (by omega) ?_
        obtain ⟨rg, ft, h1, h2, hP⟩ := hw
        have hD := wM_D ap hA (cI := cI) (cC := cC) (th := th) (yb := yb) (bi := bi) (d := d) (a := a) (b := b) (f := f) (op := st.1) (ln := st.2.1) (sz := nI st.2.2.length) (str := str) (rg := rg) (ft := ft) (fk := fk)
        refine va_put (D := (dC, dI)) (ci := 2) (v := .int (tkM str h)) (ty := .int) (C := R_M) (T := F_M) (N := 14) hx hb hT i_M ft_M ft_M_ok n_M hown hK hP hD hS 0 rfl rfl 7 (by decide) (hT _ m_760) (fun _ h9 => h9) rfl (by decide +kernel) rfl rfl (Nat.le_of_ble_eq_true rfl) d_M_numbers_96 (fun H locs hP hD hS => ?_)
        have hw : mwd dC dI cI cC m0 mt ms mr mk th yb (tkM str h) d a b f str fk st H := ⟨rg, ft, h1, h2, hP⟩
        refine lv_aload_n hx hb d_M_numbers_99 rfl (lv_at hl 6 rfl) ?_
        refine call_M_understand S hTs m_805 ⟨by omega, by omega⟩ hl.1 (Nat.le_of_ble_eq_true rfl) d_M_numbers_100 hc hK ap ok hS hA hw (fun H locs hw hS _ => ?_)
        obtain ⟨d1, a1, b1, f1, ok, hw⟩ := hw
        obtain ⟨rg, ft, h1, h2, hP⟩ := id hw
        have nx : ∀ (z' : Nat), goM str k (h + bt str h) z' = G → ∀ (ls : Array Slot), lv_has ls 9 [(3, .int (nI h)), (2, .int (nI z')), (7, .int x7), (6, .int x6), (5, .int x5), (4, .int x4), (0, .ref m0), (1, .int x1)] → W p l e R s m args below meth c H locs cells slots Q (F0 m 118 ls []) := by
          intro z' hG ls hl
          refine lv_iload_n hx hb d_M_numbers_118 rfl (lv_at hl 0 rfl) ?_
          refine lv_aload_n hx hb d_M_numbers_119 rfl (lv_at hl 6 rfl) ?_
          refine va_get (D := (dC, dI)) (ci := 2) (v := .int (tbM (tkM str h))) (C := R_M) (T := F_M) (N := 14) hx hb hT i_M hown hK hP 0 rfl rfl 3 (by decide) (hT _ m_756) (fun _ h9 => h9) rfl d_M_numbers_120 ?_
          refine lv_iadd hx hb d_M_numbers_123 ?_
          rw [tb_tk, nI_add]
          refine lv_istore_n (lv' := [(3, .int (nI (h + bt str h))), (2, .int (nI z')), (7, .int x7), (6, .int x6), (5, .int x5), (4, .int x4), (0, .ref m0), (1, .int x1)]) hx hb d_M_numbers_124 rfl hl (by decide) rfl (fun ls hl => ?_)
          refine lv_goto (tgt := 70) hx hb d_M_numbers_125 (by decide) ?_
          exact ih (h + bt str h) z' (by omega) (by omega) hG H locs ls ⟨_, _, _, _, _, _, _, ok, hw⟩ hS hl
        refine lv_iload_n hx hb d_M_numbers_103 rfl (lv_at hl 1 rfl) ?_
        refine lv_aload_n hx hb d_M_numbers_104 rfl (lv_at hl 6 rfl) ?_
        refine va_get (D := (dC, dI)) (ci := 2) (v := .int (gU (tkM str h)).2.1) (C := R_M) (T := F_M) (N := 14) hx hb hT i_M hown hK hP 0 rfl rfl 5 (by decide) (hT _ m_758) (fun _ h9 => h9) rfl d_M_numbers_105 ?_
        refine lv_if_eq (tgt := 115) hx hb d_M_numbers_108 (by decide) (fun q => ?_) (fun q => ?_)
        · refine lv_iconst (v := 1) hx hb d_M_numbers_115 (by decide) ?_
          refine lv_iadd hx hb d_M_numbers_116 ?_
          rw [nI_1]
          refine lv_istore_n (lv' := [(2, .int (nI (z + 1))), (3, .int (nI h)), (7, .int x7), (6, .int x6), (5, .int x5), (4, .int x4), (0, .ref m0), (1, .int x1)]) hx hb d_M_numbers_117 rfl hl (by decide) rfl (fun ls hl => ?_)
          exact nx (z + 1) (by rw [← hG, if_pos q]) ls (lv_sub hl [1, 0, 2, 3, 4, 5, 6, 7] rfl)
        · refine lv_iconst (v := 0) hx hb d_M_numbers_111 (by decide) ?_
          refine lv_goto (tgt := 116) hx hb d_M_numbers_112 (by decide) ?_
          refine lv_iadd hx hb d_M_numbers_116 ?_
          rw [show nI z + 0 = nI z from Int32.add_zero _]
          refine lv_istore_n (lv' := [(2, .int (nI z)), (3, .int (nI h)), (7, .int x7), (6, .int x6), (5, .int x5), (4, .int x4), (0, .ref m0), (1, .int x1)]) hx hb d_M_numbers_117 rfl hl (by decide) rfl (fun ls hl => ?_)
          exact nx z (by rw [← hG, if_neg q]; rfl) ls (lv_sub hl [1, 0, 2, 3, 4, 5, 6, 7] rfl)

set_option maxRecDepth 100000 in
set_option maxHeartbeats 4000000 in
theorem ld_M_numbers {p : Program} {l : Launch} {e : Env} {R : Room} {s : State} {m : MethodId} {args : Array Value} {below : List Frame} {meth : Method} {c : Code} {cells slots : Nat} {Q : State → Prop} {Ts : List Cond} {A0 : Nat → Prop} {H0 : Heap} {dC : Nat → ClassId} {dI : Nat → Nat → Nat} {cI cC : ClassId} {m0 mt ms mr mk : Nat} {th yb bi d a b f : Int32} {str fk : Nat → Int32} {v : List Int32} {op ln : Int32} {rg : Nat → Int32} {x2 : Int32} (S : CallFix p m c b_M_numbers 9 s args Ts R_M) (hTs : ∀ w ∈ WT, w ∈ Ts) (hT : ∀ w ∈ WT, w.before args s = true) (hfr : 8 ≤ R.frames) (hlo : 174 ≤ R.locals) (hc : cells ≤ R.cells ∧ slots ≤ R.slots) (hK : rK dC dI cI cC s) (ap : apM m0 mt ms mr mk) (ok : mOk d a b) (hA : ∀ q, aM m0 mt ms mr mk q → A0 q) (hv : v.length ≤ 64) (hn : ∀ x ∈ v, vp_nar .char x = x) (hf : ∀ j, j < v.length → fk j = v.getD j 0)
    (kk : ∀ (ft : Nat → Int32) (H : Heap) (locs : List Loc) (ls : Array Slot), (∀ j, j < v.length → ft j = v.getD j 0) → va_P (dC, dI) classes (wM m0 mt ms mr mk cI cC th yb bi d a b f op ln (nI v.length) str rg ft fk) H → va_S A0 H0 H locs → lv_has ls 9 [(2, .int x2), (0, .ref m0)] → W p l e R s m args below meth c H locs cells slots Q (F0 m 184 ls [])) :
    ∀ (n i : Nat), i + n = v.length → ∀ (ft : Nat → Int32) (H : Heap) (locs : List Loc) (ls : Array Slot), (∀ j, j < i → ft j = v.getD j 0) → va_P (dC, dI) classes (wM m0 mt ms mr mk cI cC th yb bi d a b f op ln (nI v.length) str rg ft fk) H → va_S A0 H0 H locs → lv_has ls 9 [(8, .int (nI i)), (2, .int x2), (0, .ref m0)] → W p l e R s m args below meth c H locs cells slots Q (F0 m 155 ls []) := by
  have hx := S.1
  have hb := S.2.1
  have hown := S.2.2.2.1
  intro n
  induction n with
  | zero =>
    intro i hi ft H locs ls hg hP hS hl
    refine lv_iload hx hb d_M_numbers_155 (lv_at hl 0 rfl) ?_
    refine lv_aload_n hx hb d_M_numbers_157 rfl (lv_at hl 2 rfl) ?_
    refine va_get (D := (dC, dI)) (ci := 2) (v := .int (nI v.length)) (C := R_M) (T := F_M) (N := 14) hx hb hT i_M hown hK hP 0 rfl rfl 2 (by decide) (hT _ m_755) (fun _ h9 => h9) rfl d_M_numbers_158 ?_
    refine lv_icmp_ge (tgt := 184) hx hb d_M_numbers_161 (by decide) (fun _ => ?_) (fun q => absurd (nI_le (by omega) (by omega)) q)
    exact kk ft H locs ls (fun j hj => hg j (by omega)) hP hS (lv_sub hl [1, 2] rfl)
  | succ n ih =>
    intro i hi ft H locs ls hg hP hS hl
    have hil : i < v.length := by omega
    have hD := wM_D ap hA (cI := cI) (cC := cC) (th := th) (yb := yb) (bi := bi) (d := d) (a := a) (b := b) (f := f) (op := op) (ln := ln) (sz := nI v.length) (str := str) (rg := rg) (ft := ft) (fk := fk)
    refine lv_iload hx hb d_M_numbers_155 (lv_at hl 0 rfl) ?_
    refine lv_aload_n hx hb d_M_numbers_157 rfl (lv_at hl 2 rfl) ?_
    refine va_get (D := (dC, dI)) (ci := 2) (v := .int (nI v.length)) (C := R_M) (T := F_M) (N := 14) hx hb hT i_M hown hK hP 0 rfl rfl 2 (by decide) (hT _ m_755) (fun _ h9 => h9) rfl d_M_numbers_158 ?_
    refine lv_icmp_ge (tgt := 184) hx hb d_M_numbers_161 (by decide) (fun q => absurd q (nI_ge (by omega) (by omega))) (fun _ => ?_)
    refine lv_aload_n hx hb d_M_numbers_164 rfl (lv_at hl 2 rfl) ?_
    refine va_get (D := (dC, dI)) (ci := 2) (v := .ref mt) (C := R_M) (T := F_M) (N := 14) hx hb hT i_M hown hK hP 0 rfl rfl 1 (by decide) (hT _ m_754) (fun _ h9 => h9) rfl d_M_numbers_165 ?_
    refine lv_iload hx hb d_M_numbers_168 (lv_at hl 0 rfl) ?_
    refine lv_aload_n hx hb d_M_numbers_170 rfl (lv_at hl 2 rfl) ?_
    refine va_get (D := (dC, dI)) (ci := 2) (v := .ref mk) (C := R_M) (T := F_M) (N := 14) hx hb hT i_M hown hK hP 0 rfl rfl 13 (by decide) (hT _ m_766) (fun _ h9 => h9) rfl d_M_numbers_171 ?_
    refine lv_iload hx hb d_M_numbers_174 (lv_at hl 0 rfl) ?_
    refine va_cald (D := (dC, dI)) hx hb hK hP 4 1 rfl rfl (vp_in_nI (by omega) (by omega)) d_M_numbers_176 ?_
    rw [nI_clamp (by omega), hf i hil]
    refine va_cast (D := (dC, dI)) hx hb hK hP hD hS 1 1 rfl rfl (vp_in_nI (by omega) (by omega)) d_M_numbers_177 (fun H locs hP hD hS => ?_)
    rw [hn _ (getD_mem hil), nI_clamp (by omega)] at hP
    refine lv_iinc (v := nI (i + 1)) (lv' := [(8, .int (nI (i + 1))), (2, .int x2), (0, .ref m0)]) hx hb d_M_numbers_178 hl (k := 0) rfl (nI_inc i) (by decide) rfl (fun ls hl => ?_)
    refine lv_goto (tgt := 155) hx hb d_M_numbers_181 (by decide) ?_
    refine ih (i + 1) (by omega) (upd ft i (v.getD i 0)) H locs ls (fun j hj => ?_) hP hS hl
    by_cases q : j = i
    · subst q; rw [pk_us]
    · rw [pk_un q]; exact hg j (by omega)

set_option maxRecDepth 100000 in
set_option maxHeartbeats 4000000 in
theorem c_M_numbersX (l : Launch) (dC : Nat → ClassId) (dI : Nat → Nat → Nat) (cI cC : ClassId) (m0 mt ms mr mk : Nat) (th yb bi d a b f : Int32) (str fk : Nat → Int32) (st : MT) (x : Int32) : Met l y_M_numbers (Cond.code y_M_numbers b_M_numbers 9 (some .int) :: WT) ({ frames := 8, cells := 0, slots := 0, locals := 174 }) (va_Pc [.ref m0, .int x] (fun U => mU dC dI cI cC m0 mt ms mr mk th yb bi d a b f str fk st U ∧ ¬ rf x = 0)) (va_Qi (fun (r : Int32) (_ : Unit) => r = 0) (fun _ t => mtp dC dI cI cC m0 mt ms mr mk (rf x) yb str st t.heap) (aM m0 mt ms mr mk)) 0 0 (aM m0 mt ms mr mk) := by
  refine va_MetF (cc := b_M_numbers) (maxL := 9) (ret := (some .int)) (by decide +kernel) rfl ?_
  intro p e s m args below meth c s₁ B hml hv
  obtain ⟨rfl, ⟨hK, ap, ok, hw⟩, hr1⟩ := hv
  have hx := B.exec
  have hb := B.bytes
  have hr := B.returns
  have hts := atoms_spec (ws := (Cond.code y_M_numbers b_M_numbers 9 (some .int) :: WT)) B.pre
  have hT : ∀ w ∈ WT, w.before _ s = true := fun w h => hts w (inC w h)
  have hown : s.vm.findClass R_M = some m.cls := findClass_of_methodNamed B.named
  have hlocks := B.notSynchronized
  have hS : va_S (aM m0 mt ms mr mk) s.heap s.heap [] := va_S.rf
  have S : CallFix p m c b_M_numbers 9 s _ (Cond.code y_M_numbers b_M_numbers 9 (some .int) :: WT) R_M := ⟨hx, hb, hml, hown, hts⟩
  have hl := lv_entry ([.ref m0, .int x]) (n := 9) (Nat.le_of_ble_eq_true rfl)
  rw [lg_entry_eq]
  generalize (lg_sl ([.ref m0, .int x]) ++ List.replicate (9 - (lg_sl ([.ref m0, .int x])).length) Slot.unset).toArray = ls at hl ⊢
  have hl : lv_has ls 9 [(0, .ref m0), (1, .int x)] := hl
  have hA : ∀ q, aM m0 mt ms mr mk q → aM m0 mt ms mr mk q := fun _ h => h
  refine lv_aload_n hx hb d_M_numbers_0 rfl (lv_at hl 0 rfl) ?_
  refine lv_iload_n hx hb d_M_numbers_1 rfl (lv_at hl 1 rfl) ?_
  refine call_M_refuses S inC m_1040 ⟨(Nat.le_of_ble_eq_true rfl), (Nat.le_of_ble_eq_true rfl)⟩ hl.1 (Nat.le_of_ble_eq_true rfl) d_M_numbers_2 ⟨(Nat.le_of_ble_eq_true rfl), (Nat.le_of_ble_eq_true rfl)⟩ hK ap ok hS hA hw (fun H locs hw hS _ => ?_)
  refine lv_if_eq (tgt := 10) hx hb d_M_numbers_5 (by decide) (fun q => absurd q hr1) (fun _ => ?_)
  refine lv_iconst (v := 0) hx hb d_M_numbers_8 (by decide) ?_
  exact W.iret (v := 0) hx hb hr (fun t ht hW => ⟨⟨_, (), rfl, rfl, mtp_at ht (⟨_, _, _, _, _, _, ok, hw⟩)⟩, hS.F ht⟩) hS.2.2 d_M_numbers_9

theorem call_M_numbersX {p : Program} {l : Launch} {e : Env} {R : Room} {s : State} {m : MethodId} {args : Array Value} {below : List Frame} {meth : Method} {c : Code} {H : Heap} {locs : List Loc} {cells slots : Nat} {Q : State → Prop} {cc : ByteArray} {pc nL idx : Nat} {ls : Array Slot} {rest : List Value} {Ts : List Cond} {own : String} {A0 : Nat → Prop} {H0 : Heap} {dC : Nat → ClassId} {dI : Nat → Nat → Nat} {cI cC : ClassId} {m0 mt ms mr mk : Nat} {th yb bi d a b f : Int32} {str fk : Nat → Int32} {st : MT} {x : Int32} (S : CallFix p m c cc nL s args Ts own) (hTs : ∀ w ∈ WT, w ∈ Ts) (hlk : Cond.methodLink own idx y_M_numbers ∈ WT) (hR : 8 + 1 ≤ R.frames ∧ 8 + (9 + 11) + 174 ≤ R.locals) (hsz : ls.size = nL) (hrm : (rest.map fun v => v.category).sum ≤ 8) (hdg : decode cc pc = .ok (.invokevirtual idx, 3)) (hc : cells ≤ R.cells ∧ slots ≤ R.slots) (hK : rK dC dI cI cC s) (ap : apM m0 mt ms mr mk) (ok : mOk d a b) (hS : va_S A0 H0 H locs) (hA : ∀ q, aM m0 mt ms mr mk q → A0 q) (hw : mwd dC dI cI cC m0 mt ms mr mk th yb bi d a b f str fk st H) (hr1 : ¬ rf x = 0) (kk : ∀ (H1 : Heap) (locs1 : List Loc), mtp dC dI cI cC m0 mt ms mr mk (rf x) yb str st H1 → va_S A0 H0 H1 locs1 → (H.size ≤ H1.size ∧ ∀ q : Nat, q < H.size → ¬ aM m0 mt ms mr mk q → H1[q]? = H[q]?) → W p l e R s m args below meth c H1 locs1 cells slots Q (F0 m (pc + 3) ls (.int (0) :: rest))) : W p l e R s m args below meth c H locs cells slots Q (F0 m pc ls (.int x :: .ref m0 :: rest)) :=
  va_calli (va_runV (As := [.int x]) (rest := rest) S (c_M_numbersX l dC dI cI cC m0 mt ms mr mk th yb bi d a b f str fk st x) (cwV 1 S.2.2.2.2 (gV hTs hlk m_1065 m_1066 m_52 m_1067) rfl rfl rfl (by decide +kernel) hR) ⟨fun a U g mk q => ⟨q.1, ⟨q.2.1.blind, q.2.2⟩⟩, mwd.recv hK hw, fun U hU hW => ⟨rfl, ⟨mU.at hK ap ok hw hU hW, hr1⟩⟩⟩ rfl rfl hsz rfl (lv_room hrm) hdg hc) hS (fun q _ h => hA q h) hA (fun r u t H1 locs1 ht hvm hp hB hz hk hS1 => by subst hp; exact kk H1 locs1 (by rw [← ht]; exact hB) hS1 ⟨hz, hk⟩)

set_option maxRecDepth 100000 in
set_option maxHeartbeats 4000000 in
theorem c_M_numbers (l : Launch) (dC : Nat → ClassId) (dI : Nat → Nat → Nat) (cI cC : ClassId) (m0 mt ms mr mk : Nat) (th yb bi d a b f : Int32) (str fk : Nat → Int32) (st : MT) (h : Nat) : Met l y_M_numbers (Cond.code y_M_numbers b_M_numbers 9 (some .int) :: WT) ({ frames := 8, cells := 0, slots := 0, locals := 174 }) (va_Pc [.ref m0, .int (nI h)] (fun U => mU dC dI cI cC m0 mt ms mr mk th yb bi d a b f str fk st U ∧ h < 256 ∧ (fits .boolean (.int st.2.1) = true ∧ narrow .boolean (.int st.2.1) = .int st.2.1))) (va_Qi (fun (r : Int32) (_ : Unit) => r = nI (goM str 128 h 0)) (fun _ t => mtp dC dI cI cC m0 mt ms mr mk 0 yb str st t.heap) (aM m0 mt ms mr mk)) 0 0 (aM m0 mt ms mr mk) := by
  refine va_MetF (cc := b_M_numbers) (maxL := 9) (ret := (some .int)) (by decide +kernel) rfl ?_
  intro p e s m args below meth c s₁ B hml hv
  obtain ⟨rfl, ⟨hK, ap, ok, hw⟩, hh, hlnb⟩ := hv
  have hx := B.exec
  have hb := B.bytes
  have hr := B.returns
  have hts := atoms_spec (ws := (Cond.code y_M_numbers b_M_numbers 9 (some .int) :: WT)) B.pre
  have hT : ∀ w ∈ WT, w.before _ s = true := fun w h => hts w (inC w h)
  have hown : s.vm.findClass R_M = some m.cls := findClass_of_methodNamed B.named
  have hlocks := B.notSynchronized
  have hS : va_S (aM m0 mt ms mr mk) s.heap s.heap [] := va_S.rf
  have S : CallFix p m c b_M_numbers 9 s _ (Cond.code y_M_numbers b_M_numbers 9 (some .int) :: WT) R_M := ⟨hx, hb, hml, hown, hts⟩
  have hl := lv_entry ([.ref m0, .int (nI h)]) (n := 9) (Nat.le_of_ble_eq_true rfl)
  rw [lg_entry_eq]
  generalize (lg_sl ([.ref m0, .int (nI h)]) ++ List.replicate (9 - (lg_sl ([.ref m0, .int (nI h)])).length) Slot.unset).toArray = ls at hl ⊢
  have hl : lv_has ls 9 [(0, .ref m0), (1, .int (nI h))] := hl
  have hA : ∀ q, aM m0 mt ms mr mk q → aM m0 mt ms mr mk q := fun _ h => h
  refine lv_aload_n hx hb d_M_numbers_0 rfl (lv_at hl 0 rfl) ?_
  refine lv_iload_n hx hb d_M_numbers_1 rfl (lv_at hl 1 rfl) ?_
  refine call_M_refuses S inC m_1040 ⟨(Nat.le_of_ble_eq_true rfl), (Nat.le_of_ble_eq_true rfl)⟩ hl.1 (Nat.le_of_ble_eq_true rfl) d_M_numbers_2 ⟨(Nat.le_of_ble_eq_true rfl), (Nat.le_of_ble_eq_true rfl)⟩ hK ap ok hS hA hw (fun H locs hw hS _ => ?_)
  rw [rf_in hh] at hw
  rw [rf_in hh]
  refine lv_if_eq (tgt := 10) hx hb d_M_numbers_5 (by decide) (fun _ => ?_) (fun q => absurd rfl q)
  obtain ⟨rg0, ft0, g1, g2, hP⟩ := id hw
  have hln : fits .boolean (.int st.2.1) = true ∧ narrow .boolean (.int st.2.1) = .int st.2.1 := hlnb
  refine lv_iconst (v := 0) hx hb d_M_numbers_10 (by decide) ?_
  refine lv_istore_n (lv' := [(2, .int 0), (0, .ref m0), (1, .int (nI h))]) hx hb d_M_numbers_11 rfl hl (by decide) rfl (fun ls hl => ?_)
  refine lv_iload_n hx hb d_M_numbers_12 rfl (lv_at hl 2 rfl) ?_
  refine lv_istore_n (lv' := [(3, .int (nI h)), (2, .int 0), (0, .ref m0), (1, .int (nI h))]) hx hb d_M_numbers_13 rfl hl (by decide) rfl (fun ls hl => ?_)
  refine lv_aload_n hx hb d_M_numbers_14 rfl (lv_at hl 2 rfl) ?_
  refine va_get (D := (dC, dI)) (ci := 2) (v := .int (nI st.2.2.length)) (C := R_M) (T := F_M) (N := 14) hx hb hT i_M hown hK hP 0 rfl rfl 2 (by decide) (hT _ m_755) (fun _ h9 => h9) rfl d_M_numbers_15 ?_
  refine lv_istore (lv' := [(4, .int (nI st.2.2.length)), (3, .int (nI h)), (2, .int 0), (0, .ref m0), (1, .int (nI h))]) hx hb d_M_numbers_18 hl (by decide) rfl (fun ls hl => ?_)
  refine lv_aload_n hx hb d_M_numbers_20 rfl (lv_at hl 3 rfl) ?_
  refine va_get (D := (dC, dI)) (ci := 2) (v := .int yb) (C := R_M) (T := F_M) (N := 14) hx hb hT i_M hown hK hP 0 rfl rfl 3 (by decide) (hT _ m_756) (fun _ h9 => h9) rfl d_M_numbers_21 ?_
  refine lv_istore (lv' := [(5, .int yb), (4, .int (nI st.2.2.length)), (3, .int (nI h)), (2, .int 0), (0, .ref m0), (1, .int (nI h))]) hx hb d_M_numbers_24 hl (by decide) rfl (fun ls hl => ?_)
  refine lv_aload_n hx hb d_M_numbers_26 rfl (lv_at hl 4 rfl) ?_
  refine va_get (D := (dC, dI)) (ci := 2) (v := .int st.1) (C := R_M) (T := F_M) (N := 14) hx hb hT i_M hown hK hP 0 rfl rfl 4 (by decide) (hT _ m_757) (fun _ h9 => h9) rfl d_M_numbers_27 ?_
  refine lv_istore (lv' := [(6, .int st.1), (5, .int yb), (4, .int (nI st.2.2.length)), (3, .int (nI h)), (2, .int 0), (0, .ref m0), (1, .int (nI h))]) hx hb d_M_numbers_30 hl (by decide) rfl (fun ls hl => ?_)
  refine lv_aload_n hx hb d_M_numbers_32 rfl (lv_at hl 5 rfl) ?_
  refine va_get (D := (dC, dI)) (ci := 2) (v := .int st.2.1) (C := R_M) (T := F_M) (N := 14) hx hb hT i_M hown hK hP 0 rfl rfl 5 (by decide) (hT _ m_758) (fun _ h9 => h9) rfl d_M_numbers_33 ?_
  refine lv_istore (lv' := [(7, .int st.2.1), (6, .int st.1), (5, .int yb), (4, .int (nI st.2.2.length)), (3, .int (nI h)), (2, .int 0), (0, .ref m0), (1, .int (nI h))]) hx hb d_M_numbers_36 hl (by decide) rfl (fun ls hl => ?_)
  refine lv_iconst (v := 0) hx hb d_M_numbers_38 (by decide) ?_
  refine lv_istore (lv' := [(8, .int 0), (7, .int st.2.1), (6, .int st.1), (5, .int yb), (4, .int (nI st.2.2.length)), (3, .int (nI h)), (2, .int 0), (0, .ref m0), (1, .int (nI h))]) hx hb d_M_numbers_39 hl (by decide) rfl (fun ls hl => ?_)
  refine lc_M_numbers (fk := fk) S inC hT (Nat.le_of_ble_eq_true rfl) (Nat.le_of_ble_eq_true rfl) ⟨(Nat.le_of_ble_eq_true rfl), (Nat.le_of_ble_eq_true rfl)⟩ hK ap ok hA (fun fk2 H locs ls hf2 hw hS hl => ?_) st.2.2.length 0 (by omega) fk _ _ ls (fun j hj => absurd hj (Nat.not_lt_zero j)) hw hS hl
  refine lp_M_numbers (fk := fk2) (G := goM str 128 h 0) S inC hT (Nat.le_of_ble_eq_true rfl) (Nat.le_of_ble_eq_true rfl) ⟨(Nat.le_of_ble_eq_true rfl), (Nat.le_of_ble_eq_true rfl)⟩ hK ap hA (fun H locs ls hw hS hl => ?_) 128 h 0 (by omega) (by omega) rfl H locs ls ⟨_, _, _, _, _, _, _, ok, hw⟩ hS (lv_sub hl [4, 5, 0, 1, 2, 3, 6, 7] rfl)
  obtain ⟨yb1, bi1, d1, a1, b1, f1, st1, ok1, hw⟩ := hw
  obtain ⟨rg, ft, h1, h2, hP⟩ := hw
  have hD := wM_D ap hA (cI := cI) (cC := cC) (th := 0) (yb := yb1) (bi := bi1) (d := d1) (a := a1) (b := b1) (f := f1) (op := st1.1) (ln := st1.2.1) (sz := nI st1.2.2.length) (str := str) (rg := rg) (ft := ft) (fk := fk2)
  refine lv_aload_n hx hb d_M_numbers_128 rfl (lv_at hl 5 rfl) ?_
  refine lv_iload hx hb d_M_numbers_129 (lv_at hl 4 rfl) ?_
  refine va_put (D := (dC, dI)) (ci := 2) (v := .int (nI st.2.2.length)) (ty := .int) (C := R_M) (T := F_M) (N := 14) hx hb hT i_M ft_M ft_M_ok n_M hown hK hP hD hS 0 rfl rfl 2 (by decide) (hT _ m_755) (fun _ h9 => h9) rfl (by decide +kernel) rfl rfl (Nat.le_of_ble_eq_true rfl) d_M_numbers_131 (fun H locs hP hD hS => ?_)
  refine lv_aload_n hx hb d_M_numbers_134 rfl (lv_at hl 5 rfl) ?_
  refine lv_iload hx hb d_M_numbers_135 (lv_at hl 3 rfl) ?_
  refine va_put (D := (dC, dI)) (ci := 2) (v := .int yb) (ty := .int) (C := R_M) (T := F_M) (N := 14) hx hb hT i_M ft_M ft_M_ok n_M hown hK hP hD hS 0 rfl rfl 3 (by decide) (hT _ m_756) (fun _ h9 => h9) rfl (by decide +kernel) rfl rfl (Nat.le_of_ble_eq_true rfl) d_M_numbers_137 (fun H locs hP hD hS => ?_)
  refine lv_aload_n hx hb d_M_numbers_140 rfl (lv_at hl 5 rfl) ?_
  refine lv_iload hx hb d_M_numbers_141 (lv_at hl 2 rfl) ?_
  refine va_put (D := (dC, dI)) (ci := 2) (v := .int st.1) (ty := .int) (C := R_M) (T := F_M) (N := 14) hx hb hT i_M ft_M ft_M_ok n_M hown hK hP hD hS 0 rfl rfl 4 (by decide) (hT _ m_757) (fun _ h9 => h9) rfl (by decide +kernel) rfl rfl (Nat.le_of_ble_eq_true rfl) d_M_numbers_143 (fun H locs hP hD hS => ?_)
  refine lv_aload_n hx hb d_M_numbers_146 rfl (lv_at hl 5 rfl) ?_
  refine lv_iload hx hb d_M_numbers_147 (lv_at hl 1 rfl) ?_
  refine va_put (D := (dC, dI)) (ci := 2) (v := .int st.2.1) (ty := .boolean) (C := R_M) (T := F_M) (N := 14) hx hb hT i_M ft_M ft_M_ok n_M hown hK hP hD hS 0 rfl rfl 5 (by decide) (hT _ m_758) (fun _ h9 => h9) rfl (by decide +kernel) hln.2 hln.1 (Nat.le_of_ble_eq_true rfl) d_M_numbers_149 (fun H locs hP hD hS => ?_)
  have hP : va_P (dC, dI) classes (wM m0 mt ms mr mk cI cC 0 yb bi1 d1 a1 b1 f1 st.1 st.2.1 (nI st.2.2.length) str rg ft fk2) H := hP
  refine lv_iconst (v := 0) hx hb d_M_numbers_152 (by decide) ?_
  refine lv_istore (lv' := [(8, .int 0), (2, .int (nI (goM str 128 h 0))), (7, .int st.2.1), (6, .int st.1), (5, .int yb), (4, .int (nI st.2.2.length)), (0, .ref m0), (1, .int (nI h))]) hx hb d_M_numbers_153 hl (by decide) rfl (fun ls hl => ?_)
  refine ld_M_numbers (v := st.2.2) S inC hT (Nat.le_of_ble_eq_true rfl) (Nat.le_of_ble_eq_true rfl) ⟨(Nat.le_of_ble_eq_true rfl), (Nat.le_of_ble_eq_true rfl)⟩ hK ap ok1 hA g2.1 g2.2.2 hf2 (fun ft H locs ls hg hP hS hl => ?_) st.2.2.length 0 (by omega) ft _ _ ls (fun j hj => absurd hj (Nat.not_lt_zero j)) hP hS (lv_sub hl [0, 1, 6] rfl)
  refine lv_iload_n hx hb d_M_numbers_184 rfl (lv_at hl 0 rfl) ?_
  exact W.iret (v := nI (goM str 128 h 0)) hx hb hr (fun t ht hW => ⟨⟨_, (), rfl, rfl, mtp_at ht (⟨_, _, _, _, _, _, ok1, ⟨rg, ft, h1, ⟨g2.1, hg, g2.2.2⟩, hP⟩⟩)⟩, hS.F ht⟩) hS.2.2 d_M_numbers_185

theorem call_M_numbers {p : Program} {l : Launch} {e : Env} {R : Room} {s : State} {m : MethodId} {args : Array Value} {below : List Frame} {meth : Method} {c : Code} {H : Heap} {locs : List Loc} {cells slots : Nat} {Q : State → Prop} {cc : ByteArray} {pc nL idx : Nat} {ls : Array Slot} {rest : List Value} {Ts : List Cond} {own : String} {A0 : Nat → Prop} {H0 : Heap} {dC : Nat → ClassId} {dI : Nat → Nat → Nat} {cI cC : ClassId} {m0 mt ms mr mk : Nat} {th yb bi d a b f : Int32} {str fk : Nat → Int32} {st : MT} {h : Nat} (S : CallFix p m c cc nL s args Ts own) (hTs : ∀ w ∈ WT, w ∈ Ts) (hlk : Cond.methodLink own idx y_M_numbers ∈ WT) (hR : 8 + 1 ≤ R.frames ∧ 8 + (9 + 11) + 174 ≤ R.locals) (hsz : ls.size = nL) (hrm : (rest.map fun v => v.category).sum ≤ 8) (hdg : decode cc pc = .ok (.invokevirtual idx, 3)) (hc : cells ≤ R.cells ∧ slots ≤ R.slots) (hK : rK dC dI cI cC s) (ap : apM m0 mt ms mr mk) (ok : mOk d a b) (hS : va_S A0 H0 H locs) (hA : ∀ q, aM m0 mt ms mr mk q → A0 q) (hw : mwd dC dI cI cC m0 mt ms mr mk th yb bi d a b f str fk st H) (hh : h < 256) (hlnb : fits .boolean (.int st.2.1) = true ∧ narrow .boolean (.int st.2.1) = .int st.2.1) (kk : ∀ (H1 : Heap) (locs1 : List Loc), mtp dC dI cI cC m0 mt ms mr mk 0 yb str st H1 → va_S A0 H0 H1 locs1 → (H.size ≤ H1.size ∧ ∀ q : Nat, q < H.size → ¬ aM m0 mt ms mr mk q → H1[q]? = H[q]?) → W p l e R s m args below meth c H1 locs1 cells slots Q (F0 m (pc + 3) ls (.int (nI (goM str 128 h 0)) :: rest))) : W p l e R s m args below meth c H locs cells slots Q (F0 m pc ls (.int (nI h) :: .ref m0 :: rest)) :=
  va_calli (va_runV (As := [.int (nI h)]) (rest := rest) S (c_M_numbers l dC dI cI cC m0 mt ms mr mk th yb bi d a b f str fk st h) (cwV 1 S.2.2.2.2 (gV hTs hlk m_1065 m_1066 m_52 m_1067) rfl rfl rfl (by decide +kernel) hR) ⟨fun a U g mk q => ⟨q.1, ⟨q.2.1.blind, q.2.2⟩⟩, mwd.recv hK hw, fun U hU hW => ⟨rfl, ⟨mU.at hK ap ok hw hU hW, hh, hlnb⟩⟩⟩ rfl rfl hsz rfl (lv_room hrm) hdg hc) hS (fun q _ h => hA q h) hA (fun r u t H1 locs1 ht hvm hp hB hz hk hS1 => by subst hp; exact kk H1 locs1 (by rw [← ht]; exact hB) hS1 ⟨hz, hk⟩)
