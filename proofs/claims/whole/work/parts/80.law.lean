abbrev apL (r0 r1 r2 r3 o0 m0 mt ms mr mk : Nat) : Prop := [r0, r1, r2, r3, o0, m0, mt, ms, mr, mk].Nodup
theorem apL.h {r0 r1 r2 r3 o0 m0 mt ms mr mk : Nat} (h : apL r0 r1 r2 r3 o0 m0 mt ms mr mk) : apH r0 r1 r2 r3 o0 := (List.nodup_append.mp (show ([r0, r1, r2, r3, o0] ++ [m0, mt, ms, mr, mk]).Nodup from h)).1
theorem apL.m {r0 r1 r2 r3 o0 m0 mt ms mr mk : Nat} (h : apL r0 r1 r2 r3 o0 m0 mt ms mr mk) : apM m0 mt ms mr mk := (List.nodup_append.mp (show ([r0, r1, r2, r3, o0] ++ [m0, mt, ms, mr, mk]).Nodup from h)).2.1
theorem apL.hm {r0 r1 r2 r3 o0 m0 mt ms mr mk : Nat} (h : apL r0 r1 r2 r3 o0 m0 mt ms mr mk) {q : Nat} (h1 : aH r0 r1 r2 r3 o0 q) (h2 : aM m0 mt ms mr mk q) : False := (List.nodup_append.mp (show ([r0, r1, r2, r3, o0] ++ [m0, mt, ms, mr, mk]).Nodup from h)).2.2 q h1 q h2 rfl
abbrev aS (s : State) : Nat → Prop := fun q => s.heap.size ≤ q
theorem mtp.kept {dC : Nat → ClassId} {dI : Nat → Nat → Nat} {cI cC : ClassId} {m0 mt ms mr mk : Nat} {th yb : Int32} {str : Nat → Int32} {st : MT} {H H1 : Heap} (h : mtp dC dI cI cC m0 mt ms mr mk th yb str st H) (hk : ∀ q : Nat, q < H.size → aM m0 mt ms mr mk q → H1[q]? = H[q]?) : mtp dC dI cI cC m0 mt ms mr mk th yb str st H1 := by
  obtain ⟨bi, d, a, b, f, fk, ok, rg, ft, h1, h2, hP⟩ := h
  refine ⟨bi, d, a, b, f, fk, ok, rg, ft, h1, h2, hP.kept (fun k q hq => hk q.1 (hP k q hq).lt ?_)⟩
  match k, hq with
  | 0, hq => cases hq; simp [aM]
  | 1, hq => cases hq; simp [aM]
  | 2, hq => cases hq; simp [aM]
  | 3, hq => cases hq; simp [aM]
  | 4, hq => cases hq; simp [aM]
  | k + 5, hq => simp at hq
/-- what holds all along the law -/
def lc (p : Program) (l : Launch) (s : State) (m : MethodId) (c : Code) (b L : Nat) (xs : Nat → Int32) (adE adK adV : Nat → Nat) (dC : Nat → ClassId) (dI : Nat → Nat → Nat) (cI cC cL : ClassId) (r0 r1 r2 r3 o0 m0 mt ms mr mk : Nat) : Prop :=
  CallFix p m c code 7 s #[Value.ref b] lw_tbl R_W ∧ l.flags = pinnedFlags ++ [noTraceFlag] ∧ hK5 dC dI cI cC cL s ∧ cx adE adK adV (aS s) s s.heap ∧ xS (aS s) s s.heap ∧ apL r0 r1 r2 r3 o0 m0 mt ms mr mk ∧ (∀ q, aH r0 r1 r2 r3 o0 q → aS s q) ∧ (∀ q, aM m0 mt ms mr mk q → aS s q) ∧ va_X b L xs s s.heap ∧ b < s.heap.size ∧ L ≤ 1536
/-- between two calls: reader and reference hold the same -/
def iv (dC : Nat → ClassId) (dI : Nat → Nat → Nat) (cI cC cL : ClassId) (r0 r1 r2 r3 o0 m0 mt ms mr mk : Nat) (H : Heap) : Prop :=
  ∃ (str : Nat → Int32) (tb ti tp : Int32) (v : List Int32) (ov : Int64) (th : Int32), rwd dC dI cI cC r0 r1 r2 r3 str tb ti tp v H ∧ mtp dC dI cI cC m0 mt ms mr mk th tb str (tp, ti, v) H ∧ ow dC dI cL o0 ov H ∧ v.length ≤ 40 ∧ (ti = 0 ∨ ti = 1)
theorem lg_self (x : Int64) : lg_cmp x x = 0 := by unfold lg_cmp; simp
theorem ki_01 (K : Nat) : f_K_isInstruction K = 0 ∨ f_K_isInstruction K = 1 := by
  rw [f_K_isInstruction]
  by_cases h : K = 0
  · rw [if_pos h]; exact Or.inl rfl
  · rw [if_neg h]
    by_cases h2 : K = 1
    · rw [if_pos h2]; exact Or.inl rfl
    · rw [if_neg h2]; exact Or.inr rfl
theorem bool_01 {ti : Int32} (h : ti = 0 ∨ ti = 1) : fits .boolean (.int ti) = true ∧ narrow .boolean (.int ti) = .int ti := by
  rcases h with rfl | rfl <;> exact ⟨rfl, rfl⟩

set_option maxRecDepth 100000 in
set_option maxHeartbeats 4000000 in
theorem law_0 {p : Program} {l : Launch} {e : Env} {s : State} {m : MethodId} {below : List Frame} {meth : Method} {c : Code} {b L : Nat} {xs : Nat → Int32} {adE adK adV : Nat → Nat} {dC : Nat → ClassId} {dI : Nat → Nat → Nat} {cI cC cL : ClassId} {r0 r1 r2 r3 o0 m0 mt ms mr mk : Nat} {Q : State → Prop} {cells slots i : Nat} {H : Heap} {locs : List Loc} {ls : Array Slot} (C : lc p l s m c b L xs adE adK adV dC dI cI cC cL r0 r1 r2 r3 o0 m0 mt ms mr mk) (hi : i + 3 ≤ L) (hce : cells + 1 ≤ 1037) (hsl : slots + 6 ≤ 8944) (hI : iv dC dI cI cC cL r0 r1 r2 r3 o0 m0 mt ms mr mk H) (hS : va_S (aS s) s.heap H locs) (hl : lv_has ls 7 [(4, .int (nI i)), (3, .ref o0), (2, .ref m0), (1, .ref r0), (0, .ref b)]) (kk : ∀ (H : Heap) (locs : List Loc) (ls : Array Slot), iv dC dI cI cC cL r0 r1 r2 r3 o0 m0 mt ms mr mk H → va_S (aS s) s.heap H locs → lv_has ls 7 [(4, .int (nI i)), (3, .ref o0), (2, .ref m0), (1, .ref r0), (0, .ref b)] → W p l e room_1 s m #[Value.ref b] below meth c H locs (cells + 1) (slots + 6) Q (F0 m 486 ls [])) : W p l e room_1 s m #[Value.ref b] below meth c H locs cells slots Q (F0 m 84 ls []) := by
  obtain ⟨S, hfl, hK5, hC, hX, apl, hAH, hAM, hXs, hbl, hL⟩ := C
  have hx := S.1
  have hb := S.2.1
  have hown := S.2.2.2.1
  have hT : ∀ w ∈ WT, w.before _ s = true := fun w h => S.2.2.2.2 w (WT_in w h)
  have hbA : ¬ aS s b := Nat.not_le.mpr hbl
  have hK := hK5.r
  have ap5 := apl.h
  have apr := ap5.r.1
  have apm := apl.m
  have hA : ∀ q, aR r0 r1 r2 r3 q → aS s q := fun q h => hAH q (aR_H q h)
  have hin1 : vp_in (nI i + 1) L := by rw [nI_1]; exact vp_in_nI (by omega) (by omega)
  have hin2 : vp_in (nI i + 2) L := by rw [show nI i + 2 = nI (i + 2) from nI_add i 2]; exact vp_in_nI (by omega) (by omega)
  obtain ⟨x1, e1⟩ : ∃ x, x = xs (nI i + 1).toNatClampNeg := ⟨_, rfl⟩
  obtain ⟨x2, e2⟩ : ∃ x, x = xs (nI i + 2).toNatClampNeg := ⟨_, rfl⟩
  obtain ⟨str, tb, ti, tp, v, ov, th, hw, hm, ho, hv40, hti⟩ := hI
  have hmin : min v.length 40 = v.length := Nat.min_eq_left hv40
  refine lv_aload_n hx hb d_W_law_84 rfl (lv_at hl 3 rfl) ?_
  refine lv_aload_n hx hb d_W_law_85 rfl (lv_at hl 4 rfl) ?_
  refine lv_iload hx hb d_W_law_86 (lv_at hl 0 rfl) ?_
  refine lv_iconst (v := 1) hx hb d_W_law_88 (by decide) ?_
  refine lv_iadd hx hb d_W_law_89 ?_
  refine va_sld hx hb hXs hbl hbA hS hin1 d_W_law_90 ?_
  rw [← e1]
  refine call_R_read S WT_in m_107 ⟨(Nat.le_of_ble_eq_true rfl), (Nat.le_of_ble_eq_true rfl)⟩ hl.1 (Nat.le_of_ble_eq_true rfl) d_W_law_91 ⟨by show _ ≤ 1037; omega, by show _ ≤ 8944; omega⟩ hK apr hC hS hA hw (fun H locs hw hS hfr => ?_)
  have hm := hm.kept (fun q hq hq2 => hfr.2 q hq (fun z => apl.hm (aR_H q z) hq2))
  have ho := ho.kept (hfr.2 o0 ho.lt ap5.r.2)
  refine lv_aload_n hx hb d_W_law_94 rfl (lv_at hl 2 rfl) ?_
  refine lv_aload_n hx hb d_W_law_95 rfl (lv_at hl 4 rfl) ?_
  refine lv_iload hx hb d_W_law_96 (lv_at hl 0 rfl) ?_
  refine lv_iconst (v := 1) hx hb d_W_law_98 (by decide) ?_
  refine lv_iadd hx hb d_W_law_99 ?_
  refine va_sld hx hb hXs hbl hbA hS hin1 d_W_law_100 ?_
  rw [← e1]
  obtain ⟨bi, d, a, bb, f, fk, ok, hmw⟩ := hm
  refine call_M_read S WT_in m_800 ⟨(Nat.le_of_ble_eq_true rfl), (Nat.le_of_ble_eq_true rfl)⟩ hl.1 (Nat.le_of_ble_eq_true rfl) d_W_law_101 ⟨by show _ ≤ 1037; omega, by show _ ≤ 8944; omega⟩ hK apm ok hS hAM hmw  (fun H locs hm hS hfr => ?_)
  have hw := hw.kept (fun q hq hq2 => hfr.2 q hq (fun z => apl.hm (aR_H q hq2) z))
  have ho := ho.kept (hfr.2 o0 ho.lt (fun z => apl.hm (by simp [aH]) z))
  have hlen := gU_len (lo16 x1)
  have er : (nI (min (f_T_write (f_R_kindOf (lo16 x1)) (lo16 x1)).length 40) : Int32) = nI (gU (loM x1)).2.2.length := by rw [Nat.min_eq_left hlen, ← lo_eq, u_eq]; rfl
  refine lv_icmp_eq (tgt := 486) hx hb d_W_law_104 (by decide) (fun _ => ?_) (fun h => absurd er h)
  rw [← lo_eq, ← tb_eq, u_eq] at hm
  refine W.widen (k := cells + 1) (n := slots + 6) (by omega) (by omega) ?_
  exact kk _ _ ls ⟨str, _, _, _, _, _, _, hw, hm, ho, hlen, ki_01 _⟩ hS hl

set_option maxRecDepth 100000 in
set_option maxHeartbeats 4000000 in
theorem law_2 {p : Program} {l : Launch} {e : Env} {s : State} {m : MethodId} {below : List Frame} {meth : Method} {c : Code} {b L : Nat} {xs : Nat → Int32} {adE adK adV : Nat → Nat} {dC : Nat → ClassId} {dI : Nat → Nat → Nat} {cI cC cL : ClassId} {r0 r1 r2 r3 o0 m0 mt ms mr mk : Nat} {Q : State → Prop} {cells slots i : Nat} {H : Heap} {locs : List Loc} {ls : Array Slot} (C : lc p l s m c b L xs adE adK adV dC dI cI cC cL r0 r1 r2 r3 o0 m0 mt ms mr mk) (hi : i + 3 ≤ L) (hce : cells + 1 ≤ 1037) (hsl : slots + 6 ≤ 8944) (hI : iv dC dI cI cC cL r0 r1 r2 r3 o0 m0 mt ms mr mk H) (hS : va_S (aS s) s.heap H locs) (hl : lv_has ls 7 [(4, .int (nI i)), (3, .ref o0), (2, .ref m0), (1, .ref r0), (0, .ref b)]) (kk : ∀ (H : Heap) (locs : List Loc) (ls : Array Slot), iv dC dI cI cC cL r0 r1 r2 r3 o0 m0 mt ms mr mk H → va_S (aS s) s.heap H locs → lv_has ls 7 [(4, .int (nI i)), (3, .ref o0), (2, .ref m0), (1, .ref r0), (0, .ref b)] → W p l e room_1 s m #[Value.ref b] below meth c H locs (cells + 1) (slots + 6) Q (F0 m 486 ls [])) : W p l e room_1 s m #[Value.ref b] below meth c H locs cells slots Q (F0 m 165 ls []) := by
  obtain ⟨S, hfl, hK5, hC, hX, apl, hAH, hAM, hXs, hbl, hL⟩ := C
  have hx := S.1
  have hb := S.2.1
  have hown := S.2.2.2.1
  have hT : ∀ w ∈ WT, w.before _ s = true := fun w h => S.2.2.2.2 w (WT_in w h)
  have hbA : ¬ aS s b := Nat.not_le.mpr hbl
  have hK := hK5.r
  have ap5 := apl.h
  have apr := ap5.r.1
  have apm := apl.m
  have hA : ∀ q, aR r0 r1 r2 r3 q → aS s q := fun q h => hAH q (aR_H q h)
  have hin1 : vp_in (nI i + 1) L := by rw [nI_1]; exact vp_in_nI (by omega) (by omega)
  have hin2 : vp_in (nI i + 2) L := by rw [show nI i + 2 = nI (i + 2) from nI_add i 2]; exact vp_in_nI (by omega) (by omega)
  obtain ⟨x1, e1⟩ : ∃ x, x = xs (nI i + 1).toNatClampNeg := ⟨_, rfl⟩
  obtain ⟨x2, e2⟩ : ∃ x, x = xs (nI i + 2).toNatClampNeg := ⟨_, rfl⟩
  obtain ⟨str, tb, ti, tp, v, ov, th, hw, hm, ho, hv40, hti⟩ := hI
  have hmin : min v.length 40 = v.length := Nat.min_eq_left hv40
  refine lv_aload_n hx hb d_W_law_165 rfl (lv_at hl 3 rfl) ?_
  refine lv_aload_n hx hb d_W_law_166 rfl (lv_at hl 4 rfl) ?_
  refine lv_iload hx hb d_W_law_167 (lv_at hl 0 rfl) ?_
  refine lv_iconst (v := 1) hx hb d_W_law_169 (by decide) ?_
  refine lv_iadd hx hb d_W_law_170 ?_
  refine va_sld hx hb hXs hbl hbA hS hin1 d_W_law_171 ?_
  rw [← e1]
  refine call_R_about S WT_in m_579 ⟨(Nat.le_of_ble_eq_true rfl), (Nat.le_of_ble_eq_true rfl)⟩ hl.1 (Nat.le_of_ble_eq_true rfl) d_W_law_172 ⟨by show _ ≤ 1037; omega, by show _ ≤ 8944; omega⟩ hK hC hS hw ?_
  refine lv_aload_n hx hb d_W_law_175 rfl (lv_at hl 2 rfl) ?_
  refine lv_aload_n hx hb d_W_law_176 rfl (lv_at hl 4 rfl) ?_
  refine lv_iload hx hb d_W_law_177 (lv_at hl 0 rfl) ?_
  refine lv_iconst (v := 1) hx hb d_W_law_179 (by decide) ?_
  refine lv_iadd hx hb d_W_law_180 ?_
  refine va_sld hx hb hXs hbl hbA hS hin1 d_W_law_181 ?_
  rw [← e1]
  obtain ⟨bi, d, a, bb, f, fk, ok, hmw⟩ := hm
  refine call_M_about S WT_in m_1032 ⟨(Nat.le_of_ble_eq_true rfl), (Nat.le_of_ble_eq_true rfl)⟩ hl.1 (Nat.le_of_ble_eq_true rfl) d_W_law_182 ⟨by show _ ≤ 1037; omega, by show _ ≤ 8944; omega⟩ hK apm ok hS hAM hmw  (fun H locs hm hS hfr => ?_)
  have hw := hw.kept (fun q hq hq2 => hfr.2 q hq (fun z => apl.hm (aR_H q hq2) z))
  have ho := ho.kept (hfr.2 o0 ho.lt (fun z => apl.hm (by simp [aH]) z))
  refine lv_icmp_eq (tgt := 486) hx hb d_W_law_185 (by decide) (fun _ => ?_) (fun h => absurd (ab_eq hv40 tb ti tp x1) h)
  refine W.widen (k := cells + 1) (n := slots + 6) (by omega) (by omega) ?_
  exact kk _ _ ls ⟨str, tb, ti, tp, v, _, _, hw, hm, ho, hv40, hti⟩ hS hl

set_option maxRecDepth 100000 in
set_option maxHeartbeats 4000000 in
theorem law_1 {p : Program} {l : Launch} {e : Env} {s : State} {m : MethodId} {below : List Frame} {meth : Method} {c : Code} {b L : Nat} {xs : Nat → Int32} {adE adK adV : Nat → Nat} {dC : Nat → ClassId} {dI : Nat → Nat → Nat} {cI cC cL : ClassId} {r0 r1 r2 r3 o0 m0 mt ms mr mk : Nat} {Q : State → Prop} {cells slots i : Nat} {H : Heap} {locs : List Loc} {ls : Array Slot} (C : lc p l s m c b L xs adE adK adV dC dI cI cC cL r0 r1 r2 r3 o0 m0 mt ms mr mk) (hi : i + 3 ≤ L) (hce : cells + 1 ≤ 1037) (hsl : slots + 6 ≤ 8944) (hI : iv dC dI cI cC cL r0 r1 r2 r3 o0 m0 mt ms mr mk H) (hS : va_S (aS s) s.heap H locs) (hl : lv_has ls 7 [(4, .int (nI i)), (3, .ref o0), (2, .ref m0), (1, .ref r0), (0, .ref b)]) (kk : ∀ (H : Heap) (locs : List Loc) (ls : Array Slot), iv dC dI cI cC cL r0 r1 r2 r3 o0 m0 mt ms mr mk H → va_S (aS s) s.heap H locs → lv_has ls 7 [(4, .int (nI i)), (3, .ref o0), (2, .ref m0), (1, .ref r0), (0, .ref b)] → W p l e room_1 s m #[Value.ref b] below meth c H locs (cells + 1) (slots + 6) Q (F0 m 486 ls [])) : W p l e room_1 s m #[Value.ref b] below meth c H locs cells slots Q (F0 m 109 ls []) := by
  obtain ⟨S, hfl, hK5, hC, hX, apl, hAH, hAM, hXs, hbl, hL⟩ := C
  have hx := S.1
  have hb := S.2.1
  have hown := S.2.2.2.1
  have hT : ∀ w ∈ WT, w.before _ s = true := fun w h => S.2.2.2.2 w (WT_in w h)
  have hbA : ¬ aS s b := Nat.not_le.mpr hbl
  have hK := hK5.r
  have ap5 := apl.h
  have apr := ap5.r.1
  have apm := apl.m
  have hA : ∀ q, aR r0 r1 r2 r3 q → aS s q := fun q h => hAH q (aR_H q h)
  have hin1 : vp_in (nI i + 1) L := by rw [nI_1]; exact vp_in_nI (by omega) (by omega)
  have hin2 : vp_in (nI i + 2) L := by rw [show nI i + 2 = nI (i + 2) from nI_add i 2]; exact vp_in_nI (by omega) (by omega)
  obtain ⟨x1, e1⟩ : ∃ x, x = xs (nI i + 1).toNatClampNeg := ⟨_, rfl⟩
  obtain ⟨x2, e2⟩ : ∃ x, x = xs (nI i + 2).toNatClampNeg := ⟨_, rfl⟩
  obtain ⟨str, tb, ti, tp, v, ov, th, hw, hm, ho, hv40, hti⟩ := hI
  have hmin : min v.length 40 = v.length := Nat.min_eq_left hv40
  by_cases hg : x1 < 0 ∨ nI (min v.length 40) ≤ x1
  · refine lv_aload_n hx hb d_W_law_109 rfl (lv_at hl 3 rfl) ?_
    refine lv_aload_n hx hb d_W_law_110 rfl (lv_at hl 4 rfl) ?_
    refine lv_iload hx hb d_W_law_111 (lv_at hl 0 rfl) ?_
    refine lv_iconst (v := 1) hx hb d_W_law_113 (by decide) ?_
    refine lv_iadd hx hb d_W_law_114 ?_
    refine va_sld hx hb hXs hbl hbA hS hin1 d_W_law_115 ?_
    rw [← e1]
    refine lv_aload_n hx hb d_W_law_116 rfl (lv_at hl 1 rfl) ?_
    refine call_W_letterX S WT_in m_583 hfl ⟨(Nat.le_of_ble_eq_true rfl), (Nat.le_of_ble_eq_true rfl)⟩ hl.1 (Nat.le_of_ble_eq_true rfl) d_W_law_117 ⟨by show _ ≤ 1037; omega, by show _ ≤ 8944; omega⟩ hK5 ap5 hC hX hS hAH hw ho hg (fun H locs hw ho hS hfr => ?_)
    have hm := hm.kept (fun q hq hq2 => hfr.2 q hq (fun z => apl.hm z hq2))
    refine lv_istore (lv' := [(5, .int 1), (4, .int (nI i)), (3, .ref o0), (2, .ref m0), (1, .ref r0), (0, .ref b)]) hx hb d_W_law_120 hl (by decide) rfl (fun ls hl => ?_)
    refine lv_aload_n hx hb d_W_law_122 rfl (lv_at hl 3 rfl) ?_
    refine lv_aload_n hx hb d_W_law_123 rfl (lv_at hl 5 rfl) ?_
    refine lv_iload hx hb d_W_law_124 (lv_at hl 1 rfl) ?_
    refine lv_iconst (v := 1) hx hb d_W_law_126 (by decide) ?_
    refine lv_iadd hx hb d_W_law_127 ?_
    refine va_sld hx hb hXs hbl hbA hS hin1 d_W_law_128 ?_
    rw [← e1]
    obtain ⟨bi, d, a, bb, f, fk, ok, hmw⟩ := hm
    refine call_M_letterX S WT_in m_1028 ⟨(Nat.le_of_ble_eq_true rfl), (Nat.le_of_ble_eq_true rfl)⟩ hl.1 (Nat.le_of_ble_eq_true rfl) d_W_law_129 ⟨by show _ ≤ 1037; omega, by show _ ≤ 8944; omega⟩ hK apm ok hS hAM hmw (fun h1 h2 => hg.elim h1 (fun z => Int32.not_lt.mpr (by rw [hmin] at z; exact z) h2)) (fun H locs hm hS hfr => ?_)
    have hw := hw.kept (fun q hq hq2 => hfr.2 q hq (fun z => apl.hm (aR_H q hq2) z))
    have ho := ho.kept (hfr.2 o0 ho.lt (fun z => apl.hm (by simp [aH]) z))
    refine lv_istore (lv' := [(6, .int ((0 : Int32))), (5, .int 1), (4, .int (nI i)), (3, .ref o0), (2, .ref m0), (1, .ref r0), (0, .ref b)]) hx hb d_W_law_132 hl (by decide) rfl (fun ls hl => ?_)
    obtain ⟨bi, d, a, bb, f, fk, ok, hmw⟩ := id hm
    refine lv_aload_n hx hb d_W_law_134 rfl (lv_at hl 4 rfl) ?_
    refine call_M_thrown S WT_in m_796 ⟨(Nat.le_of_ble_eq_true rfl), (Nat.le_of_ble_eq_true rfl)⟩ hl.1 (Nat.le_of_ble_eq_true rfl) d_W_law_135 ⟨by show _ ≤ 1037; omega, by show _ ≤ 8944; omega⟩ hK hmw ?_
    refine lv_iload hx hb d_W_law_138 (lv_at hl 1 rfl) ?_
    refine lv_icmp_eq (tgt := 145) hx hb d_W_law_140 (by decide) (fun _ => ?_) (fun h => absurd rfl h)
    refine lv_iload hx hb d_W_law_145 (lv_at hl 1 rfl) ?_
    refine lv_if_ne (tgt := 162) hx hb d_W_law_147 (by decide) (fun _ => ?_) (fun h => absurd h (by decide))
    refine lv_goto (tgt := 486) hx hb d_W_law_162 (by decide) ?_
    refine W.widen (k := cells + 1) (n := slots + 6) (by omega) (by omega) ?_
    exact kk _ _ ls ⟨str, tb, ti, tp, v, _, _, hw, hm, ho, hv40, hti⟩ hS (lv_sub hl [2, 3, 4, 5, 6] rfl)
  obtain ⟨j, hj, rfl⟩ : ∃ j, j < v.length ∧ x1 = nI j := (pk_ix x1 (n := v.length) (by omega)).elim (fun z => absurd (Or.inl z) hg) (fun z => z.elim (fun z => absurd (Or.inr (by rw [hmin]; exact z)) hg) id)
  · refine lv_aload_n hx hb d_W_law_109 rfl (lv_at hl 3 rfl) ?_
    refine lv_aload_n hx hb d_W_law_110 rfl (lv_at hl 4 rfl) ?_
    refine lv_iload hx hb d_W_law_111 (lv_at hl 0 rfl) ?_
    refine lv_iconst (v := 1) hx hb d_W_law_113 (by decide) ?_
    refine lv_iadd hx hb d_W_law_114 ?_
    refine va_sld hx hb hXs hbl hbA hS hin1 d_W_law_115 ?_
    rw [← e1]
    refine lv_aload_n hx hb d_W_law_116 rfl (lv_at hl 1 rfl) ?_
    refine call_W_letter S WT_in m_583 ⟨(Nat.le_of_ble_eq_true rfl), (Nat.le_of_ble_eq_true rfl)⟩ hl.1 (Nat.le_of_ble_eq_true rfl) d_W_law_117 ⟨by show _ ≤ 1037; omega, by show _ ≤ 8944; omega⟩ hK5 ap5 hC hX hS hAH hw ho (show j < min v.length 40 by omega) (fun H locs hw ho hS hfr => ?_)
    have hm := hm.kept (fun q hq hq2 => hfr.2 q hq (fun z => apl.hm z hq2))
    refine lv_istore (lv' := [(5, .int 0), (4, .int (nI i)), (3, .ref o0), (2, .ref m0), (1, .ref r0), (0, .ref b)]) hx hb d_W_law_120 hl (by decide) rfl (fun ls hl => ?_)
    refine lv_aload_n hx hb d_W_law_122 rfl (lv_at hl 3 rfl) ?_
    refine lv_aload_n hx hb d_W_law_123 rfl (lv_at hl 5 rfl) ?_
    refine lv_iload hx hb d_W_law_124 (lv_at hl 1 rfl) ?_
    refine lv_iconst (v := 1) hx hb d_W_law_126 (by decide) ?_
    refine lv_iadd hx hb d_W_law_127 ?_
    refine va_sld hx hb hXs hbl hbA hS hin1 d_W_law_128 ?_
    rw [← e1]
    obtain ⟨bi, d, a, bb, f, fk, ok, hmw⟩ := hm
    refine call_M_letter S WT_in m_1028 ⟨(Nat.le_of_ble_eq_true rfl), (Nat.le_of_ble_eq_true rfl)⟩ hl.1 (Nat.le_of_ble_eq_true rfl) d_W_law_129 ⟨by show _ ≤ 1037; omega, by show _ ≤ 8944; omega⟩ hK apm ok hS hAM hmw hj (fun H locs hm hS hfr => ?_)
    have hw := hw.kept (fun q hq hq2 => hfr.2 q hq (fun z => apl.hm (aR_H q hq2) z))
    have ho := ho.kept (hfr.2 o0 ho.lt (fun z => apl.hm (by simp [aH]) z))
    refine lv_istore (lv' := [(6, .int (v.getD j 0)), (5, .int 0), (4, .int (nI i)), (3, .ref o0), (2, .ref m0), (1, .ref r0), (0, .ref b)]) hx hb d_W_law_132 hl (by decide) rfl (fun ls hl => ?_)
    obtain ⟨bi, d, a, bb, f, fk, ok, hmw⟩ := id hm
    refine lv_aload_n hx hb d_W_law_134 rfl (lv_at hl 4 rfl) ?_
    refine call_M_thrown S WT_in m_796 ⟨(Nat.le_of_ble_eq_true rfl), (Nat.le_of_ble_eq_true rfl)⟩ hl.1 (Nat.le_of_ble_eq_true rfl) d_W_law_135 ⟨by show _ ≤ 1037; omega, by show _ ≤ 8944; omega⟩ hK hmw ?_
    refine lv_iload hx hb d_W_law_138 (lv_at hl 1 rfl) ?_
    refine lv_icmp_eq (tgt := 145) hx hb d_W_law_140 (by decide) (fun _ => ?_) (fun h => absurd rfl h)
    refine lv_iload hx hb d_W_law_145 (lv_at hl 1 rfl) ?_
    refine lv_if_ne (tgt := 162) hx hb d_W_law_147 (by decide) (fun h => absurd rfl h) (fun _ => ?_)
    obtain ⟨g, hg0, hPo⟩ := id ho
    refine lv_aload_n hx hb d_W_law_150 rfl (lv_at hl 3 rfl) ?_
    refine lv_iconst (v := 0) hx hb d_W_law_151 (by decide) ?_
    refine va_lald (D := (dC, dI)) hx hb hK5 hPo 0 2 rfl rfl (i := 0) (by unfold vp_in; decide) d_W_law_152 ?_
    refine lv_iload hx hb d_W_law_153 (lv_at hl 0 rfl) ?_
    refine lv_i2l (v := (v.getD j 0).toInt64) hx hb d_W_law_155 rfl ?_
    refine W.lcmp hx hb d_W_law_156 ?_
    have eg : g (Int32.toNatClampNeg 0) = (v.getD j 0).toInt64 := by rw [show Int32.toNatClampNeg 0 = 0 by decide, hg0]
    refine lv_if_eq (tgt := 162) hx hb d_W_law_157 (by decide) (fun _ => ?_) (fun h => absurd (by rw [eg]; exact lg_self _) h)
    refine lv_goto (tgt := 486) hx hb d_W_law_162 (by decide) ?_
    refine W.widen (k := cells + 1) (n := slots + 6) (by omega) (by omega) ?_
    exact kk _ _ ls ⟨str, tb, ti, tp, v, _, _, hw, hm, ho, hv40, hti⟩ hS (lv_sub hl [2, 3, 4, 5, 6] rfl)

set_option maxRecDepth 100000 in
set_option maxHeartbeats 4000000 in
theorem law_3 {p : Program} {l : Launch} {e : Env} {s : State} {m : MethodId} {below : List Frame} {meth : Method} {c : Code} {b L : Nat} {xs : Nat → Int32} {adE adK adV : Nat → Nat} {dC : Nat → ClassId} {dI : Nat → Nat → Nat} {cI cC cL : ClassId} {r0 r1 r2 r3 o0 m0 mt ms mr mk : Nat} {Q : State → Prop} {cells slots i : Nat} {H : Heap} {locs : List Loc} {ls : Array Slot} (C : lc p l s m c b L xs adE adK adV dC dI cI cC cL r0 r1 r2 r3 o0 m0 mt ms mr mk) (hi : i + 3 ≤ L) (hce : cells + 1 ≤ 1037) (hsl : slots + 6 ≤ 8944) (hI : iv dC dI cI cC cL r0 r1 r2 r3 o0 m0 mt ms mr mk H) (hS : va_S (aS s) s.heap H locs) (hl : lv_has ls 7 [(4, .int (nI i)), (3, .ref o0), (2, .ref m0), (1, .ref r0), (0, .ref b)]) (kk : ∀ (H : Heap) (locs : List Loc) (ls : Array Slot), iv dC dI cI cC cL r0 r1 r2 r3 o0 m0 mt ms mr mk H → va_S (aS s) s.heap H locs → lv_has ls 7 [(4, .int (nI i)), (3, .ref o0), (2, .ref m0), (1, .ref r0), (0, .ref b)] → W p l e room_1 s m #[Value.ref b] below meth c H locs (cells + 1) (slots + 6) Q (F0 m 486 ls [])) : W p l e room_1 s m #[Value.ref b] below meth c H locs cells slots Q (F0 m 190 ls []) := by
  obtain ⟨S, hfl, hK5, hC, hX, apl, hAH, hAM, hXs, hbl, hL⟩ := C
  have hx := S.1
  have hb := S.2.1
  have hown := S.2.2.2.1
  have hT : ∀ w ∈ WT, w.before _ s = true := fun w h => S.2.2.2.2 w (WT_in w h)
  have hbA : ¬ aS s b := Nat.not_le.mpr hbl
  have hK := hK5.r
  have ap5 := apl.h
  have apr := ap5.r.1
  have apm := apl.m
  have hA : ∀ q, aR r0 r1 r2 r3 q → aS s q := fun q h => hAH q (aR_H q h)
  have hin1 : vp_in (nI i + 1) L := by rw [nI_1]; exact vp_in_nI (by omega) (by omega)
  have hin2 : vp_in (nI i + 2) L := by rw [show nI i + 2 = nI (i + 2) from nI_add i 2]; exact vp_in_nI (by omega) (by omega)
  obtain ⟨x1, e1⟩ : ∃ x, x = xs (nI i + 1).toNatClampNeg := ⟨_, rfl⟩
  obtain ⟨x2, e2⟩ : ∃ x, x = xs (nI i + 2).toNatClampNeg := ⟨_, rfl⟩
  obtain ⟨str, tb, ti, tp, v, ov, th, hw, hm, ho, hv40, hti⟩ := hI
  have hmin : min v.length 40 = v.length := Nat.min_eq_left hv40
  by_cases hg : f_R_isAddress x1 = 0
  · refine lv_aload_n hx hb d_W_law_190 rfl (lv_at hl 3 rfl) ?_
    refine lv_aload_n hx hb d_W_law_191 rfl (lv_at hl 4 rfl) ?_
    refine lv_iload hx hb d_W_law_192 (lv_at hl 0 rfl) ?_
    refine lv_iconst (v := 1) hx hb d_W_law_194 (by decide) ?_
    refine lv_iadd hx hb d_W_law_195 ?_
    refine va_sld hx hb hXs hbl hbA hS hin1 d_W_law_196 ?_
    rw [← e1]
    refine lv_aload_n hx hb d_W_law_197 rfl (lv_at hl 4 rfl) ?_
    refine lv_iload hx hb d_W_law_198 (lv_at hl 0 rfl) ?_
    refine lv_iconst (v := 2) hx hb d_W_law_200 (by decide) ?_
    refine lv_iadd hx hb d_W_law_201 ?_
    refine va_sld hx hb hXs hbl hbA hS hin2 d_W_law_202 ?_
    rw [← e2]
    refine call_W_pokeX S WT_in m_661 hfl ⟨(Nat.le_of_ble_eq_true rfl), (Nat.le_of_ble_eq_true rfl)⟩ hl.1 (Nat.le_of_ble_eq_true rfl) d_W_law_203 ⟨by show _ ≤ 1037; omega, by show _ ≤ 8944; omega⟩ hK5 ap5 hC hX hS hAH hw ho hg (fun H locs hw ho hS hfr => ?_)
    have hm := hm.kept (fun q hq hq2 => hfr.2 q hq (fun z => apl.hm z hq2))
    refine lv_istore (lv' := [(5, .int 1), (4, .int (nI i)), (3, .ref o0), (2, .ref m0), (1, .ref r0), (0, .ref b)]) hx hb d_W_law_206 hl (by decide) rfl (fun ls hl => ?_)
    refine lv_aload_n hx hb d_W_law_208 rfl (lv_at hl 3 rfl) ?_
    refine lv_aload_n hx hb d_W_law_209 rfl (lv_at hl 5 rfl) ?_
    refine lv_iload hx hb d_W_law_210 (lv_at hl 1 rfl) ?_
    refine lv_iconst (v := 1) hx hb d_W_law_212 (by decide) ?_
    refine lv_iadd hx hb d_W_law_213 ?_
    refine va_sld hx hb hXs hbl hbA hS hin1 d_W_law_214 ?_
    rw [← e1]
    refine lv_aload_n hx hb d_W_law_215 rfl (lv_at hl 5 rfl) ?_
    refine lv_iload hx hb d_W_law_216 (lv_at hl 1 rfl) ?_
    refine lv_iconst (v := 2) hx hb d_W_law_218 (by decide) ?_
    refine lv_iadd hx hb d_W_law_219 ?_
    refine va_sld hx hb hXs hbl hbA hS hin2 d_W_law_220 ?_
    rw [← e2]
    obtain ⟨bi, d, a, bb, f, fk, ok, hmw⟩ := hm
    refine call_M_pokeX S WT_in m_1036 ⟨(Nat.le_of_ble_eq_true rfl), (Nat.le_of_ble_eq_true rfl)⟩ hl.1 (Nat.le_of_ble_eq_true rfl) d_W_law_221 ⟨by show _ ≤ 1037; omega, by show _ ≤ 8944; omega⟩ hK apm ok hS hAM hmw (fun z => (rf_eq x1).mp z hg) (fun H locs hm hS hfr => ?_)
    have hw := hw.kept (fun q hq hq2 => hfr.2 q hq (fun z => apl.hm (aR_H q hq2) z))
    have ho := ho.kept (hfr.2 o0 ho.lt (fun z => apl.hm (by simp [aH]) z))
    rw [rf_1 hg] at hm
    obtain ⟨bi, d, a, bb, f, fk, ok, hmw⟩ := id hm
    refine lv_aload_n hx hb d_W_law_224 rfl (lv_at hl 3 rfl) ?_
    refine call_M_thrown S WT_in m_796 ⟨(Nat.le_of_ble_eq_true rfl), (Nat.le_of_ble_eq_true rfl)⟩ hl.1 (Nat.le_of_ble_eq_true rfl) d_W_law_225 ⟨by show _ ≤ 1037; omega, by show _ ≤ 8944; omega⟩ hK hmw ?_
    refine lv_iload hx hb d_W_law_228 (lv_at hl 0 rfl) ?_
    refine lv_icmp_eq (tgt := 235) hx hb d_W_law_230 (by decide) (fun _ => ?_) (fun h => absurd rfl h)
    refine lv_goto (tgt := 486) hx hb d_W_law_235 (by decide) ?_
    refine W.widen (k := cells + 1) (n := slots + 6) (by omega) (by omega) ?_
    exact kk _ _ ls ⟨str, tb, ti, tp, v, _, _, hw, hm, ho, hv40, hti⟩ hS (lv_sub hl [1, 2, 3, 4, 5] rfl)
  obtain ⟨j, hj, rfl⟩ := adr_of hg
  · refine lv_aload_n hx hb d_W_law_190 rfl (lv_at hl 3 rfl) ?_
    refine lv_aload_n hx hb d_W_law_191 rfl (lv_at hl 4 rfl) ?_
    refine lv_iload hx hb d_W_law_192 (lv_at hl 0 rfl) ?_
    refine lv_iconst (v := 1) hx hb d_W_law_194 (by decide) ?_
    refine lv_iadd hx hb d_W_law_195 ?_
    refine va_sld hx hb hXs hbl hbA hS hin1 d_W_law_196 ?_
    rw [← e1]
    refine lv_aload_n hx hb d_W_law_197 rfl (lv_at hl 4 rfl) ?_
    refine lv_iload hx hb d_W_law_198 (lv_at hl 0 rfl) ?_
    refine lv_iconst (v := 2) hx hb d_W_law_200 (by decide) ?_
    refine lv_iadd hx hb d_W_law_201 ?_
    refine va_sld hx hb hXs hbl hbA hS hin2 d_W_law_202 ?_
    rw [← e2]
    refine call_W_poke S WT_in m_661 ⟨(Nat.le_of_ble_eq_true rfl), (Nat.le_of_ble_eq_true rfl)⟩ hl.1 (Nat.le_of_ble_eq_true rfl) d_W_law_203 ⟨by show _ ≤ 1037; omega, by show _ ≤ 8944; omega⟩ hK5 ap5 hC hX hS hAH hw ho hj (fun H locs hw ho hS hfr => ?_)
    have hm := hm.kept (fun q hq hq2 => hfr.2 q hq (fun z => apl.hm z hq2))
    refine lv_istore (lv' := [(5, .int 0), (4, .int (nI i)), (3, .ref o0), (2, .ref m0), (1, .ref r0), (0, .ref b)]) hx hb d_W_law_206 hl (by decide) rfl (fun ls hl => ?_)
    refine lv_aload_n hx hb d_W_law_208 rfl (lv_at hl 3 rfl) ?_
    refine lv_aload_n hx hb d_W_law_209 rfl (lv_at hl 5 rfl) ?_
    refine lv_iload hx hb d_W_law_210 (lv_at hl 1 rfl) ?_
    refine lv_iconst (v := 1) hx hb d_W_law_212 (by decide) ?_
    refine lv_iadd hx hb d_W_law_213 ?_
    refine va_sld hx hb hXs hbl hbA hS hin1 d_W_law_214 ?_
    rw [← e1]
    refine lv_aload_n hx hb d_W_law_215 rfl (lv_at hl 5 rfl) ?_
    refine lv_iload hx hb d_W_law_216 (lv_at hl 1 rfl) ?_
    refine lv_iconst (v := 2) hx hb d_W_law_218 (by decide) ?_
    refine lv_iadd hx hb d_W_law_219 ?_
    refine va_sld hx hb hXs hbl hbA hS hin2 d_W_law_220 ?_
    rw [← e2]
    obtain ⟨bi, d, a, bb, f, fk, ok, hmw⟩ := hm
    refine call_M_poke S WT_in m_1036 ⟨(Nat.le_of_ble_eq_true rfl), (Nat.le_of_ble_eq_true rfl)⟩ hl.1 (Nat.le_of_ble_eq_true rfl) d_W_law_221 ⟨by show _ ≤ 1037; omega, by show _ ≤ 8944; omega⟩ hK apm ok hS hAM hmw hj (fun H locs hm hS hfr => ?_)
    have hw := hw.kept (fun q hq hq2 => hfr.2 q hq (fun z => apl.hm (aR_H q hq2) z))
    have ho := ho.kept (hfr.2 o0 ho.lt (fun z => apl.hm (by simp [aH]) z))
    obtain ⟨bi, d, a, bb, f, fk, ok, hmw⟩ := id hm
    refine lv_aload_n hx hb d_W_law_224 rfl (lv_at hl 3 rfl) ?_
    refine call_M_thrown S WT_in m_796 ⟨(Nat.le_of_ble_eq_true rfl), (Nat.le_of_ble_eq_true rfl)⟩ hl.1 (Nat.le_of_ble_eq_true rfl) d_W_law_225 ⟨by show _ ≤ 1037; omega, by show _ ≤ 8944; omega⟩ hK hmw ?_
    refine lv_iload hx hb d_W_law_228 (lv_at hl 0 rfl) ?_
    refine lv_icmp_eq (tgt := 235) hx hb d_W_law_230 (by decide) (fun _ => ?_) (fun h => absurd rfl h)
    refine lv_goto (tgt := 486) hx hb d_W_law_235 (by decide) ?_
    refine W.widen (k := cells + 1) (n := slots + 6) (by omega) (by omega) ?_
    exact kk _ _ ls ⟨_, tb, ti, tp, v, _, _, hw, hm, ho, hv40, hti⟩ hS (lv_sub hl [1, 2, 3, 4, 5] rfl)

set_option maxRecDepth 100000 in
set_option maxHeartbeats 4000000 in
theorem law_4 {p : Program} {l : Launch} {e : Env} {s : State} {m : MethodId} {below : List Frame} {meth : Method} {c : Code} {b L : Nat} {xs : Nat → Int32} {adE adK adV : Nat → Nat} {dC : Nat → ClassId} {dI : Nat → Nat → Nat} {cI cC cL : ClassId} {r0 r1 r2 r3 o0 m0 mt ms mr mk : Nat} {Q : State → Prop} {cells slots i : Nat} {H : Heap} {locs : List Loc} {ls : Array Slot} (C : lc p l s m c b L xs adE adK adV dC dI cI cC cL r0 r1 r2 r3 o0 m0 mt ms mr mk) (hi : i + 3 ≤ L) (hce : cells + 1 ≤ 1037) (hsl : slots + 6 ≤ 8944) (hI : iv dC dI cI cC cL r0 r1 r2 r3 o0 m0 mt ms mr mk H) (hS : va_S (aS s) s.heap H locs) (hl : lv_has ls 7 [(4, .int (nI i)), (3, .ref o0), (2, .ref m0), (1, .ref r0), (0, .ref b)]) (kk : ∀ (H : Heap) (locs : List Loc) (ls : Array Slot), iv dC dI cI cC cL r0 r1 r2 r3 o0 m0 mt ms mr mk H → va_S (aS s) s.heap H locs → lv_has ls 7 [(4, .int (nI i)), (3, .ref o0), (2, .ref m0), (1, .ref r0), (0, .ref b)] → W p l e room_1 s m #[Value.ref b] below meth c H locs (cells + 1) (slots + 6) Q (F0 m 486 ls [])) : W p l e room_1 s m #[Value.ref b] below meth c H locs cells slots Q (F0 m 238 ls []) := by
  obtain ⟨S, hfl, hK5, hC, hX, apl, hAH, hAM, hXs, hbl, hL⟩ := C
  have hx := S.1
  have hb := S.2.1
  have hown := S.2.2.2.1
  have hT : ∀ w ∈ WT, w.before _ s = true := fun w h => S.2.2.2.2 w (WT_in w h)
  have hbA : ¬ aS s b := Nat.not_le.mpr hbl
  have hK := hK5.r
  have ap5 := apl.h
  have apr := ap5.r.1
  have apm := apl.m
  have hA : ∀ q, aR r0 r1 r2 r3 q → aS s q := fun q h => hAH q (aR_H q h)
  have hin1 : vp_in (nI i + 1) L := by rw [nI_1]; exact vp_in_nI (by omega) (by omega)
  have hin2 : vp_in (nI i + 2) L := by rw [show nI i + 2 = nI (i + 2) from nI_add i 2]; exact vp_in_nI (by omega) (by omega)
  obtain ⟨x1, e1⟩ : ∃ x, x = xs (nI i + 1).toNatClampNeg := ⟨_, rfl⟩
  obtain ⟨x2, e2⟩ : ∃ x, x = xs (nI i + 2).toNatClampNeg := ⟨_, rfl⟩
  obtain ⟨str, tb, ti, tp, v, ov, th, hw, hm, ho, hv40, hti⟩ := hI
  have hmin : min v.length 40 = v.length := Nat.min_eq_left hv40
  by_cases hg : f_R_isAddress x1 = 0
  · refine lv_aload_n hx hb d_W_law_238 rfl (lv_at hl 3 rfl) ?_
    refine lv_aload_n hx hb d_W_law_239 rfl (lv_at hl 4 rfl) ?_
    refine lv_iload hx hb d_W_law_240 (lv_at hl 0 rfl) ?_
    refine lv_iconst (v := 1) hx hb d_W_law_242 (by decide) ?_
    refine lv_iadd hx hb d_W_law_243 ?_
    refine va_sld hx hb hXs hbl hbA hS hin1 d_W_law_244 ?_
    rw [← e1]
    refine lv_aload_n hx hb d_W_law_245 rfl (lv_at hl 1 rfl) ?_
    refine call_W_atX S WT_in m_675 hfl ⟨(Nat.le_of_ble_eq_true rfl), (Nat.le_of_ble_eq_true rfl)⟩ hl.1 (Nat.le_of_ble_eq_true rfl) d_W_law_246 ⟨by show _ ≤ 1037; omega, by show _ ≤ 8944; omega⟩ hK5 ap5 hC hX hS hAH hw ho hg (fun H locs hw ho hS hfr => ?_)
    have hm := hm.kept (fun q hq hq2 => hfr.2 q hq (fun z => apl.hm z hq2))
    refine lv_istore (lv' := [(5, .int 1), (4, .int (nI i)), (3, .ref o0), (2, .ref m0), (1, .ref r0), (0, .ref b)]) hx hb d_W_law_249 hl (by decide) rfl (fun ls hl => ?_)
    refine lv_aload_n hx hb d_W_law_251 rfl (lv_at hl 3 rfl) ?_
    refine lv_aload_n hx hb d_W_law_252 rfl (lv_at hl 5 rfl) ?_
    refine lv_iload hx hb d_W_law_253 (lv_at hl 1 rfl) ?_
    refine lv_iconst (v := 1) hx hb d_W_law_255 (by decide) ?_
    refine lv_iadd hx hb d_W_law_256 ?_
    refine va_sld hx hb hXs hbl hbA hS hin1 d_W_law_257 ?_
    rw [← e1]
    obtain ⟨bi, d, a, bb, f, fk, ok, hmw⟩ := hm
    refine call_M_atX S WT_in m_1044 ⟨(Nat.le_of_ble_eq_true rfl), (Nat.le_of_ble_eq_true rfl)⟩ hl.1 (Nat.le_of_ble_eq_true rfl) d_W_law_258 ⟨by show _ ≤ 1037; omega, by show _ ≤ 8944; omega⟩ hK apm ok hS hAM hmw (fun z => (rf_eq x1).mp z hg) (fun H locs hm hS hfr => ?_)
    have hw := hw.kept (fun q hq hq2 => hfr.2 q hq (fun z => apl.hm (aR_H q hq2) z))
    have ho := ho.kept (hfr.2 o0 ho.lt (fun z => apl.hm (by simp [aH]) z))
    refine lv_istore (lv' := [(6, .int ((0 : Int32))), (5, .int 1), (4, .int (nI i)), (3, .ref o0), (2, .ref m0), (1, .ref r0), (0, .ref b)]) hx hb d_W_law_261 hl (by decide) rfl (fun ls hl => ?_)
    rw [rf_1 hg] at hm
    obtain ⟨bi, d, a, bb, f, fk, ok, hmw⟩ := id hm
    refine lv_aload_n hx hb d_W_law_263 rfl (lv_at hl 4 rfl) ?_
    refine call_M_thrown S WT_in m_796 ⟨(Nat.le_of_ble_eq_true rfl), (Nat.le_of_ble_eq_true rfl)⟩ hl.1 (Nat.le_of_ble_eq_true rfl) d_W_law_264 ⟨by show _ ≤ 1037; omega, by show _ ≤ 8944; omega⟩ hK hmw ?_
    refine lv_iload hx hb d_W_law_267 (lv_at hl 1 rfl) ?_
    refine lv_icmp_eq (tgt := 274) hx hb d_W_law_269 (by decide) (fun _ => ?_) (fun h => absurd rfl h)
    refine lv_iload hx hb d_W_law_274 (lv_at hl 1 rfl) ?_
    refine lv_if_ne (tgt := 291) hx hb d_W_law_276 (by decide) (fun _ => ?_) (fun h => absurd h (by decide))
    refine lv_goto (tgt := 486) hx hb d_W_law_291 (by decide) ?_
    refine W.widen (k := cells + 1) (n := slots + 6) (by omega) (by omega) ?_
    exact kk _ _ ls ⟨str, tb, ti, tp, v, _, _, hw, hm, ho, hv40, hti⟩ hS (lv_sub hl [2, 3, 4, 5, 6] rfl)
  obtain ⟨j, hj, rfl⟩ := adr_of hg
  by_cases hn : 256 < j + bt str j
  · refine lv_aload_n hx hb d_W_law_238 rfl (lv_at hl 3 rfl) ?_
    refine lv_aload_n hx hb d_W_law_239 rfl (lv_at hl 4 rfl) ?_
    refine lv_iload hx hb d_W_law_240 (lv_at hl 0 rfl) ?_
    refine lv_iconst (v := 1) hx hb d_W_law_242 (by decide) ?_
    refine lv_iadd hx hb d_W_law_243 ?_
    refine va_sld hx hb hXs hbl hbA hS hin1 d_W_law_244 ?_
    rw [← e1]
    refine lv_aload_n hx hb d_W_law_245 rfl (lv_at hl 1 rfl) ?_
    refine call_W_at0 S WT_in m_675 ⟨(Nat.le_of_ble_eq_true rfl), (Nat.le_of_ble_eq_true rfl)⟩ hl.1 (Nat.le_of_ble_eq_true rfl) d_W_law_246 ⟨by show _ ≤ 1037; omega, by show _ ≤ 8944; omega⟩ hK5 ap5 hC hX hS hAH hw ho ⟨hj, (whole_eq str hj).mpr hn⟩ (fun H locs hw ho hS hfr => ?_)
    have hm := hm.kept (fun q hq hq2 => hfr.2 q hq (fun z => apl.hm z hq2))
    refine lv_istore (lv' := [(5, .int 0), (4, .int (nI i)), (3, .ref o0), (2, .ref m0), (1, .ref r0), (0, .ref b)]) hx hb d_W_law_249 hl (by decide) rfl (fun ls hl => ?_)
    refine lv_aload_n hx hb d_W_law_251 rfl (lv_at hl 3 rfl) ?_
    refine lv_aload_n hx hb d_W_law_252 rfl (lv_at hl 5 rfl) ?_
    refine lv_iload hx hb d_W_law_253 (lv_at hl 1 rfl) ?_
    refine lv_iconst (v := 1) hx hb d_W_law_255 (by decide) ?_
    refine lv_iadd hx hb d_W_law_256 ?_
    refine va_sld hx hb hXs hbl hbA hS hin1 d_W_law_257 ?_
    rw [← e1]
    obtain ⟨bi, d, a, bb, f, fk, ok, hmw⟩ := hm
    refine call_M_atN S WT_in m_1044 ⟨(Nat.le_of_ble_eq_true rfl), (Nat.le_of_ble_eq_true rfl)⟩ hl.1 (Nat.le_of_ble_eq_true rfl) d_W_law_258 ⟨by show _ ≤ 1037; omega, by show _ ≤ 8944; omega⟩ hK apm ok hS hAM hmw hj hn (fun H locs hm hS hfr => ?_)
    have hw := hw.kept (fun q hq hq2 => hfr.2 q hq (fun z => apl.hm (aR_H q hq2) z))
    have ho := ho.kept (hfr.2 o0 ho.lt (fun z => apl.hm (by simp [aH]) z))
    refine lv_istore (lv' := [(6, .int ((0 : Int32))), (5, .int 0), (4, .int (nI i)), (3, .ref o0), (2, .ref m0), (1, .ref r0), (0, .ref b)]) hx hb d_W_law_261 hl (by decide) rfl (fun ls hl => ?_)
    obtain ⟨bi, d, a, bb, f, fk, ok, hmw⟩ := id hm
    refine lv_aload_n hx hb d_W_law_263 rfl (lv_at hl 4 rfl) ?_
    refine call_M_thrown S WT_in m_796 ⟨(Nat.le_of_ble_eq_true rfl), (Nat.le_of_ble_eq_true rfl)⟩ hl.1 (Nat.le_of_ble_eq_true rfl) d_W_law_264 ⟨by show _ ≤ 1037; omega, by show _ ≤ 8944; omega⟩ hK hmw ?_
    refine lv_iload hx hb d_W_law_267 (lv_at hl 1 rfl) ?_
    refine lv_icmp_eq (tgt := 274) hx hb d_W_law_269 (by decide) (fun _ => ?_) (fun h => absurd rfl h)
    refine lv_iload hx hb d_W_law_274 (lv_at hl 1 rfl) ?_
    refine lv_if_ne (tgt := 291) hx hb d_W_law_276 (by decide) (fun h => absurd rfl h) (fun _ => ?_)
    obtain ⟨g, hg0, hPo⟩ := id ho
    refine lv_aload_n hx hb d_W_law_279 rfl (lv_at hl 3 rfl) ?_
    refine lv_iconst (v := 0) hx hb d_W_law_280 (by decide) ?_
    refine va_lald (D := (dC, dI)) hx hb hK5 hPo 0 2 rfl rfl (i := 0) (by unfold vp_in; decide) d_W_law_281 ?_
    refine lv_iload hx hb d_W_law_282 (lv_at hl 0 rfl) ?_
    refine lv_i2l (v := ((0 : Int32)).toInt64) hx hb d_W_law_284 rfl ?_
    refine W.lcmp hx hb d_W_law_285 ?_
    have eg : g (Int32.toNatClampNeg 0) = ((0 : Int32)).toInt64 := by rw [show Int32.toNatClampNeg 0 = 0 by decide, hg0]
    refine lv_if_eq (tgt := 291) hx hb d_W_law_286 (by decide) (fun _ => ?_) (fun h => absurd (by rw [eg]; exact lg_self _) h)
    refine lv_goto (tgt := 486) hx hb d_W_law_291 (by decide) ?_
    refine W.widen (k := cells + 1) (n := slots + 6) (by omega) (by omega) ?_
    exact kk _ _ ls ⟨str, tb, ti, tp, v, _, _, hw, hm, ho, hv40, hti⟩ hS (lv_sub hl [2, 3, 4, 5, 6] rfl)
  · refine lv_aload_n hx hb d_W_law_238 rfl (lv_at hl 3 rfl) ?_
    refine lv_aload_n hx hb d_W_law_239 rfl (lv_at hl 4 rfl) ?_
    refine lv_iload hx hb d_W_law_240 (lv_at hl 0 rfl) ?_
    refine lv_iconst (v := 1) hx hb d_W_law_242 (by decide) ?_
    refine lv_iadd hx hb d_W_law_243 ?_
    refine va_sld hx hb hXs hbl hbA hS hin1 d_W_law_244 ?_
    rw [← e1]
    refine lv_aload_n hx hb d_W_law_245 rfl (lv_at hl 1 rfl) ?_
    refine call_W_at1 S WT_in m_675 ⟨(Nat.le_of_ble_eq_true rfl), (Nat.le_of_ble_eq_true rfl)⟩ hl.1 (Nat.le_of_ble_eq_true rfl) d_W_law_246 ⟨by show _ ≤ 1037; omega, by show _ ≤ 8944; omega⟩ hK5 ap5 hC hX hS hAH hw ho ⟨hj, fun z => hn ((whole_eq str hj).mp z)⟩ (fun H locs hw ho hS hfr => ?_)
    have hm := hm.kept (fun q hq hq2 => hfr.2 q hq (fun z => apl.hm z hq2))
    refine lv_istore (lv' := [(5, .int 0), (4, .int (nI i)), (3, .ref o0), (2, .ref m0), (1, .ref r0), (0, .ref b)]) hx hb d_W_law_249 hl (by decide) rfl (fun ls hl => ?_)
    refine lv_aload_n hx hb d_W_law_251 rfl (lv_at hl 3 rfl) ?_
    refine lv_aload_n hx hb d_W_law_252 rfl (lv_at hl 5 rfl) ?_
    refine lv_iload hx hb d_W_law_253 (lv_at hl 1 rfl) ?_
    refine lv_iconst (v := 1) hx hb d_W_law_255 (by decide) ?_
    refine lv_iadd hx hb d_W_law_256 ?_
    refine va_sld hx hb hXs hbl hbA hS hin1 d_W_law_257 ?_
    rw [← e1]
    obtain ⟨bi, d, a, bb, f, fk, ok, hmw⟩ := hm
    refine call_M_at S WT_in m_1044 ⟨(Nat.le_of_ble_eq_true rfl), (Nat.le_of_ble_eq_true rfl)⟩ hl.1 (Nat.le_of_ble_eq_true rfl) d_W_law_258 ⟨by show _ ≤ 1037; omega, by show _ ≤ 8944; omega⟩ hK apm ok hS hAM hmw hj (by omega) (fun H locs hm hS hfr => ?_)
    have hw := hw.kept (fun q hq hq2 => hfr.2 q hq (fun z => apl.hm (aR_H q hq2) z))
    have ho := ho.kept (hfr.2 o0 ho.lt (fun z => apl.hm (by simp [aH]) z))
    refine lv_istore (lv' := [(6, .int (tbM (tkM str j))), (5, .int 0), (4, .int (nI i)), (3, .ref o0), (2, .ref m0), (1, .ref r0), (0, .ref b)]) hx hb d_W_law_261 hl (by decide) rfl (fun ls hl => ?_)
    have eb := bits_eq str (h := j) (by omega)
    rw [← tb_eq, ← eb, u_eq] at hm
    obtain ⟨bi, d, a, bb, f, fk, ok, hmw⟩ := id hm
    refine lv_aload_n hx hb d_W_law_263 rfl (lv_at hl 4 rfl) ?_
    refine call_M_thrown S WT_in m_796 ⟨(Nat.le_of_ble_eq_true rfl), (Nat.le_of_ble_eq_true rfl)⟩ hl.1 (Nat.le_of_ble_eq_true rfl) d_W_law_264 ⟨by show _ ≤ 1037; omega, by show _ ≤ 8944; omega⟩ hK hmw ?_
    refine lv_iload hx hb d_W_law_267 (lv_at hl 1 rfl) ?_
    refine lv_icmp_eq (tgt := 274) hx hb d_W_law_269 (by decide) (fun _ => ?_) (fun h => absurd rfl h)
    refine lv_iload hx hb d_W_law_274 (lv_at hl 1 rfl) ?_
    refine lv_if_ne (tgt := 291) hx hb d_W_law_276 (by decide) (fun h => absurd rfl h) (fun _ => ?_)
    obtain ⟨g, hg0, hPo⟩ := id ho
    refine lv_aload_n hx hb d_W_law_279 rfl (lv_at hl 3 rfl) ?_
    refine lv_iconst (v := 0) hx hb d_W_law_280 (by decide) ?_
    refine va_lald (D := (dC, dI)) hx hb hK5 hPo 0 2 rfl rfl (i := 0) (by unfold vp_in; decide) d_W_law_281 ?_
    refine lv_iload hx hb d_W_law_282 (lv_at hl 0 rfl) ?_
    refine lv_i2l (v := (tbM (tkM str j)).toInt64) hx hb d_W_law_284 rfl ?_
    refine W.lcmp hx hb d_W_law_285 ?_
    have eg : g (Int32.toNatClampNeg 0) = (tbM (tkM str j)).toInt64 := by rw [show Int32.toNatClampNeg 0 = 0 by decide, hg0, eb, tb_eq]
    refine lv_if_eq (tgt := 291) hx hb d_W_law_286 (by decide) (fun _ => ?_) (fun h => absurd (by rw [eg]; exact lg_self _) h)
    refine lv_goto (tgt := 486) hx hb d_W_law_291 (by decide) ?_
    refine W.widen (k := cells + 1) (n := slots + 6) (by omega) (by omega) ?_
    exact kk _ _ ls ⟨str, _, _, _, _, _, _, hw, hm, ho, gU_len _, ki_01 _⟩ hS (lv_sub hl [2, 3, 4, 5, 6] rfl)

set_option maxRecDepth 100000 in
set_option maxHeartbeats 4000000 in
theorem law_5 {p : Program} {l : Launch} {e : Env} {s : State} {m : MethodId} {below : List Frame} {meth : Method} {c : Code} {b L : Nat} {xs : Nat → Int32} {adE adK adV : Nat → Nat} {dC : Nat → ClassId} {dI : Nat → Nat → Nat} {cI cC cL : ClassId} {r0 r1 r2 r3 o0 m0 mt ms mr mk : Nat} {Q : State → Prop} {cells slots i : Nat} {H : Heap} {locs : List Loc} {ls : Array Slot} (C : lc p l s m c b L xs adE adK adV dC dI cI cC cL r0 r1 r2 r3 o0 m0 mt ms mr mk) (hi : i + 3 ≤ L) (hce : cells + 1 ≤ 1037) (hsl : slots + 6 ≤ 8944) (hI : iv dC dI cI cC cL r0 r1 r2 r3 o0 m0 mt ms mr mk H) (hS : va_S (aS s) s.heap H locs) (hl : lv_has ls 7 [(4, .int (nI i)), (3, .ref o0), (2, .ref m0), (1, .ref r0), (0, .ref b)]) (kk : ∀ (H : Heap) (locs : List Loc) (ls : Array Slot), iv dC dI cI cC cL r0 r1 r2 r3 o0 m0 mt ms mr mk H → va_S (aS s) s.heap H locs → lv_has ls 7 [(4, .int (nI i)), (3, .ref o0), (2, .ref m0), (1, .ref r0), (0, .ref b)] → W p l e room_1 s m #[Value.ref b] below meth c H locs (cells + 1) (slots + 6) Q (F0 m 486 ls [])) : W p l e room_1 s m #[Value.ref b] below meth c H locs cells slots Q (F0 m 294 ls []) := by
  obtain ⟨S, hfl, hK5, hC, hX, apl, hAH, hAM, hXs, hbl, hL⟩ := C
  have hx := S.1
  have hb := S.2.1
  have hown := S.2.2.2.1
  have hT : ∀ w ∈ WT, w.before _ s = true := fun w h => S.2.2.2.2 w (WT_in w h)
  have hbA : ¬ aS s b := Nat.not_le.mpr hbl
  have hK := hK5.r
  have ap5 := apl.h
  have apr := ap5.r.1
  have apm := apl.m
  have hA : ∀ q, aR r0 r1 r2 r3 q → aS s q := fun q h => hAH q (aR_H q h)
  have hin1 : vp_in (nI i + 1) L := by rw [nI_1]; exact vp_in_nI (by omega) (by omega)
  have hin2 : vp_in (nI i + 2) L := by rw [show nI i + 2 = nI (i + 2) from nI_add i 2]; exact vp_in_nI (by omega) (by omega)
  obtain ⟨x1, e1⟩ : ∃ x, x = xs (nI i + 1).toNatClampNeg := ⟨_, rfl⟩
  obtain ⟨x2, e2⟩ : ∃ x, x = xs (nI i + 2).toNatClampNeg := ⟨_, rfl⟩
  obtain ⟨str, tb, ti, tp, v, ov, th, hw, hm, ho, hv40, hti⟩ := hI
  have hmin : min v.length 40 = v.length := Nat.min_eq_left hv40
  by_cases hg : f_R_isAddress x1 = 0
  · refine lv_aload_n hx hb d_W_law_294 rfl (lv_at hl 3 rfl) ?_
    refine lv_aload_n hx hb d_W_law_295 rfl (lv_at hl 4 rfl) ?_
    refine lv_iload hx hb d_W_law_296 (lv_at hl 0 rfl) ?_
    refine lv_iconst (v := 1) hx hb d_W_law_298 (by decide) ?_
    refine lv_iadd hx hb d_W_law_299 ?_
    refine va_sld hx hb hXs hbl hbA hS hin1 d_W_law_300 ?_
    rw [← e1]
    refine lv_aload_n hx hb d_W_law_301 rfl (lv_at hl 4 rfl) ?_
    refine lv_iload hx hb d_W_law_302 (lv_at hl 0 rfl) ?_
    refine lv_iconst (v := 2) hx hb d_W_law_304 (by decide) ?_
    refine lv_iadd hx hb d_W_law_305 ?_
    refine va_sld hx hb hXs hbl hbA hS hin2 d_W_law_306 ?_
    rw [← e2]
    refine lv_aload_n hx hb d_W_law_307 rfl (lv_at hl 1 rfl) ?_
    refine call_W_nextX S WT_in m_706 hfl ⟨(Nat.le_of_ble_eq_true rfl), (Nat.le_of_ble_eq_true rfl)⟩ hl.1 (Nat.le_of_ble_eq_true rfl) d_W_law_308 ⟨by show _ ≤ 1037; omega, by show _ ≤ 8944; omega⟩ hK5 ap5 hC hX hS hAH hw ho hg (fun H locs hw ho hS hfr => ?_)
    have hm := hm.kept (fun q hq hq2 => hfr.2 q hq (fun z => apl.hm z hq2))
    refine lv_istore (lv' := [(5, .int 1), (4, .int (nI i)), (3, .ref o0), (2, .ref m0), (1, .ref r0), (0, .ref b)]) hx hb d_W_law_311 hl (by decide) rfl (fun ls hl => ?_)
    refine lv_aload_n hx hb d_W_law_313 rfl (lv_at hl 3 rfl) ?_
    refine lv_aload_n hx hb d_W_law_314 rfl (lv_at hl 5 rfl) ?_
    refine lv_iload hx hb d_W_law_315 (lv_at hl 1 rfl) ?_
    refine lv_iconst (v := 1) hx hb d_W_law_317 (by decide) ?_
    refine lv_iadd hx hb d_W_law_318 ?_
    refine va_sld hx hb hXs hbl hbA hS hin1 d_W_law_319 ?_
    rw [← e1]
    refine lv_aload_n hx hb d_W_law_320 rfl (lv_at hl 5 rfl) ?_
    refine lv_iload hx hb d_W_law_321 (lv_at hl 1 rfl) ?_
    refine lv_iconst (v := 2) hx hb d_W_law_323 (by decide) ?_
    refine lv_iadd hx hb d_W_law_324 ?_
    refine va_sld hx hb hXs hbl hbA hS hin2 d_W_law_325 ?_
    rw [← e2]
    obtain ⟨bi, d, a, bb, f, fk, ok, hmw⟩ := hm
    refine call_M_next2X S WT_in m_1056 ⟨(Nat.le_of_ble_eq_true rfl), (Nat.le_of_ble_eq_true rfl)⟩ hl.1 (Nat.le_of_ble_eq_true rfl) d_W_law_326 ⟨by show _ ≤ 1037; omega, by show _ ≤ 8944; omega⟩ hK apm ok hS hAM hmw (fun z => (rf_eq x1).mp z hg) (fun H locs hm hS hfr => ?_)
    have hw := hw.kept (fun q hq hq2 => hfr.2 q hq (fun z => apl.hm (aR_H q hq2) z))
    have ho := ho.kept (hfr.2 o0 ho.lt (fun z => apl.hm (by simp [aH]) z))
    refine lv_istore (lv' := [(6, .int ((0 : Int32))), (5, .int 1), (4, .int (nI i)), (3, .ref o0), (2, .ref m0), (1, .ref r0), (0, .ref b)]) hx hb d_W_law_329 hl (by decide) rfl (fun ls hl => ?_)
    rw [rf_1 hg] at hm
    obtain ⟨bi, d, a, bb, f, fk, ok, hmw⟩ := id hm
    refine lv_aload_n hx hb d_W_law_331 rfl (lv_at hl 4 rfl) ?_
    refine call_M_thrown S WT_in m_796 ⟨(Nat.le_of_ble_eq_true rfl), (Nat.le_of_ble_eq_true rfl)⟩ hl.1 (Nat.le_of_ble_eq_true rfl) d_W_law_332 ⟨by show _ ≤ 1037; omega, by show _ ≤ 8944; omega⟩ hK hmw ?_
    refine lv_iload hx hb d_W_law_335 (lv_at hl 1 rfl) ?_
    refine lv_icmp_eq (tgt := 342) hx hb d_W_law_337 (by decide) (fun _ => ?_) (fun h => absurd rfl h)
    refine lv_iload hx hb d_W_law_342 (lv_at hl 1 rfl) ?_
    refine lv_if_ne (tgt := 359) hx hb d_W_law_344 (by decide) (fun _ => ?_) (fun h => absurd h (by decide))
    refine lv_goto (tgt := 486) hx hb d_W_law_359 (by decide) ?_
    refine W.widen (k := cells + 1) (n := slots + 6) (by omega) (by omega) ?_
    exact kk _ _ ls ⟨str, tb, ti, tp, v, _, _, hw, hm, ho, hv40, hti⟩ hS (lv_sub hl [2, 3, 4, 5, 6] rfl)
  by_cases hn : x2 < 0
  · obtain ⟨j, hj, rfl⟩ := adr_of hg
    refine lv_aload_n hx hb d_W_law_294 rfl (lv_at hl 3 rfl) ?_
    refine lv_aload_n hx hb d_W_law_295 rfl (lv_at hl 4 rfl) ?_
    refine lv_iload hx hb d_W_law_296 (lv_at hl 0 rfl) ?_
    refine lv_iconst (v := 1) hx hb d_W_law_298 (by decide) ?_
    refine lv_iadd hx hb d_W_law_299 ?_
    refine va_sld hx hb hXs hbl hbA hS hin1 d_W_law_300 ?_
    rw [← e1]
    refine lv_aload_n hx hb d_W_law_301 rfl (lv_at hl 4 rfl) ?_
    refine lv_iload hx hb d_W_law_302 (lv_at hl 0 rfl) ?_
    refine lv_iconst (v := 2) hx hb d_W_law_304 (by decide) ?_
    refine lv_iadd hx hb d_W_law_305 ?_
    refine va_sld hx hb hXs hbl hbA hS hin2 d_W_law_306 ?_
    rw [← e2]
    refine lv_aload_n hx hb d_W_law_307 rfl (lv_at hl 1 rfl) ?_
    refine call_W_nextX2 S WT_in m_706 hfl ⟨(Nat.le_of_ble_eq_true rfl), (Nat.le_of_ble_eq_true rfl)⟩ hl.1 (Nat.le_of_ble_eq_true rfl) d_W_law_308 ⟨by show _ ≤ 1037; omega, by show _ ≤ 8944; omega⟩ hK5 ap5 hC hX hS hAH hw ho ⟨hg, hn⟩ (fun H locs hw ho hS hfr => ?_)
    have hm := hm.kept (fun q hq hq2 => hfr.2 q hq (fun z => apl.hm z hq2))
    refine lv_istore (lv' := [(5, .int 2), (4, .int (nI i)), (3, .ref o0), (2, .ref m0), (1, .ref r0), (0, .ref b)]) hx hb d_W_law_311 hl (by decide) rfl (fun ls hl => ?_)
    refine lv_aload_n hx hb d_W_law_313 rfl (lv_at hl 3 rfl) ?_
    refine lv_aload_n hx hb d_W_law_314 rfl (lv_at hl 5 rfl) ?_
    refine lv_iload hx hb d_W_law_315 (lv_at hl 1 rfl) ?_
    refine lv_iconst (v := 1) hx hb d_W_law_317 (by decide) ?_
    refine lv_iadd hx hb d_W_law_318 ?_
    refine va_sld hx hb hXs hbl hbA hS hin1 d_W_law_319 ?_
    rw [← e1]
    refine lv_aload_n hx hb d_W_law_320 rfl (lv_at hl 5 rfl) ?_
    refine lv_iload hx hb d_W_law_321 (lv_at hl 1 rfl) ?_
    refine lv_iconst (v := 2) hx hb d_W_law_323 (by decide) ?_
    refine lv_iadd hx hb d_W_law_324 ?_
    refine va_sld hx hb hXs hbl hbA hS hin2 d_W_law_325 ?_
    rw [← e2]
    obtain ⟨bi, d, a, bb, f, fk, ok, hmw⟩ := hm
    refine call_M_next2G S WT_in m_1056 ⟨(Nat.le_of_ble_eq_true rfl), (Nat.le_of_ble_eq_true rfl)⟩ hl.1 (Nat.le_of_ble_eq_true rfl) d_W_law_326 ⟨by show _ ≤ 1037; omega, by show _ ≤ 8944; omega⟩ hK apm ok hS hAM hmw hj (fun z => absurd hn (Int32.not_lt.mpr z)) (fun H locs hm hS hfr => ?_)
    have hw := hw.kept (fun q hq hq2 => hfr.2 q hq (fun z => apl.hm (aR_H q hq2) z))
    have ho := ho.kept (hfr.2 o0 ho.lt (fun z => apl.hm (by simp [aH]) z))
    refine lv_istore (lv' := [(6, .int ((0 : Int32))), (5, .int 2), (4, .int (nI i)), (3, .ref o0), (2, .ref m0), (1, .ref r0), (0, .ref b)]) hx hb d_W_law_329 hl (by decide) rfl (fun ls hl => ?_)
    obtain ⟨bi, d, a, bb, f, fk, ok, hmw⟩ := id hm
    refine lv_aload_n hx hb d_W_law_331 rfl (lv_at hl 4 rfl) ?_
    refine call_M_thrown S WT_in m_796 ⟨(Nat.le_of_ble_eq_true rfl), (Nat.le_of_ble_eq_true rfl)⟩ hl.1 (Nat.le_of_ble_eq_true rfl) d_W_law_332 ⟨by show _ ≤ 1037; omega, by show _ ≤ 8944; omega⟩ hK hmw ?_
    refine lv_iload hx hb d_W_law_335 (lv_at hl 1 rfl) ?_
    refine lv_icmp_eq (tgt := 342) hx hb d_W_law_337 (by decide) (fun _ => ?_) (fun h => absurd rfl h)
    refine lv_iload hx hb d_W_law_342 (lv_at hl 1 rfl) ?_
    refine lv_if_ne (tgt := 359) hx hb d_W_law_344 (by decide) (fun _ => ?_) (fun h => absurd h (by decide))
    refine lv_goto (tgt := 486) hx hb d_W_law_359 (by decide) ?_
    refine W.widen (k := cells + 1) (n := slots + 6) (by omega) (by omega) ?_
    exact kk _ _ ls ⟨str, tb, ti, tp, v, _, _, hw, hm, ho, hv40, hti⟩ hS (lv_sub hl [2, 3, 4, 5, 6] rfl)
  obtain ⟨j, hj, rfl⟩ := adr_of hg
  obtain ⟨N, hN, rfl⟩ := nI_of hn
  · refine lv_aload_n hx hb d_W_law_294 rfl (lv_at hl 3 rfl) ?_
    refine lv_aload_n hx hb d_W_law_295 rfl (lv_at hl 4 rfl) ?_
    refine lv_iload hx hb d_W_law_296 (lv_at hl 0 rfl) ?_
    refine lv_iconst (v := 1) hx hb d_W_law_298 (by decide) ?_
    refine lv_iadd hx hb d_W_law_299 ?_
    refine va_sld hx hb hXs hbl hbA hS hin1 d_W_law_300 ?_
    rw [← e1]
    refine lv_aload_n hx hb d_W_law_301 rfl (lv_at hl 4 rfl) ?_
    refine lv_iload hx hb d_W_law_302 (lv_at hl 0 rfl) ?_
    refine lv_iconst (v := 2) hx hb d_W_law_304 (by decide) ?_
    refine lv_iadd hx hb d_W_law_305 ?_
    refine va_sld hx hb hXs hbl hbA hS hin2 d_W_law_306 ?_
    rw [← e2]
    refine lv_aload_n hx hb d_W_law_307 rfl (lv_at hl 1 rfl) ?_
    refine call_W_next S WT_in m_706 ⟨(Nat.le_of_ble_eq_true rfl), (Nat.le_of_ble_eq_true rfl)⟩ hl.1 (Nat.le_of_ble_eq_true rfl) d_W_law_308 ⟨by show _ ≤ 1037; omega, by show _ ≤ 8944; omega⟩ hK5 ap5 hC hX hS hAH hw ho ⟨hj, hN⟩ (fun H locs hw ho hS hfr => ?_)
    have hm := hm.kept (fun q hq hq2 => hfr.2 q hq (fun z => apl.hm z hq2))
    refine lv_istore (lv' := [(5, .int 0), (4, .int (nI i)), (3, .ref o0), (2, .ref m0), (1, .ref r0), (0, .ref b)]) hx hb d_W_law_311 hl (by decide) rfl (fun ls hl => ?_)
    refine lv_aload_n hx hb d_W_law_313 rfl (lv_at hl 3 rfl) ?_
    refine lv_aload_n hx hb d_W_law_314 rfl (lv_at hl 5 rfl) ?_
    refine lv_iload hx hb d_W_law_315 (lv_at hl 1 rfl) ?_
    refine lv_iconst (v := 1) hx hb d_W_law_317 (by decide) ?_
    refine lv_iadd hx hb d_W_law_318 ?_
    refine va_sld hx hb hXs hbl hbA hS hin1 d_W_law_319 ?_
    rw [← e1]
    refine lv_aload_n hx hb d_W_law_320 rfl (lv_at hl 5 rfl) ?_
    refine lv_iload hx hb d_W_law_321 (lv_at hl 1 rfl) ?_
    refine lv_iconst (v := 2) hx hb d_W_law_323 (by decide) ?_
    refine lv_iadd hx hb d_W_law_324 ?_
    refine va_sld hx hb hXs hbl hbA hS hin2 d_W_law_325 ?_
    rw [← e2]
    obtain ⟨bi, d, a, bb, f, fk, ok, hmw⟩ := hm
    refine call_M_next2 S WT_in m_1056 ⟨(Nat.le_of_ble_eq_true rfl), (Nat.le_of_ble_eq_true rfl)⟩ hl.1 (Nat.le_of_ble_eq_true rfl) d_W_law_326 ⟨by show _ ≤ 1037; omega, by show _ ≤ 8944; omega⟩ hK apm ok hS hAM hmw hj hN (fun H locs hm hS hfr => ?_)
    have hw := hw.kept (fun q hq hq2 => hfr.2 q hq (fun z => apl.hm (aR_H q hq2) z))
    have ho := ho.kept (hfr.2 o0 ho.lt (fun z => apl.hm (by simp [aH]) z))
    refine lv_istore (lv' := [(6, .int (endN (goN str 128 N j))), (5, .int 0), (4, .int (nI i)), (3, .ref o0), (2, .ref m0), (1, .ref r0), (0, .ref b)]) hx hb d_W_law_329 hl (by decide) rfl (fun ls hl => ?_)
    obtain ⟨bi, d, a, bb, f, fk, ok, hmw⟩ := id hm
    refine lv_aload_n hx hb d_W_law_331 rfl (lv_at hl 4 rfl) ?_
    refine call_M_thrown S WT_in m_796 ⟨(Nat.le_of_ble_eq_true rfl), (Nat.le_of_ble_eq_true rfl)⟩ hl.1 (Nat.le_of_ble_eq_true rfl) d_W_law_332 ⟨by show _ ≤ 1037; omega, by show _ ≤ 8944; omega⟩ hK hmw ?_
    refine lv_iload hx hb d_W_law_335 (lv_at hl 1 rfl) ?_
    refine lv_icmp_eq (tgt := 342) hx hb d_W_law_337 (by decide) (fun _ => ?_) (fun h => absurd rfl h)
    refine lv_iload hx hb d_W_law_342 (lv_at hl 1 rfl) ?_
    refine lv_if_ne (tgt := 359) hx hb d_W_law_344 (by decide) (fun h => absurd rfl h) (fun _ => ?_)
    obtain ⟨g, hg0, hPo⟩ := id ho
    refine lv_aload_n hx hb d_W_law_347 rfl (lv_at hl 3 rfl) ?_
    refine lv_iconst (v := 0) hx hb d_W_law_348 (by decide) ?_
    refine va_lald (D := (dC, dI)) hx hb hK5 hPo 0 2 rfl rfl (i := 0) (by unfold vp_in; decide) d_W_law_349 ?_
    refine lv_iload hx hb d_W_law_350 (lv_at hl 0 rfl) ?_
    refine lv_i2l (v := (endN (goN str 128 N j)).toInt64) hx hb d_W_law_352 rfl ?_
    refine W.lcmp hx hb d_W_law_353 ?_
    have eg : g (Int32.toNatClampNeg 0) = (endN (goN str 128 N j)).toInt64 := by rw [show Int32.toNatClampNeg 0 = 0 by decide, hg0]
    refine lv_if_eq (tgt := 359) hx hb d_W_law_354 (by decide) (fun _ => ?_) (fun h => absurd (by rw [eg]; exact lg_self _) h)
    refine lv_goto (tgt := 486) hx hb d_W_law_359 (by decide) ?_
    refine W.widen (k := cells + 1) (n := slots + 6) (by omega) (by omega) ?_
    exact kk _ _ ls ⟨str, tb, ti, tp, v, _, _, hw, hm, ho, hv40, hti⟩ hS (lv_sub hl [2, 3, 4, 5, 6] rfl)

set_option maxRecDepth 100000 in
set_option maxHeartbeats 4000000 in
theorem law_6 {p : Program} {l : Launch} {e : Env} {s : State} {m : MethodId} {below : List Frame} {meth : Method} {c : Code} {b L : Nat} {xs : Nat → Int32} {adE adK adV : Nat → Nat} {dC : Nat → ClassId} {dI : Nat → Nat → Nat} {cI cC cL : ClassId} {r0 r1 r2 r3 o0 m0 mt ms mr mk : Nat} {Q : State → Prop} {cells slots i : Nat} {H : Heap} {locs : List Loc} {ls : Array Slot} (C : lc p l s m c b L xs adE adK adV dC dI cI cC cL r0 r1 r2 r3 o0 m0 mt ms mr mk) (hi : i + 3 ≤ L) (hce : cells + 1 ≤ 1037) (hsl : slots + 6 ≤ 8944) (hI : iv dC dI cI cC cL r0 r1 r2 r3 o0 m0 mt ms mr mk H) (hS : va_S (aS s) s.heap H locs) (hl : lv_has ls 7 [(4, .int (nI i)), (3, .ref o0), (2, .ref m0), (1, .ref r0), (0, .ref b)]) (kk : ∀ (H : Heap) (locs : List Loc) (ls : Array Slot), iv dC dI cI cC cL r0 r1 r2 r3 o0 m0 mt ms mr mk H → va_S (aS s) s.heap H locs → lv_has ls 7 [(4, .int (nI i)), (3, .ref o0), (2, .ref m0), (1, .ref r0), (0, .ref b)] → W p l e room_1 s m #[Value.ref b] below meth c H locs (cells + 1) (slots + 6) Q (F0 m 486 ls [])) : W p l e room_1 s m #[Value.ref b] below meth c H locs cells slots Q (F0 m 362 ls []) := by
  obtain ⟨S, hfl, hK5, hC, hX, apl, hAH, hAM, hXs, hbl, hL⟩ := C
  have hx := S.1
  have hb := S.2.1
  have hown := S.2.2.2.1
  have hT : ∀ w ∈ WT, w.before _ s = true := fun w h => S.2.2.2.2 w (WT_in w h)
  have hbA : ¬ aS s b := Nat.not_le.mpr hbl
  have hK := hK5.r
  have ap5 := apl.h
  have apr := ap5.r.1
  have apm := apl.m
  have hA : ∀ q, aR r0 r1 r2 r3 q → aS s q := fun q h => hAH q (aR_H q h)
  have hin1 : vp_in (nI i + 1) L := by rw [nI_1]; exact vp_in_nI (by omega) (by omega)
  have hin2 : vp_in (nI i + 2) L := by rw [show nI i + 2 = nI (i + 2) from nI_add i 2]; exact vp_in_nI (by omega) (by omega)
  obtain ⟨x1, e1⟩ : ∃ x, x = xs (nI i + 1).toNatClampNeg := ⟨_, rfl⟩
  obtain ⟨x2, e2⟩ : ∃ x, x = xs (nI i + 2).toNatClampNeg := ⟨_, rfl⟩
  obtain ⟨str, tb, ti, tp, v, ov, th, hw, hm, ho, hv40, hti⟩ := hI
  have hmin : min v.length 40 = v.length := Nat.min_eq_left hv40
  by_cases hg : f_R_isAddress x1 = 0
  · refine lv_aload_n hx hb d_W_law_362 rfl (lv_at hl 3 rfl) ?_
    refine lv_aload_n hx hb d_W_law_363 rfl (lv_at hl 4 rfl) ?_
    refine lv_iload hx hb d_W_law_364 (lv_at hl 0 rfl) ?_
    refine lv_iconst (v := 1) hx hb d_W_law_366 (by decide) ?_
    refine lv_iadd hx hb d_W_law_367 ?_
    refine va_sld hx hb hXs hbl hbA hS hin1 d_W_law_368 ?_
    rw [← e1]
    refine lv_aload_n hx hb d_W_law_369 rfl (lv_at hl 4 rfl) ?_
    refine lv_iload hx hb d_W_law_370 (lv_at hl 0 rfl) ?_
    refine lv_iconst (v := 2) hx hb d_W_law_372 (by decide) ?_
    refine lv_iadd hx hb d_W_law_373 ?_
    refine va_sld hx hb hXs hbl hbA hS hin2 d_W_law_374 ?_
    rw [← e2]
    refine lv_aload_n hx hb d_W_law_375 rfl (lv_at hl 1 rfl) ?_
    refine call_W_beforeX S WT_in m_730 hfl ⟨(Nat.le_of_ble_eq_true rfl), (Nat.le_of_ble_eq_true rfl)⟩ hl.1 (Nat.le_of_ble_eq_true rfl) d_W_law_376 ⟨by show _ ≤ 1037; omega, by show _ ≤ 8944; omega⟩ hK5 ap5 hC hX hS hAH hw ho hg (fun H locs hw ho hS hfr => ?_)
    have hm := hm.kept (fun q hq hq2 => hfr.2 q hq (fun z => apl.hm z hq2))
    refine lv_istore (lv' := [(5, .int 1), (4, .int (nI i)), (3, .ref o0), (2, .ref m0), (1, .ref r0), (0, .ref b)]) hx hb d_W_law_379 hl (by decide) rfl (fun ls hl => ?_)
    refine lv_aload_n hx hb d_W_law_381 rfl (lv_at hl 3 rfl) ?_
    refine lv_aload_n hx hb d_W_law_382 rfl (lv_at hl 5 rfl) ?_
    refine lv_iload hx hb d_W_law_383 (lv_at hl 1 rfl) ?_
    refine lv_iconst (v := 1) hx hb d_W_law_385 (by decide) ?_
    refine lv_iadd hx hb d_W_law_386 ?_
    refine va_sld hx hb hXs hbl hbA hS hin1 d_W_law_387 ?_
    rw [← e1]
    refine lv_aload_n hx hb d_W_law_388 rfl (lv_at hl 5 rfl) ?_
    refine lv_iload hx hb d_W_law_389 (lv_at hl 1 rfl) ?_
    refine lv_iconst (v := 2) hx hb d_W_law_391 (by decide) ?_
    refine lv_iadd hx hb d_W_law_392 ?_
    refine va_sld hx hb hXs hbl hbA hS hin2 d_W_law_393 ?_
    rw [← e2]
    obtain ⟨bi, d, a, bb, f, fk, ok, hmw⟩ := hm
    refine call_M_beforeX S WT_in m_1060 ⟨(Nat.le_of_ble_eq_true rfl), (Nat.le_of_ble_eq_true rfl)⟩ hl.1 (Nat.le_of_ble_eq_true rfl) d_W_law_394 ⟨by show _ ≤ 1037; omega, by show _ ≤ 8944; omega⟩ hK apm ok hS hAM hmw (fun z => (rf_eq x1).mp z hg) (fun H locs hm hS hfr => ?_)
    have hw := hw.kept (fun q hq hq2 => hfr.2 q hq (fun z => apl.hm (aR_H q hq2) z))
    have ho := ho.kept (hfr.2 o0 ho.lt (fun z => apl.hm (by simp [aH]) z))
    refine lv_istore (lv' := [(6, .int ((0 : Int32))), (5, .int 1), (4, .int (nI i)), (3, .ref o0), (2, .ref m0), (1, .ref r0), (0, .ref b)]) hx hb d_W_law_397 hl (by decide) rfl (fun ls hl => ?_)
    rw [rf_1 hg] at hm
    obtain ⟨bi, d, a, bb, f, fk, ok, hmw⟩ := id hm
    refine lv_aload_n hx hb d_W_law_399 rfl (lv_at hl 4 rfl) ?_
    refine call_M_thrown S WT_in m_796 ⟨(Nat.le_of_ble_eq_true rfl), (Nat.le_of_ble_eq_true rfl)⟩ hl.1 (Nat.le_of_ble_eq_true rfl) d_W_law_400 ⟨by show _ ≤ 1037; omega, by show _ ≤ 8944; omega⟩ hK hmw ?_
    refine lv_iload hx hb d_W_law_403 (lv_at hl 1 rfl) ?_
    refine lv_icmp_eq (tgt := 410) hx hb d_W_law_405 (by decide) (fun _ => ?_) (fun h => absurd rfl h)
    refine lv_iload hx hb d_W_law_410 (lv_at hl 1 rfl) ?_
    refine lv_if_ne (tgt := 427) hx hb d_W_law_412 (by decide) (fun _ => ?_) (fun h => absurd h (by decide))
    refine lv_goto (tgt := 486) hx hb d_W_law_427 (by decide) ?_
    refine W.widen (k := cells + 1) (n := slots + 6) (by omega) (by omega) ?_
    exact kk _ _ ls ⟨str, tb, ti, tp, v, _, _, hw, hm, ho, hv40, hti⟩ hS (lv_sub hl [2, 3, 4, 5, 6] rfl)
  by_cases hn : f_R_isAddress x2 = 0
  · obtain ⟨j, hj, rfl⟩ := adr_of hg
    refine lv_aload_n hx hb d_W_law_362 rfl (lv_at hl 3 rfl) ?_
    refine lv_aload_n hx hb d_W_law_363 rfl (lv_at hl 4 rfl) ?_
    refine lv_iload hx hb d_W_law_364 (lv_at hl 0 rfl) ?_
    refine lv_iconst (v := 1) hx hb d_W_law_366 (by decide) ?_
    refine lv_iadd hx hb d_W_law_367 ?_
    refine va_sld hx hb hXs hbl hbA hS hin1 d_W_law_368 ?_
    rw [← e1]
    refine lv_aload_n hx hb d_W_law_369 rfl (lv_at hl 4 rfl) ?_
    refine lv_iload hx hb d_W_law_370 (lv_at hl 0 rfl) ?_
    refine lv_iconst (v := 2) hx hb d_W_law_372 (by decide) ?_
    refine lv_iadd hx hb d_W_law_373 ?_
    refine va_sld hx hb hXs hbl hbA hS hin2 d_W_law_374 ?_
    rw [← e2]
    refine lv_aload_n hx hb d_W_law_375 rfl (lv_at hl 1 rfl) ?_
    refine call_W_beforeX2 S WT_in m_730 hfl ⟨(Nat.le_of_ble_eq_true rfl), (Nat.le_of_ble_eq_true rfl)⟩ hl.1 (Nat.le_of_ble_eq_true rfl) d_W_law_376 ⟨by show _ ≤ 1037; omega, by show _ ≤ 8944; omega⟩ hK5 ap5 hC hX hS hAH hw ho ⟨hg, hn⟩ (fun H locs hw ho hS hfr => ?_)
    have hm := hm.kept (fun q hq hq2 => hfr.2 q hq (fun z => apl.hm z hq2))
    refine lv_istore (lv' := [(5, .int 1), (4, .int (nI i)), (3, .ref o0), (2, .ref m0), (1, .ref r0), (0, .ref b)]) hx hb d_W_law_379 hl (by decide) rfl (fun ls hl => ?_)
    refine lv_aload_n hx hb d_W_law_381 rfl (lv_at hl 3 rfl) ?_
    refine lv_aload_n hx hb d_W_law_382 rfl (lv_at hl 5 rfl) ?_
    refine lv_iload hx hb d_W_law_383 (lv_at hl 1 rfl) ?_
    refine lv_iconst (v := 1) hx hb d_W_law_385 (by decide) ?_
    refine lv_iadd hx hb d_W_law_386 ?_
    refine va_sld hx hb hXs hbl hbA hS hin1 d_W_law_387 ?_
    rw [← e1]
    refine lv_aload_n hx hb d_W_law_388 rfl (lv_at hl 5 rfl) ?_
    refine lv_iload hx hb d_W_law_389 (lv_at hl 1 rfl) ?_
    refine lv_iconst (v := 2) hx hb d_W_law_391 (by decide) ?_
    refine lv_iadd hx hb d_W_law_392 ?_
    refine va_sld hx hb hXs hbl hbA hS hin2 d_W_law_393 ?_
    rw [← e2]
    obtain ⟨bi, d, a, bb, f, fk, ok, hmw⟩ := hm
    refine call_M_beforeY S WT_in m_1060 ⟨(Nat.le_of_ble_eq_true rfl), (Nat.le_of_ble_eq_true rfl)⟩ hl.1 (Nat.le_of_ble_eq_true rfl) d_W_law_394 ⟨by show _ ≤ 1037; omega, by show _ ≤ 8944; omega⟩ hK apm ok hS hAM hmw hj (fun z => (rf_eq x2).mp z hn) (fun H locs hm hS hfr => ?_)
    have hw := hw.kept (fun q hq hq2 => hfr.2 q hq (fun z => apl.hm (aR_H q hq2) z))
    have ho := ho.kept (hfr.2 o0 ho.lt (fun z => apl.hm (by simp [aH]) z))
    refine lv_istore (lv' := [(6, .int ((0 : Int32))), (5, .int 1), (4, .int (nI i)), (3, .ref o0), (2, .ref m0), (1, .ref r0), (0, .ref b)]) hx hb d_W_law_397 hl (by decide) rfl (fun ls hl => ?_)
    rw [rf_1 hn] at hm
    obtain ⟨bi, d, a, bb, f, fk, ok, hmw⟩ := id hm
    refine lv_aload_n hx hb d_W_law_399 rfl (lv_at hl 4 rfl) ?_
    refine call_M_thrown S WT_in m_796 ⟨(Nat.le_of_ble_eq_true rfl), (Nat.le_of_ble_eq_true rfl)⟩ hl.1 (Nat.le_of_ble_eq_true rfl) d_W_law_400 ⟨by show _ ≤ 1037; omega, by show _ ≤ 8944; omega⟩ hK hmw ?_
    refine lv_iload hx hb d_W_law_403 (lv_at hl 1 rfl) ?_
    refine lv_icmp_eq (tgt := 410) hx hb d_W_law_405 (by decide) (fun _ => ?_) (fun h => absurd rfl h)
    refine lv_iload hx hb d_W_law_410 (lv_at hl 1 rfl) ?_
    refine lv_if_ne (tgt := 427) hx hb d_W_law_412 (by decide) (fun _ => ?_) (fun h => absurd h (by decide))
    refine lv_goto (tgt := 486) hx hb d_W_law_427 (by decide) ?_
    refine W.widen (k := cells + 1) (n := slots + 6) (by omega) (by omega) ?_
    exact kk _ _ ls ⟨str, tb, ti, tp, v, _, _, hw, hm, ho, hv40, hti⟩ hS (lv_sub hl [2, 3, 4, 5, 6] rfl)
  obtain ⟨j, hj, rfl⟩ := adr_of hg
  obtain ⟨N, hN, rfl⟩ := adr_of hn
  · refine lv_aload_n hx hb d_W_law_362 rfl (lv_at hl 3 rfl) ?_
    refine lv_aload_n hx hb d_W_law_363 rfl (lv_at hl 4 rfl) ?_
    refine lv_iload hx hb d_W_law_364 (lv_at hl 0 rfl) ?_
    refine lv_iconst (v := 1) hx hb d_W_law_366 (by decide) ?_
    refine lv_iadd hx hb d_W_law_367 ?_
    refine va_sld hx hb hXs hbl hbA hS hin1 d_W_law_368 ?_
    rw [← e1]
    refine lv_aload_n hx hb d_W_law_369 rfl (lv_at hl 4 rfl) ?_
    refine lv_iload hx hb d_W_law_370 (lv_at hl 0 rfl) ?_
    refine lv_iconst (v := 2) hx hb d_W_law_372 (by decide) ?_
    refine lv_iadd hx hb d_W_law_373 ?_
    refine va_sld hx hb hXs hbl hbA hS hin2 d_W_law_374 ?_
    rw [← e2]
    refine lv_aload_n hx hb d_W_law_375 rfl (lv_at hl 1 rfl) ?_
    refine call_W_before S WT_in m_730 ⟨(Nat.le_of_ble_eq_true rfl), (Nat.le_of_ble_eq_true rfl)⟩ hl.1 (Nat.le_of_ble_eq_true rfl) d_W_law_376 ⟨by show _ ≤ 1037; omega, by show _ ≤ 8944; omega⟩ hK5 ap5 hC hX hS hAH hw ho ⟨hj, hN⟩ (fun H locs hw ho hS hfr => ?_)
    have hm := hm.kept (fun q hq hq2 => hfr.2 q hq (fun z => apl.hm z hq2))
    refine lv_istore (lv' := [(5, .int 0), (4, .int (nI i)), (3, .ref o0), (2, .ref m0), (1, .ref r0), (0, .ref b)]) hx hb d_W_law_379 hl (by decide) rfl (fun ls hl => ?_)
    refine lv_aload_n hx hb d_W_law_381 rfl (lv_at hl 3 rfl) ?_
    refine lv_aload_n hx hb d_W_law_382 rfl (lv_at hl 5 rfl) ?_
    refine lv_iload hx hb d_W_law_383 (lv_at hl 1 rfl) ?_
    refine lv_iconst (v := 1) hx hb d_W_law_385 (by decide) ?_
    refine lv_iadd hx hb d_W_law_386 ?_
    refine va_sld hx hb hXs hbl hbA hS hin1 d_W_law_387 ?_
    rw [← e1]
    refine lv_aload_n hx hb d_W_law_388 rfl (lv_at hl 5 rfl) ?_
    refine lv_iload hx hb d_W_law_389 (lv_at hl 1 rfl) ?_
    refine lv_iconst (v := 2) hx hb d_W_law_391 (by decide) ?_
    refine lv_iadd hx hb d_W_law_392 ?_
    refine va_sld hx hb hXs hbl hbA hS hin2 d_W_law_393 ?_
    rw [← e2]
    obtain ⟨bi, d, a, bb, f, fk, ok, hmw⟩ := hm
    refine call_M_before S WT_in m_1060 ⟨(Nat.le_of_ble_eq_true rfl), (Nat.le_of_ble_eq_true rfl)⟩ hl.1 (Nat.le_of_ble_eq_true rfl) d_W_law_394 ⟨by show _ ≤ 1037; omega, by show _ ≤ 8944; omega⟩ hK apm ok hS hAM hmw hj hN (fun H locs hm hS hfr => ?_)
    have hw := hw.kept (fun q hq hq2 => hfr.2 q hq (fun z => apl.hm (aR_H q hq2) z))
    have ho := ho.kept (hfr.2 o0 ho.lt (fun z => apl.hm (by simp [aH]) z))
    refine lv_istore (lv' := [(6, .int (goB str 128 N j (-1))), (5, .int 0), (4, .int (nI i)), (3, .ref o0), (2, .ref m0), (1, .ref r0), (0, .ref b)]) hx hb d_W_law_397 hl (by decide) rfl (fun ls hl => ?_)
    obtain ⟨bi, d, a, bb, f, fk, ok, hmw⟩ := id hm
    refine lv_aload_n hx hb d_W_law_399 rfl (lv_at hl 4 rfl) ?_
    refine call_M_thrown S WT_in m_796 ⟨(Nat.le_of_ble_eq_true rfl), (Nat.le_of_ble_eq_true rfl)⟩ hl.1 (Nat.le_of_ble_eq_true rfl) d_W_law_400 ⟨by show _ ≤ 1037; omega, by show _ ≤ 8944; omega⟩ hK hmw ?_
    refine lv_iload hx hb d_W_law_403 (lv_at hl 1 rfl) ?_
    refine lv_icmp_eq (tgt := 410) hx hb d_W_law_405 (by decide) (fun _ => ?_) (fun h => absurd rfl h)
    refine lv_iload hx hb d_W_law_410 (lv_at hl 1 rfl) ?_
    refine lv_if_ne (tgt := 427) hx hb d_W_law_412 (by decide) (fun h => absurd rfl h) (fun _ => ?_)
    obtain ⟨g, hg0, hPo⟩ := id ho
    refine lv_aload_n hx hb d_W_law_415 rfl (lv_at hl 3 rfl) ?_
    refine lv_iconst (v := 0) hx hb d_W_law_416 (by decide) ?_
    refine va_lald (D := (dC, dI)) hx hb hK5 hPo 0 2 rfl rfl (i := 0) (by unfold vp_in; decide) d_W_law_417 ?_
    refine lv_iload hx hb d_W_law_418 (lv_at hl 0 rfl) ?_
    refine lv_i2l (v := (goB str 128 N j (-1)).toInt64) hx hb d_W_law_420 rfl ?_
    refine W.lcmp hx hb d_W_law_421 ?_
    have eg : g (Int32.toNatClampNeg 0) = (goB str 128 N j (-1)).toInt64 := by rw [show Int32.toNatClampNeg 0 = 0 by decide, hg0]
    refine lv_if_eq (tgt := 427) hx hb d_W_law_422 (by decide) (fun _ => ?_) (fun h => absurd (by rw [eg]; exact lg_self _) h)
    refine lv_goto (tgt := 486) hx hb d_W_law_427 (by decide) ?_
    refine W.widen (k := cells + 1) (n := slots + 6) (by omega) (by omega) ?_
    exact kk _ _ ls ⟨str, tb, ti, tp, v, _, _, hw, hm, ho, hv40, hti⟩ hS (lv_sub hl [2, 3, 4, 5, 6] rfl)

set_option maxRecDepth 100000 in
set_option maxHeartbeats 4000000 in
theorem law_7 {p : Program} {l : Launch} {e : Env} {s : State} {m : MethodId} {below : List Frame} {meth : Method} {c : Code} {b L : Nat} {xs : Nat → Int32} {adE adK adV : Nat → Nat} {dC : Nat → ClassId} {dI : Nat → Nat → Nat} {cI cC cL : ClassId} {r0 r1 r2 r3 o0 m0 mt ms mr mk : Nat} {Q : State → Prop} {cells slots i : Nat} {H : Heap} {locs : List Loc} {ls : Array Slot} (C : lc p l s m c b L xs adE adK adV dC dI cI cC cL r0 r1 r2 r3 o0 m0 mt ms mr mk) (hi : i + 3 ≤ L) (hce : cells + 1 ≤ 1037) (hsl : slots + 6 ≤ 8944) (hI : iv dC dI cI cC cL r0 r1 r2 r3 o0 m0 mt ms mr mk H) (hS : va_S (aS s) s.heap H locs) (hl : lv_has ls 7 [(4, .int (nI i)), (3, .ref o0), (2, .ref m0), (1, .ref r0), (0, .ref b)]) (kk : ∀ (H : Heap) (locs : List Loc) (ls : Array Slot), iv dC dI cI cC cL r0 r1 r2 r3 o0 m0 mt ms mr mk H → va_S (aS s) s.heap H locs → lv_has ls 7 [(4, .int (nI i)), (3, .ref o0), (2, .ref m0), (1, .ref r0), (0, .ref b)] → W p l e room_1 s m #[Value.ref b] below meth c H locs (cells + 1) (slots + 6) Q (F0 m 486 ls [])) : W p l e room_1 s m #[Value.ref b] below meth c H locs cells slots Q (F0 m 430 ls []) := by
  obtain ⟨S, hfl, hK5, hC, hX, apl, hAH, hAM, hXs, hbl, hL⟩ := C
  have hx := S.1
  have hb := S.2.1
  have hown := S.2.2.2.1
  have hT : ∀ w ∈ WT, w.before _ s = true := fun w h => S.2.2.2.2 w (WT_in w h)
  have hbA : ¬ aS s b := Nat.not_le.mpr hbl
  have hK := hK5.r
  have ap5 := apl.h
  have apr := ap5.r.1
  have apm := apl.m
  have hA : ∀ q, aR r0 r1 r2 r3 q → aS s q := fun q h => hAH q (aR_H q h)
  have hin1 : vp_in (nI i + 1) L := by rw [nI_1]; exact vp_in_nI (by omega) (by omega)
  have hin2 : vp_in (nI i + 2) L := by rw [show nI i + 2 = nI (i + 2) from nI_add i 2]; exact vp_in_nI (by omega) (by omega)
  obtain ⟨x1, e1⟩ : ∃ x, x = xs (nI i + 1).toNatClampNeg := ⟨_, rfl⟩
  obtain ⟨x2, e2⟩ : ∃ x, x = xs (nI i + 2).toNatClampNeg := ⟨_, rfl⟩
  obtain ⟨str, tb, ti, tp, v, ov, th, hw, hm, ho, hv40, hti⟩ := hI
  have hmin : min v.length 40 = v.length := Nat.min_eq_left hv40
  by_cases hg : f_R_isAddress x1 = 0
  · refine lv_aload_n hx hb d_W_law_430 rfl (lv_at hl 3 rfl) ?_
    refine lv_aload_n hx hb d_W_law_431 rfl (lv_at hl 4 rfl) ?_
    refine lv_iload hx hb d_W_law_432 (lv_at hl 0 rfl) ?_
    refine lv_iconst (v := 1) hx hb d_W_law_434 (by decide) ?_
    refine lv_iadd hx hb d_W_law_435 ?_
    refine va_sld hx hb hXs hbl hbA hS hin1 d_W_law_436 ?_
    rw [← e1]
    refine lv_aload_n hx hb d_W_law_437 rfl (lv_at hl 1 rfl) ?_
    refine call_W_numbersX S WT_in m_737 hfl ⟨(Nat.le_of_ble_eq_true rfl), (Nat.le_of_ble_eq_true rfl)⟩ hl.1 (Nat.le_of_ble_eq_true rfl) d_W_law_438 ⟨by show _ ≤ 1037; omega, by show _ ≤ 8944; omega⟩ hK5 ap5 hC hX hS hAH hw ho hg (fun H locs hw ho hS hfr => ?_)
    have hm := hm.kept (fun q hq hq2 => hfr.2 q hq (fun z => apl.hm z hq2))
    refine lv_istore (lv' := [(5, .int 1), (4, .int (nI i)), (3, .ref o0), (2, .ref m0), (1, .ref r0), (0, .ref b)]) hx hb d_W_law_441 hl (by decide) rfl (fun ls hl => ?_)
    refine lv_aload_n hx hb d_W_law_443 rfl (lv_at hl 3 rfl) ?_
    refine lv_aload_n hx hb d_W_law_444 rfl (lv_at hl 5 rfl) ?_
    refine lv_iload hx hb d_W_law_445 (lv_at hl 1 rfl) ?_
    refine lv_iconst (v := 1) hx hb d_W_law_447 (by decide) ?_
    refine lv_iadd hx hb d_W_law_448 ?_
    refine va_sld hx hb hXs hbl hbA hS hin1 d_W_law_449 ?_
    rw [← e1]
    obtain ⟨bi, d, a, bb, f, fk, ok, hmw⟩ := hm
    refine call_M_numbersX S WT_in m_1064 ⟨(Nat.le_of_ble_eq_true rfl), (Nat.le_of_ble_eq_true rfl)⟩ hl.1 (Nat.le_of_ble_eq_true rfl) d_W_law_450 ⟨by show _ ≤ 1037; omega, by show _ ≤ 8944; omega⟩ hK apm ok hS hAM hmw (fun z => (rf_eq x1).mp z hg) (fun H locs hm hS hfr => ?_)
    have hw := hw.kept (fun q hq hq2 => hfr.2 q hq (fun z => apl.hm (aR_H q hq2) z))
    have ho := ho.kept (hfr.2 o0 ho.lt (fun z => apl.hm (by simp [aH]) z))
    refine lv_istore (lv' := [(6, .int ((0 : Int32))), (5, .int 1), (4, .int (nI i)), (3, .ref o0), (2, .ref m0), (1, .ref r0), (0, .ref b)]) hx hb d_W_law_453 hl (by decide) rfl (fun ls hl => ?_)
    rw [rf_1 hg] at hm
    obtain ⟨bi, d, a, bb, f, fk, ok, hmw⟩ := id hm
    refine lv_aload_n hx hb d_W_law_455 rfl (lv_at hl 4 rfl) ?_
    refine call_M_thrown S WT_in m_796 ⟨(Nat.le_of_ble_eq_true rfl), (Nat.le_of_ble_eq_true rfl)⟩ hl.1 (Nat.le_of_ble_eq_true rfl) d_W_law_456 ⟨by show _ ≤ 1037; omega, by show _ ≤ 8944; omega⟩ hK hmw ?_
    refine lv_iload hx hb d_W_law_459 (lv_at hl 1 rfl) ?_
    refine lv_icmp_eq (tgt := 466) hx hb d_W_law_461 (by decide) (fun _ => ?_) (fun h => absurd rfl h)
    refine lv_iload hx hb d_W_law_466 (lv_at hl 1 rfl) ?_
    refine lv_if_ne (tgt := 483) hx hb d_W_law_468 (by decide) (fun _ => ?_) (fun h => absurd h (by decide))
    refine lv_goto (tgt := 486) hx hb d_W_law_483 (by decide) ?_
    refine W.widen (k := cells + 1) (n := slots + 6) (by omega) (by omega) ?_
    exact kk _ _ ls ⟨str, tb, ti, tp, v, _, _, hw, hm, ho, hv40, hti⟩ hS (lv_sub hl [2, 3, 4, 5, 6] rfl)
  obtain ⟨j, hj, rfl⟩ := adr_of hg
  · refine lv_aload_n hx hb d_W_law_430 rfl (lv_at hl 3 rfl) ?_
    refine lv_aload_n hx hb d_W_law_431 rfl (lv_at hl 4 rfl) ?_
    refine lv_iload hx hb d_W_law_432 (lv_at hl 0 rfl) ?_
    refine lv_iconst (v := 1) hx hb d_W_law_434 (by decide) ?_
    refine lv_iadd hx hb d_W_law_435 ?_
    refine va_sld hx hb hXs hbl hbA hS hin1 d_W_law_436 ?_
    rw [← e1]
    refine lv_aload_n hx hb d_W_law_437 rfl (lv_at hl 1 rfl) ?_
    refine call_W_numbers S WT_in m_737 ⟨(Nat.le_of_ble_eq_true rfl), (Nat.le_of_ble_eq_true rfl)⟩ hl.1 (Nat.le_of_ble_eq_true rfl) d_W_law_438 ⟨by show _ ≤ 1037; omega, by show _ ≤ 8944; omega⟩ hK5 ap5 hC hX hS hAH hw ho hj (fun H locs hw ho hS hfr => ?_)
    have hm := hm.kept (fun q hq hq2 => hfr.2 q hq (fun z => apl.hm z hq2))
    refine lv_istore (lv' := [(5, .int 0), (4, .int (nI i)), (3, .ref o0), (2, .ref m0), (1, .ref r0), (0, .ref b)]) hx hb d_W_law_441 hl (by decide) rfl (fun ls hl => ?_)
    refine lv_aload_n hx hb d_W_law_443 rfl (lv_at hl 3 rfl) ?_
    refine lv_aload_n hx hb d_W_law_444 rfl (lv_at hl 5 rfl) ?_
    refine lv_iload hx hb d_W_law_445 (lv_at hl 1 rfl) ?_
    refine lv_iconst (v := 1) hx hb d_W_law_447 (by decide) ?_
    refine lv_iadd hx hb d_W_law_448 ?_
    refine va_sld hx hb hXs hbl hbA hS hin1 d_W_law_449 ?_
    rw [← e1]
    obtain ⟨bi, d, a, bb, f, fk, ok, hmw⟩ := hm
    refine call_M_numbers S WT_in m_1064 ⟨(Nat.le_of_ble_eq_true rfl), (Nat.le_of_ble_eq_true rfl)⟩ hl.1 (Nat.le_of_ble_eq_true rfl) d_W_law_450 ⟨by show _ ≤ 1037; omega, by show _ ≤ 8944; omega⟩ hK apm ok hS hAM hmw hj (bool_01 hti) (fun H locs hm hS hfr => ?_)
    have hw := hw.kept (fun q hq hq2 => hfr.2 q hq (fun z => apl.hm (aR_H q hq2) z))
    have ho := ho.kept (hfr.2 o0 ho.lt (fun z => apl.hm (by simp [aH]) z))
    refine lv_istore (lv' := [(6, .int (nI (goM str 128 j 0))), (5, .int 0), (4, .int (nI i)), (3, .ref o0), (2, .ref m0), (1, .ref r0), (0, .ref b)]) hx hb d_W_law_453 hl (by decide) rfl (fun ls hl => ?_)
    obtain ⟨bi, d, a, bb, f, fk, ok, hmw⟩ := id hm
    refine lv_aload_n hx hb d_W_law_455 rfl (lv_at hl 4 rfl) ?_
    refine call_M_thrown S WT_in m_796 ⟨(Nat.le_of_ble_eq_true rfl), (Nat.le_of_ble_eq_true rfl)⟩ hl.1 (Nat.le_of_ble_eq_true rfl) d_W_law_456 ⟨by show _ ≤ 1037; omega, by show _ ≤ 8944; omega⟩ hK hmw ?_
    refine lv_iload hx hb d_W_law_459 (lv_at hl 1 rfl) ?_
    refine lv_icmp_eq (tgt := 466) hx hb d_W_law_461 (by decide) (fun _ => ?_) (fun h => absurd rfl h)
    refine lv_iload hx hb d_W_law_466 (lv_at hl 1 rfl) ?_
    refine lv_if_ne (tgt := 483) hx hb d_W_law_468 (by decide) (fun h => absurd rfl h) (fun _ => ?_)
    obtain ⟨g, hg0, hPo⟩ := id ho
    refine lv_aload_n hx hb d_W_law_471 rfl (lv_at hl 3 rfl) ?_
    refine lv_iconst (v := 0) hx hb d_W_law_472 (by decide) ?_
    refine va_lald (D := (dC, dI)) hx hb hK5 hPo 0 2 rfl rfl (i := 0) (by unfold vp_in; decide) d_W_law_473 ?_
    refine lv_iload hx hb d_W_law_474 (lv_at hl 0 rfl) ?_
    refine lv_i2l (v := (nI (goM str 128 j 0)).toInt64) hx hb d_W_law_476 rfl ?_
    refine W.lcmp hx hb d_W_law_477 ?_
    have eg : g (Int32.toNatClampNeg 0) = (nI (goM str 128 j 0)).toInt64 := by rw [show Int32.toNatClampNeg 0 = 0 by decide, hg0, go_eq]
    refine lv_if_eq (tgt := 483) hx hb d_W_law_478 (by decide) (fun _ => ?_) (fun h => absurd (by rw [eg]; exact lg_self _) h)
    refine lv_goto (tgt := 486) hx hb d_W_law_483 (by decide) ?_
    refine W.widen (k := cells + 1) (n := slots + 6) (by omega) (by omega) ?_
    exact kk _ _ ls ⟨str, tb, ti, tp, v, _, _, hw, hm, ho, hv40, hti⟩ hS (lv_sub hl [2, 3, 4, 5, 6] rfl)
