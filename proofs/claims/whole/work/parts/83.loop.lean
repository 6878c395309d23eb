theorem head_iff {L k : Nat} (hL : L ≤ 1536) (hk : 3 * k ≤ 4000) : (Int32.ofNat L - 3 < nI (3 * k)) ↔ L < 3 * k + 3 := by
  rw [Int32.lt_iff_toInt_lt, show (Int32.ofNat L - 3).toInt = (L : Int) - (3 : Nat) from pk_sub_toInt (a := L) (b := 3) (by omega) (by omega), nI_toInt (by omega)]
  omega
set_option maxRecDepth 100000 in
set_option maxHeartbeats 4000000 in
theorem law_loop {p : Program} {l : Launch} {e : Env} {s : State} {m : MethodId} {below : List Frame} {meth : Method} {c : Code} {b L : Nat} {xs : Nat → Int32} {adE adK adV : Nat → Nat} {dC : Nat → ClassId} {dI : Nat → Nat → Nat} {cI cC cL : ClassId} {r0 r1 r2 r3 o0 m0 mt ms mr mk : Nat}  (C : lc p l s m c b L xs adE adK adV dC dI cI cC cL r0 r1 r2 r3 o0 m0 mt ms mr mk) (hr : meth.sig.returnType = ret) (hlocks : meth.locks = false) : ∀ (n k : Nat) (H : Heap) (locs : List Loc) (ls : Array Slot), L < 3 * k + 3 * n + 3 → 3 * k ≤ L + 3 → iv dC dI cI cC cL r0 r1 r2 r3 o0 m0 mt ms mr mk H → va_S (aS s) s.heap H locs → lv_has ls 7 [(4, .int (nI (3 * k))), (3, .ref o0), (2, .ref m0), (1, .ref r0), (0, .ref b)] → W p l e room_1 s m #[Value.ref b] below meth c H locs (10 + k) (734 + 6 * k) (lw_Z below #[Value.ref b] s) (F0 m 23 ls []) := by
  obtain ⟨S, hfl, hK5, hC, hX, apl, hAH, hAM, hXs, hbl, hL⟩ := id C
  have hx := S.1
  have hb := S.2.1
  have hbA : ¬ aS s b := Nat.not_le.mpr hbl
  intro n
  induction n with
  | zero =>
    intro k H locs ls h1 h2 hI hS hl
    refine lv_iload hx hb d_W_law_23 (lv_at hl 0 rfl) ?_
    refine lv_aload_n hx hb d_W_law_25 rfl (lv_at hl 4 rfl) ?_
    refine va_slen hx hb hXs hbl hbA hS d_W_law_26 ?_
    refine lv_iconst (v := 3) hx hb d_W_law_27 (by decide) ?_
    refine lv_isub hx hb d_W_law_28 ?_
    refine lv_icmp_gt (tgt := 492) hx hb d_W_law_29 (by decide) (fun _ => ?_) (fun h => absurd ((head_iff hL (by omega)).mpr (by omega)) h)
    refine lv_iconst (v := 1) hx hb d_W_law_492 (by decide) ?_
    refine va_forget (fun q hq => hS.2.2 q hq) ?_
    refine W.widen (k := 1037) (n := 8944) (by omega) (by omega) ?_
    exact lw_ret hx hb hr hlocks d_W_law_493
  | succ n ih =>
    intro k H locs ls h1 h2 hI hS hl
    refine lv_iload hx hb d_W_law_23 (lv_at hl 0 rfl) ?_
    refine lv_aload_n hx hb d_W_law_25 rfl (lv_at hl 4 rfl) ?_
    refine va_slen hx hb hXs hbl hbA hS d_W_law_26 ?_
    refine lv_iconst (v := 3) hx hb d_W_law_27 (by decide) ?_
    refine lv_isub hx hb d_W_law_28 ?_
    refine lv_icmp_gt (tgt := 492) hx hb d_W_law_29 (by decide) (fun _ => ?_) (fun h => ?_)
    · refine lv_iconst (v := 1) hx hb d_W_law_492 (by decide) ?_
      refine va_forget (fun q hq => hS.2.2 q hq) ?_
      refine W.widen (k := 1037) (n := 8944) (by omega) (by omega) ?_
      exact lw_ret hx hb hr hlocks d_W_law_493
    · have hi : 3 * k + 3 ≤ L := by
        have := _root_.mt (head_iff hL (k := k) (by omega)).mpr h
        omega
      have kk : ∀ (H : Heap) (locs : List Loc) (ls : Array Slot), iv dC dI cI cC cL r0 r1 r2 r3 o0 m0 mt ms mr mk H → va_S (aS s) s.heap H locs → lv_has ls 7 [(4, .int (nI (3 * k))), (3, .ref o0), (2, .ref m0), (1, .ref r0), (0, .ref b)] → W p l e room_1 s m #[Value.ref b] below meth c H locs (10 + k + 1) (734 + 6 * k + 6) (lw_Z below #[Value.ref b] s) (F0 m 486 ls []) := by
        intro H locs ls hI hS hl
        refine lv_iinc (v := nI (3 * (k + 1))) (lv' := [(4, .int (nI (3 * (k + 1)))), (3, .ref o0), (2, .ref m0), (1, .ref r0), (0, .ref b)]) hx hb d_W_law_486 hl (k := 0) rfl (nI_add (3 * k) 3) (by decide) rfl (fun ls hl => ?_)
        refine lv_goto (tgt := 23) hx hb d_W_law_489 (by decide) ?_
        refine W.widen (k := 10 + (k + 1)) (n := 734 + 6 * (k + 1)) (by omega) (by omega) ?_
        exact ih (k + 1) H locs ls (by omega) (by omega) hI hS hl
      refine lv_aload_n hx hb d_W_law_32 rfl (lv_at hl 4 rfl) ?_
      refine lv_iload hx hb d_W_law_33 (lv_at hl 0 rfl) ?_
      refine va_sld hx hb hXs hbl hbA hS (vp_in_nI (by omega) (by omega)) d_W_law_35 ?_
      refine lv_bipush (v := 7) hx hb d_W_law_36 (by decide) ?_
      refine lv_iand hx hb d_W_law_38 ?_
      obtain ⟨j, hj, ej⟩ := pk_andE (xs (nI (3 * k)).toNatClampNeg) (m := 7) 3 (by decide)
      rw [ej]
      match j, hj with
      | 0, _ => exact lv_tableIn (off := 45) (tgt := 84) hx hb d_W_law_39 (by decide) (by decide) (by decide) (by decide) (law_0 C hi (by omega) (by omega) hI hS hl kk)
      | 1, _ => exact lv_tableIn (off := 70) (tgt := 109) hx hb d_W_law_39 (by decide) (by decide) (by decide) (by decide) (law_1 C hi (by omega) (by omega) hI hS hl kk)
      | 2, _ => exact lv_tableIn (off := 126) (tgt := 165) hx hb d_W_law_39 (by decide) (by decide) (by decide) (by decide) (law_2 C hi (by omega) (by omega) hI hS hl kk)
      | 3, _ => exact lv_tableIn (off := 151) (tgt := 190) hx hb d_W_law_39 (by decide) (by decide) (by decide) (by decide) (law_3 C hi (by omega) (by omega) hI hS hl kk)
      | 4, _ => exact lv_tableIn (off := 199) (tgt := 238) hx hb d_W_law_39 (by decide) (by decide) (by decide) (by decide) (law_4 C hi (by omega) (by omega) hI hS hl kk)
      | 5, _ => exact lv_tableIn (off := 255) (tgt := 294) hx hb d_W_law_39 (by decide) (by decide) (by decide) (by decide) (law_5 C hi (by omega) (by omega) hI hS hl kk)
      | 6, _ => exact lv_tableIn (off := 323) (tgt := 362) hx hb d_W_law_39 (by decide) (by decide) (by decide) (by decide) (law_6 C hi (by omega) (by omega) hI hS hl kk)
      | 7, _ => exact lv_tableIn (off := 391) (tgt := 430) hx hb d_W_law_39 (by decide) (by decide) (by decide) (by decide) (law_7 C hi (by omega) (by omega) hI hS hl kk)
      | n + 8, h => exact absurd h (by omega)
