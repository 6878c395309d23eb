theorem tx_m0 : txm (fun _ => 0) ([] : List Int32) := ⟨by decide, fun j h => absurd h (Nat.not_lt_zero j), fun x h => by cases h⟩
theorem mok0 : mOk 0 0 0 := by unfold mOk vp_in; decide
set_option maxRecDepth 100000 in
set_option maxHeartbeats 4000000 in
theorem whole_start {p : Program} {e : Env} {s : State} {m : MethodId} {below : List Frame} {meth : Method} {c : Code} (l : Launch) (hfl : l.flags = pinnedFlags ++ [noTraceFlag]) {b L : Nat} {xs : Nat → Int32} (hL : L ≤ 1536) (C0 : lw_At p s m meth c b L xs) : W p l e room_1 s m #[Value.ref b] below meth c s.heap [] 0 0 (lw_Z below #[Value.ref b] s) (entryFrame m ([Value.ref b] : List Value).toArray 7) := by
  obtain ⟨hx, hb, hr, hml, hown, hts, hXs, hbl, hlocks, hgv⟩ := id C0
  have hT : ∀ w ∈ WT, w.before _ s = true := fun w h => hts w (WT_in w h)
  have hs := flat_of_before _ hgv
  have hA0 : ∀ a : Nat, a < s.heap.size → ¬ (aS s) a := fun a h => Nat.not_le.mpr h
  obtain ⟨adE, adK, adV, hC⟩ := cx_start (A := (aS s)) hts hs hA0
  have hX := xS_start (A := (aS s)) hts hs hA0
  have S : CallFix p m c code 7 s #[Value.ref b] lw_tbl R_W := ⟨hx, hb, hml, hown, hts⟩
  have hA : ∀ q : Nat, s.heap.size ≤ q → (aS s) q := fun _ h => h
  obtain ⟨c0, iS0, hKn0⟩ := u_known (C := R_T) (T := F_T) (N := 2) (n := 2) hT i_T (hT _ m_77)
  obtain ⟨c1, iS1, hKn1⟩ := u_known (C := R_R) (T := F_R) (N := 5) (n := 5) hT i_R (hT _ m_69)
  obtain ⟨c2, iS2, hKn2⟩ := u_known (C := R_M) (T := F_M) (N := 14) (n := 14) hT i_M (hT _ m_745)
  obtain ⟨dC, dI, hKc⟩ : ∃ (dC : Nat → ClassId) (dI : Nat → Nat → Nat), ∀ (k : Nat) (q : vw_C), classes[k]? = some q → u_Kn s q.1 q.2.1 q.2.2 (dC k) (dI k) := by
    refine ⟨fun k => if k = 0 then c0 else if k = 1 then c1 else c2, fun k => if k = 0 then iS0 else if k = 1 then iS1 else iS2, ?_⟩
    intro k q hq
    match k, hq with
    | 0, hq => cases hq; exact hKn0
    | 1, hq => cases hq; exact hKn1
    | 2, hq => cases hq; exact hKn2
    | k + 3, hq => simp [classes] at hq
  have hS : va_S (aS s) s.heap s.heap [] := va_S.rf
  have hK : va_K (dC, dI) classes [] s := ⟨hKc, fun k q h => by simp at h⟩
  have hP : va_P (dC, dI) classes [] s.heap := fun k q h => by simp at h
  have hD : va_D (aS s) [] := ⟨fun i j p q h => by simp at h, fun k q h => by simp at h⟩
  have hl := lv_entry ([.ref b]) (n := 7) (Nat.le_of_ble_eq_true rfl)
  rw [lg_entry_eq]
  generalize (lg_sl ([.ref b]) ++ List.replicate (7 - (lg_sl ([.ref b])).length) Slot.unset).toArray = ls at hl ⊢
  have hl : lv_has ls 7 [(0, .ref b)] := hl
  refine va_new (D := (dC, dI)) (ci := 1) (fs := [.null, .null, .int 0, .int 0, .int 0]) (C := R_R) (T := F_R) (N := 5) hx hb hT i_R ft_R ft_R_ok hown (hT _ m_68) (hT _ m_69) (hT _ m_50) hK hP hD hS hA rfl (by decide) (Nat.le_of_ble_eq_true rfl) (Nat.le_of_ble_eq_true rfl) d_W_law_0 (fun r0 H hP hD hS => ?_)
  have hP : va_P (dC, dI) classes [(r0, .inr (1, [.null, .null, .int 0, .int 0, .int 0]))] H := hP
  have hD : va_D (aS s) [(r0, .inr (1, [.null, .null, .int 0, .int 0, .int 0]))] := hD
  refine W.widen (k := 1) (n := 5) (by omega) (by omega) ?_
  refine lv_dup hx hb d_W_law_3 rfl ?_
  have hPc := hP.sub (ws' := [(r0, .inr (1, [.null, .null, .int 0, .int 0, .int 0]))]) [0] rfl
  have hFc := va_free (wc := [(r0, .inr (1, [.null, .null, .int 0, .int 0, .int 0]))]) hD hS hA [0] rfl
  refine va_callv (va_runI (As := []) (rest := [.ref r0]) S (c_R_init l dC dI r0 H.size) (cwI 0 hts (gW WT_in m_72) rfl rfl rfl (hT _ m_50) (hT _ m_70) (hT _ m_71) rfl (by decide +kernel) ⟨(Nat.le_of_ble_eq_true rfl), (Nat.le_of_ble_eq_true rfl)⟩) ⟨fun a U g mk q => by obtain ⟨q0, q1, qP, qK⟩ := q; exact ⟨q0, q1, qP, va_K.moved (u := U) (U := U.calling g mk a) (Vm.Alike.refl U.vm) qK⟩, fun U hU hW => ⟨rfl, by rw [hU], by rw [hU]; exact hPc, va_K.moved hW.alike (hK.sub [] rfl)⟩⟩ rfl rfl hl.1 rfl (lv_room (Nat.le_of_ble_eq_true rfl)) d_W_law_4 ⟨(Nat.le_of_ble_eq_true rfl), (Nat.le_of_ble_eq_true rfl)⟩) hS (fun q _ h => hFc q h) hFc (fun u t H1 locs ht hvm hw hB hz1 hk1 hS => ?_)
  obtain ⟨r1, r2, r3, cI, cC, hP1, hK1, hD1⟩ := hB
  rw [ht] at hP1
  have hK : rK dC dI cI cC s := va_K.moved hvm.symm hK1
  obtain ⟨hP, hD⟩ := va_join (wr := []) (w1 := wR r0 r1 r2 r3 cI cC (fun _ => 0) 0 0 0 (fun _ => 0) 0) hP hD [0] [] rfl rfl (by decide) (by decide) hk1 hFc hP1 hD1
  generalize H1 = H at hP hS ⊢
  have hP : va_P (dC, dI) classes (wR r0 r1 r2 r3 cI cC (fun _ => 0) 0 0 0 (fun _ => 0) 0) H := hP
  have hD : va_D (aS s) (wR r0 r1 r2 r3 cI cC (fun _ => 0) 0 0 0 (fun _ => 0) 0) := hD
  refine W.widen (k := 4) (n := 303) (by omega) (by omega) ?_
  refine lv_astore_n (lv' := [(1, .ref r0), (0, .ref b)]) hx hb d_W_law_7 rfl hl (by decide) rfl (fun ls hl => ?_)
  refine va_new (D := (dC, dI)) (ci := 2) (fs := [.int 0, .null, .int 0, .int 0, .int 0, .int 0, .null, .int 0, .int 0, .int 0, .int 0, .int 0, .null, .null]) (C := R_M) (T := F_M) (N := 14) hx hb hT i_M ft_M ft_M_ok hown (hT _ m_744) (hT _ m_745) (hT _ m_52) hK hP hD hS hA rfl (by decide) (Nat.le_of_ble_eq_true rfl) (Nat.le_of_ble_eq_true rfl) d_W_law_8 (fun m0 H hP hD hS => ?_)
  have hP : va_P (dC, dI) classes (wR r0 r1 r2 r3 cI cC (fun _ => 0) 0 0 0 (fun _ => 0) 0 ++ [(m0, .inr (2, [.int 0, .null, .int 0, .int 0, .int 0, .int 0, .null, .int 0, .int 0, .int 0, .int 0, .int 0, .null, .null]))]) H := hP
  have hD : va_D (aS s) (wR r0 r1 r2 r3 cI cC (fun _ => 0) 0 0 0 (fun _ => 0) 0 ++ [(m0, .inr (2, [.int 0, .null, .int 0, .int 0, .int 0, .int 0, .null, .int 0, .int 0, .int 0, .int 0, .int 0, .null, .null]))]) := hD
  refine W.widen (k := 5) (n := 317) (by omega) (by omega) ?_
  refine lv_dup hx hb d_W_law_11 rfl ?_
  have hPc := hP.sub (ws' := [(m0, .inr (2, [.int 0, .null, .int 0, .int 0, .int 0, .int 0, .null, .int 0, .int 0, .int 0, .int 0, .int 0, .null, .null]))]) [4] rfl
  have hFc := va_free (wc := [(m0, .inr (2, [.int 0, .null, .int 0, .int 0, .int 0, .int 0, .null, .int 0, .int 0, .int 0, .int 0, .int 0, .null, .null]))]) hD hS hA [4] rfl
  refine va_callv (va_runI (As := []) (rest := [.ref m0]) S (c_M_init l dC dI m0 H.size) (cwI 0 hts (gW WT_in m_748) rfl rfl rfl (hT _ m_52) (hT _ m_746) (hT _ m_747) rfl (by decide +kernel) ⟨(Nat.le_of_ble_eq_true rfl), (Nat.le_of_ble_eq_true rfl)⟩) ⟨fun a U g mk q => by obtain ⟨q0, q1, qP, qK⟩ := q; exact ⟨q0, q1, qP, va_K.moved (u := U) (U := U.calling g mk a) (Vm.Alike.refl U.vm) qK⟩, fun U hU hW => ⟨rfl, by rw [hU], by rw [hU]; exact hPc, va_K.moved hW.alike (hK.sub [] rfl)⟩⟩ rfl rfl hl.1 rfl (lv_room (Nat.le_of_ble_eq_true rfl)) d_W_law_12 ⟨(Nat.le_of_ble_eq_true rfl), (Nat.le_of_ble_eq_true rfl)⟩) hS (fun q _ h => hFc q h) hFc (fun u t H1 locs ht hvm hw hB hz1 hk1 hS => ?_)
  obtain ⟨mt, ms, mr, mk, cI2, cC2, hP1, hK1, hD1⟩ := hB
  rw [ht] at hP1
  have hK2 : rK dC dI cI2 cC2 s := va_K.moved hvm.symm hK1
  have hK4 := hK.app hK2
  obtain rfl := hK4.uni 0 2 (Or.inl rfl) rfl rfl
  obtain rfl := hK4.uni 1 3 (Or.inr (Or.inl rfl)) rfl rfl
  obtain ⟨hP, hD⟩ := va_join (wr := wR r0 r1 r2 r3 cI cC (fun _ => 0) 0 0 0 (fun _ => 0) 0) (w1 := wM m0 mt ms mr mk cI cC 0 0 0 0 0 0 0 0 0 0 (fun _ => 0) (rgk 32) (fun _ => 0) (fun _ => 0)) hP hD [4] [0, 1, 2, 3] rfl rfl (by decide) (by decide) hk1 hFc hP1 hD1
  generalize H1 = H at hP hS ⊢
  refine W.widen (k := 9) (n := 733) (by omega) (by omega) ?_
  refine lv_astore_n (lv' := [(2, .ref m0), (1, .ref r0), (0, .ref b)]) hx hb d_W_law_15 rfl hl (by decide) rfl (fun ls hl => ?_)
  refine lv_iconst (v := 1) hx hb d_W_law_16 (by decide) ?_
  refine va_newa (D := (dC, dI)) (ty := .long) (atype := .long) (N' := 1) (a0 := (1, .inr (.inl (fun _ => 0)))) hx hb (hT _ m_1068) rfl hK hP hD hS hA (fun _ => rfl) (by decide) (by decide) (by decide) (Nat.le_of_ble_eq_true rfl) (Nat.le_of_ble_eq_true rfl) d_W_law_17 (fun o0 cL H hK hP hD hS => ?_)
  have hK5 : hK5 dC dI cI cC cL s := hK
  have hnd := hD.nodup
  have hP : va_P (dC, dI) classes ((wR r0 r1 r2 r3 cI cC (fun _ => 0) 0 0 0 (fun _ => 0) 0 ++ wM m0 mt ms mr mk cI cC 0 0 0 0 0 0 0 0 0 0 (fun _ => 0) (rgk 32) (fun _ => 0) (fun _ => 0)) ++ [(o0, .inl (cL, 1, .inr (.inl (fun _ => 0))))]) H := hP
  have hw : rwd dC dI cI cC r0 r1 r2 r3 (fun _ => 0) 0 0 0 [] H := ⟨_, _, tx_nil, hP.sub [0, 1, 2, 3] rfl⟩
  have hm : mtp dC dI cI cC m0 mt ms mr mk 0 0 (fun _ => 0) (0, 0, []) H := ⟨0, 0, 0, 0, 0, _, mok0, rgk 32, _, fun j hj => by rw [rgk, if_pos hj], tx_m0, hP.sub [4, 5, 6, 7, 8] rfl⟩
  have ho : ow dC dI cL o0 0 H := ⟨_, rfl, hP.sub [9] rfl⟩
  have hI : iv dC dI cI cC cL r0 r1 r2 r3 o0 m0 mt ms mr mk H := ⟨_, 0, 0, 0, [], 0, 0, hw, hm, ho, by decide, Or.inl rfl⟩
  have hall : ∀ q ∈ [r0, r1, r2, r3, m0, mt, ms, mr, mk, o0], (aS s) q := by
    intro q hq
    obtain ⟨j, hj⟩ := List.mem_iff_getElem?.mp hq
    have hj2 : (((wR r0 r1 r2 r3 cI cC (fun _ => 0) 0 0 0 (fun _ => 0) 0 ++ wM m0 mt ms mr mk cI cC 0 0 0 0 0 0 0 0 0 0 (fun _ => 0) (rgk 32) (fun _ => 0) (fun _ => 0)) ++ [(o0, .inl (cL, 1, .inr (.inl (fun _ => 0))))] : va_W).map (fun q => q.1))[j]? = some q := hj
    rw [List.getElem?_map] at hj2
    obtain ⟨x, hx1, hx2⟩ := Option.map_eq_some_iff.mp hj2
    subst hx2
    exact hD.2 j x hx1
  have apl : apL r0 r1 r2 r3 o0 m0 mt ms mr mk := by
    have h10 : [r0, r1, r2, r3, m0, mt, ms, mr, mk, o0].Nodup := hnd
    have hp : [r0, r1, r2, r3, m0, mt, ms, mr, mk, o0].Perm [r0, r1, r2, r3, o0, m0, mt, ms, mr, mk] := by
      refine List.Perm.cons _ (List.Perm.cons _ (List.Perm.cons _ (List.Perm.cons _ ?_)))
      exact List.perm_append_comm (l₁ := [m0, mt, ms, mr, mk]) (l₂ := [o0])
    exact hp.nodup_iff.mp h10
  have hC' : lc p l s m c b L xs adE adK adV dC dI cI cC cL r0 r1 r2 r3 o0 m0 mt ms mr mk := ⟨S, hfl, hK5, hC, hX, apl, fun q h => hall q (by simp only [aH, List.mem_cons, List.not_mem_nil, or_false] at h ⊢; rcases h with h | h | h | h | h <;> simp [h]), fun q h => hall q (by simp only [aM, List.mem_cons, List.not_mem_nil, or_false] at h ⊢; rcases h with h | h | h | h | h <;> simp [h]), hXs, hbl, hL⟩
  refine lv_astore_n (lv' := [(3, .ref o0), (2, .ref m0), (1, .ref r0), (0, .ref b)]) hx hb d_W_law_19 rfl hl (by decide) rfl (fun ls hl => ?_)
  refine lv_iconst (v := 0) hx hb d_W_law_20 (by decide) ?_
  refine lv_istore (lv' := [(4, .int (0)), (3, .ref o0), (2, .ref m0), (1, .ref r0), (0, .ref b)]) hx hb d_W_law_21 hl (by decide) rfl (fun ls hl => ?_)
  exact law_loop hC' hr hlocks L 0 H locs ls (by omega) (by omega) hI hS hl
