theorem va_K.uni {D : va_G} {cl : List vw_C} {tys : List (ClassId × FieldType)} {U : State} (h : va_K D cl tys U) (i j : Nat) {a b : ClassId} {ty : FieldType} (ht : ty = .int ∨ ty = .char ∨ ty = .long) (hi : tys[i]? = some (a, ty)) (hj : tys[j]? = some (b, ty)) : a = b := by
  have h1 := (h.2 i _ hi).2
  have h2 := (h.2 j _ hj).2
  rcases ht with rfl | rfl | rfl <;> exact Option.some.inj (h1.symm.trans h2)
theorem tx_nil : tx (fun _ => 0) 0 [] := ⟨rfl, fun j h => absurd h (Nat.not_lt_zero j), fun x h => by cases h⟩
theorem va_D.nodup {A : Nat → Prop} {ws : va_W} (h : va_D A ws) : (ws.map (fun q => q.1)).Nodup := by
  unfold List.Nodup
  rw [List.pairwise_iff_getElem]
  intro i j hi hj hij e
  rw [List.length_map] at hi hj
  rw [List.getElem_map, List.getElem_map] at e
  have := h.1 i j _ _ (List.getElem?_eq_getElem hi) (List.getElem?_eq_getElem hj) e
  omega

set_option maxRecDepth 100000 in
set_option maxHeartbeats 4000000 in
theorem c_T_init (l : Launch) (dC : Nat → ClassId) (dI : Nat → Nat → Nat) (h0 sz : Nat) : Met l y_T_init (Cond.code y_T_init b_T_init 1 none :: WT) ({ frames := 1, cells := 1, slots := 40, locals := 12 }) (va_Pc [.ref h0] (fun U => U.heap.size = sz ∧ va_P (dC, dI) classes [(h0, .inr (0, [.null, .int 0]))] U.heap ∧ va_K (dC, dI) classes [] U)) (va_Qv (fun _ : Unit => True) (fun _ t => ∃ q cC, va_P (dC, dI) classes (wT h0 q cC (fun _ => 0) 0) t.heap ∧ va_K (dC, dI) classes [(cC, .char)] t ∧ va_D (va_A [(h0, .inr (0, [.null, .int 0]))] sz) (wT h0 q cC (fun _ => 0) 0)) (va_A [(h0, .inr (0, [.null, .int 0]))] sz)) 1 40 (va_A [(h0, .inr (0, [.null, .int 0]))] sz) := by
  refine va_MetF (cc := b_T_init) (maxL := 1) (ret := none) (by decide +kernel) rfl ?_
  intro p e s m args below meth c s₁ B hml hv
  obtain ⟨rfl, hsz, hP, hK⟩ := hv
  have hx := B.exec
  have hb := B.bytes
  have hr := B.returns
  have hts := atoms_spec (ws := (Cond.code y_T_init b_T_init 1 none :: WT)) B.pre
  have hT : ∀ w ∈ WT, w.before _ s = true := fun w h => hts w (inC w h)
  have hown : s.vm.findClass R_T = some m.cls := findClass_of_methodNamed B.named
  have hlocks := B.notSynchronized
  have hS0 : va_S (va_A [(h0, .inr (0, [.null, .int 0]))] sz) s.heap s.heap [] := va_S.rf
  have S : CallFix p m c b_T_init 1 s _ (Cond.code y_T_init b_T_init 1 none :: WT) R_T := ⟨hx, hb, hml, hown, hts⟩
  have hl := lv_entry ([.ref h0]) (n := 1) (Nat.le_of_ble_eq_true rfl)
  rw [lg_entry_eq]
  generalize (lg_sl ([.ref h0]) ++ List.replicate (1 - (lg_sl ([.ref h0])).length) Slot.unset).toArray = ls at hl ⊢
  have hl : lv_has ls 1 [(0, .ref h0)] := hl
  have hin : meth.name = "<init>" := (name_of_methodNamed B.named B.method).1
  have hD : va_D (va_A [(h0, .inr (0, [.null, .int 0]))] sz) [(h0, .inr (0, [.null, .int 0]))] := ⟨fun i j p q hi hj _ => by
    have h1 := (List.getElem?_eq_some_iff.mp hi).1
    have h2 := (List.getElem?_eq_some_iff.mp hj).1
    simp only [List.length_cons, List.length_nil] at h1 h2
    omega, fun k q hk => Or.inl ⟨k, q.2, hk⟩⟩
  have hA : ∀ q : Nat, s.heap.size ≤ q → (va_A [(h0, .inr (0, [.null, .int 0]))] sz) q := fun q h => Or.inr (by omega)
  have hS := hS0
  clear hS0
  generalize hAe : (va_A [(h0, .inr (0, [.null, .int 0]))] sz) = A at hD hA hS ⊢
  refine lv_aload_n hx hb d_T_init_0 rfl (lv_at hl 0 rfl) ?_
  refine W.objInit hx hb hown (hT _ m_81) (hT _ m_74) (hT _ m_75) rfl (by rw [hml]; exact hl.1) rfl d_T_init_1 (Nat.le_of_ble_eq_true rfl) (Nat.le_of_ble_eq_true rfl) ?_
  refine W.eq (g2 := F0 m 4 ls []) rfl ?_
  refine lv_aload_n hx hb d_T_init_4 rfl (lv_at hl 0 rfl) ?_
  refine lv_bipush (v := 40) hx hb d_T_init_5 (by decide) ?_
  refine va_newa (D := (dC, dI)) (ty := .char) (atype := .char) (N' := 40) (a0 := (40, .inl (fun _ => 0))) hx hb (hT _ m_90) rfl hK hP hD hS hA (fun _ => rfl) (by decide) (by decide) (by decide) (Nat.le_of_ble_eq_true rfl) (Nat.le_of_ble_eq_true rfl) d_T_init_7 (fun q cC H hK hP hD hS => ?_)
  have hP : va_P (dC, dI) classes [(h0, .inr (0, [.null, .int 0])), (q, .inl (cC, 40, .inl (fun _ => 0)))] H := hP
  have hD : va_D A [(h0, .inr (0, [.null, .int 0])), (q, .inl (cC, 40, .inl (fun _ => 0)))] := hD
  refine va_putF (D := (dC, dI)) (ci := 0) (v := .ref q) (ty := .array .char) (C := R_T) (T := F_T) (N := 2) hx hb hT i_T ft_T ft_T_ok n_T hown hK hP hD hS 0 rfl rfl 0 (by decide) (hT _ m_82) (fun _ h9 => h9) rfl hin rfl (by decide +kernel) rfl rfl (Nat.le_of_ble_eq_true rfl) d_T_init_9 (fun H locs hP hD hS => ?_)
  have hP : va_P (dC, dI) classes (wT h0 q cC (fun _ => 0) 0) H := hP
  have hD : va_D A (wT h0 q cC (fun _ => 0) 0) := hD
  refine lv_aload_n hx hb d_T_init_12 rfl (lv_at hl 0 rfl) ?_
  refine lv_iconst (v := 0) hx hb d_T_init_13 (by decide) ?_
  refine va_put (D := (dC, dI)) (ci := 0) (v := .int 0) (ty := .int) (C := R_T) (T := F_T) (N := 2) hx hb hT i_T ft_T ft_T_ok n_T hown hK hP hD hS 0 rfl rfl 1 (by decide) (hT _ m_83) (fun _ h9 => h9) rfl (by decide +kernel) rfl rfl (Nat.le_of_ble_eq_true rfl) d_T_init_14 (fun H locs hP hD hS => ?_)
  have hP : va_P (dC, dI) classes (wT h0 q cC (fun _ => 0) 0) H := hP
  have hD : va_D A (wT h0 q cC (fun _ => 0) 0) := hD
  exact W.vret hx hb hr (fun t ht hW => ⟨⟨(), rfl, trivial, q, cC, by rw [ht]; exact hP, va_K.moved hW.alike hK, hD⟩, hS.F ht⟩) hS.2.2 d_T_init_17

set_option maxRecDepth 100000 in
set_option maxHeartbeats 4000000 in
theorem c_R_init (l : Launch) (dC : Nat → ClassId) (dI : Nat → Nat → Nat) (h0 sz : Nat) : Met l y_R_init (Cond.code y_R_init b_R_init 1 none :: WT) ({ frames := 2, cells := 3, slots := 298, locals := 32 }) (va_Pc [.ref h0] (fun U => U.heap.size = sz ∧ va_P (dC, dI) classes [(h0, .inr (1, [.null, .null, .int 0, .int 0, .int 0]))] U.heap ∧ va_K (dC, dI) classes [] U)) (va_Qv (fun _ : Unit => True) (fun _ t => ∃ r1 r2 r3 cI cC, va_P (dC, dI) classes (wR h0 r1 r2 r3 cI cC (fun _ => 0) 0 0 0 (fun _ => 0) 0) t.heap ∧ rK dC dI cI cC t ∧ va_D (va_A [(h0, .inr (1, [.null, .null, .int 0, .int 0, .int 0]))] sz) (wR h0 r1 r2 r3 cI cC (fun _ => 0) 0 0 0 (fun _ => 0) 0)) (va_A [(h0, .inr (1, [.null, .null, .int 0, .int 0, .int 0]))] sz)) 3 298 (va_A [(h0, .inr (1, [.null, .null, .int 0, .int 0, .int 0]))] sz) := by
  refine va_MetF (cc := b_R_init) (maxL := 1) (ret := none) (by decide +kernel) rfl ?_
  intro p e s m args below meth c s₁ B hml hv
  obtain ⟨rfl, hsz, hP, hK⟩ := hv
  have hx := B.exec
  have hb := B.bytes
  have hr := B.returns
  have hts := atoms_spec (ws := (Cond.code y_R_init b_R_init 1 none :: WT)) B.pre
  have hT : ∀ w ∈ WT, w.before _ s = true := fun w h => hts w (inC w h)
  have hown : s.vm.findClass R_R = some m.cls := findClass_of_methodNamed B.named
  have hlocks := B.notSynchronized
  have hS0 : va_S (va_A [(h0, .inr (1, [.null, .null, .int 0, .int 0, .int 0]))] sz) s.heap s.heap [] := va_S.rf
  have S : CallFix p m c b_R_init 1 s _ (Cond.code y_R_init b_R_init 1 none :: WT) R_R := ⟨hx, hb, hml, hown, hts⟩
  have hl := lv_entry ([.ref h0]) (n := 1) (Nat.le_of_ble_eq_true rfl)
  rw [lg_entry_eq]
  generalize (lg_sl ([.ref h0]) ++ List.replicate (1 - (lg_sl ([.ref h0])).length) Slot.unset).toArray = ls at hl ⊢
  have hl : lv_has ls 1 [(0, .ref h0)] := hl
  have hin : meth.name = "<init>" := (name_of_methodNamed B.named B.method).1
  have hD : va_D (va_A [(h0, .inr (1, [.null, .null, .int 0, .int 0, .int 0]))] sz) [(h0, .inr (1, [.null, .null, .int 0, .int 0, .int 0]))] := ⟨fun i j p q hi hj _ => by
    have h1 := (List.getElem?_eq_some_iff.mp hi).1
    have h2 := (List.getElem?_eq_some_iff.mp hj).1
    simp only [List.length_cons, List.length_nil] at h1 h2
    omega, fun k q hk => Or.inl ⟨k, q.2, hk⟩⟩
  have hA : ∀ q : Nat, s.heap.size ≤ q → (va_A [(h0, .inr (1, [.null, .null, .int 0, .int 0, .int 0]))] sz) q := fun q h => Or.inr (by omega)
  have hS := hS0
  clear hS0
  generalize hAe : (va_A [(h0, .inr (1, [.null, .null, .int 0, .int 0, .int 0]))] sz) = A at hD hA hS ⊢
  refine lv_aload_n hx hb d_R_init_0 rfl (lv_at hl 0 rfl) ?_
  refine W.objInit hx hb hown (hT _ m_73) (hT _ m_74) (hT _ m_75) rfl (by rw [hml]; exact hl.1) rfl d_R_init_1 (Nat.le_of_ble_eq_true rfl) (Nat.le_of_ble_eq_true rfl) ?_
  refine W.eq (g2 := F0 m 4 ls []) rfl ?_
  refine lv_aload_n hx hb d_R_init_4 rfl (lv_at hl 0 rfl) ?_
  refine lv_sipush (v := 256) hx hb d_R_init_5 (by decide) ?_
  refine va_newa (D := (dC, dI)) (ty := .int) (atype := .int) (N' := 256) (a0 := (256, .inl (fun _ => 0))) hx hb (hT _ m_89) rfl hK hP hD hS hA (fun _ => rfl) (by decide) (by decide) (by decide) (Nat.le_of_ble_eq_true rfl) (Nat.le_of_ble_eq_true rfl) d_R_init_8 (fun r1 cI H hK hP hD hS => ?_)
  have hP : va_P (dC, dI) classes [(h0, .inr (1, [.null, .null, .int 0, .int 0, .int 0])), (r1, .inl (cI, 256, .inl (fun _ => 0)))] H := hP
  have hD : va_D A [(h0, .inr (1, [.null, .null, .int 0, .int 0, .int 0])), (r1, .inl (cI, 256, .inl (fun _ => 0)))] := hD
  refine va_putF (D := (dC, dI)) (ci := 1) (v := .ref r1) (ty := .array .int) (C := R_R) (T := F_R) (N := 5) hx hb hT i_R ft_R ft_R_ok n_R hown hK hP hD hS 0 rfl rfl 0 (by decide) (hT _ m_91) (fun _ h9 => h9) rfl hin rfl (by decide +kernel) rfl rfl (Nat.le_of_ble_eq_true rfl) d_R_init_10 (fun H locs hP hD hS => ?_)
  have hP : va_P (dC, dI) classes [(h0, .inr (1, [.ref r1, .null, .int 0, .int 0, .int 0])), (r1, .inl (cI, 256, .inl (fun _ => 0)))] H := hP
  have hD : va_D A [(h0, .inr (1, [.ref r1, .null, .int 0, .int 0, .int 0])), (r1, .inl (cI, 256, .inl (fun _ => 0)))] := hD
  refine lv_aload_n hx hb d_R_init_13 rfl (lv_at hl 0 rfl) ?_
  refine va_new (D := (dC, dI)) (ci := 0) (fs := [.null, .int 0]) (C := R_T) (T := F_T) (N := 2) hx hb hT i_T ft_T ft_T_ok hown (hT _ m_76) (hT _ m_77) (hT _ m_51) hK hP hD hS hA rfl (by decide) (Nat.le_of_ble_eq_true rfl) (Nat.le_of_ble_eq_true rfl) d_R_init_14 (fun r2 H hP hD hS => ?_)
  have hP : va_P (dC, dI) classes [(h0, .inr (1, [.ref r1, .null, .int 0, .int 0, .int 0])), (r1, .inl (cI, 256, .inl (fun _ => 0))), (r2, .inr (0, [.null, .int 0]))] H := hP
  have hD : va_D A [(h0, .inr (1, [.ref r1, .null, .int 0, .int 0, .int 0])), (r1, .inl (cI, 256, .inl (fun _ => 0))), (r2, .inr (0, [.null, .int 0]))] := hD
  refine lv_dup hx hb d_R_init_17 rfl ?_
  have hPc := hP.sub (ws' := [(r2, .inr (0, [.null, .int 0]))]) [2] rfl
  have hFc := va_free (wc := [(r2, .inr (0, [.null, .int 0]))]) hD hS hA [2] rfl
  refine va_callv (va_runI (As := []) (rest := [.ref r2, .ref h0]) S (c_T_init l dC dI r2 H.size) (cwI 0 hts (gW inC m_80) rfl rfl rfl (hT _ m_51) (hT _ m_78) (hT _ m_79) rfl (by decide +kernel) ⟨(Nat.le_of_ble_eq_true rfl), (Nat.le_of_ble_eq_true rfl)⟩) ⟨fun a U g mk q => by obtain ⟨q0, q1, qP, qK⟩ := q; exact ⟨q0, q1, qP, va_K.moved (u := U) (U := U.calling g mk a) (Vm.Alike.refl U.vm) qK⟩, fun U hU hW => ⟨rfl, by rw [hU], by rw [hU]; exact hPc, va_K.moved hW.alike (hK.sub [] rfl)⟩⟩ rfl rfl hl.1 rfl (lv_room (Nat.le_of_ble_eq_true rfl)) d_R_init_18 ⟨(Nat.le_of_ble_eq_true rfl), (Nat.le_of_ble_eq_true rfl)⟩) hS (fun q _ h => hFc q h) hFc (fun u t H1 locs ht hvm hw hB hz1 hk1 hS => ?_)
  obtain ⟨r3, cC, hP1, hK1, hD1⟩ := hB
  rw [ht] at hP1
  have hK1 := va_K.moved hvm.symm hK1
  obtain ⟨hP, hD⟩ := va_join (wr := [(h0, .inr (1, [.ref r1, .null, .int 0, .int 0, .int 0])), (r1, .inl (cI, 256, .inl (fun _ => 0)))]) (w1 := wT r2 r3 cC (fun _ => 0) 0) hP hD [2] [0, 1] rfl rfl (by decide) (by decide) hk1 hFc hP1 hD1
  have hK : rK dC dI cI cC s := (hK.sub (tys' := [(cI, .int)]) [0] rfl).app hK1
  generalize H1 = H at hP hS ⊢
  have hP : va_P (dC, dI) classes [(h0, .inr (1, [.ref r1, .null, .int 0, .int 0, .int 0])), (r1, .inl (cI, 256, .inl (fun _ => 0))), (r2, .inr (0, [.ref r3, .int 0])), (r3, .inl (cC, 40, .inl (fun _ => 0)))] H := hP
  have hD : va_D A [(h0, .inr (1, [.ref r1, .null, .int 0, .int 0, .int 0])), (r1, .inl (cI, 256, .inl (fun _ => 0))), (r2, .inr (0, [.ref r3, .int 0])), (r3, .inl (cC, 40, .inl (fun _ => 0)))] := hD
  refine va_putF (D := (dC, dI)) (ci := 1) (v := .ref r2) (ty := .object "InstructionReader$Text") (C := R_R) (T := F_R) (N := 5) hx hb hT i_R ft_R ft_R_ok n_R hown hK hP hD hS 0 rfl rfl 1 (by decide) (hT _ m_92) (fun _ h9 => h9) rfl hin rfl (by decide +kernel) rfl rfl (Nat.le_of_ble_eq_true rfl) d_R_init_21 (fun H locs hP hD hS => ?_)
  have hP : va_P (dC, dI) classes (wR h0 r1 r2 r3 cI cC (fun _ => 0) 0 0 0 (fun _ => 0) 0) H := hP
  have hD : va_D A (wR h0 r1 r2 r3 cI cC (fun _ => 0) 0 0 0 (fun _ => 0) 0) := hD
  refine lv_aload_n hx hb d_R_init_24 rfl (lv_at hl 0 rfl) ?_
  refine lv_iconst (v := 0) hx hb d_R_init_25 (by decide) ?_
  refine va_put (D := (dC, dI)) (ci := 1) (v := .int 0) (ty := .int) (C := R_R) (T := F_R) (N := 5) hx hb hT i_R ft_R ft_R_ok n_R hown hK hP hD hS 0 rfl rfl 2 (by decide) (hT _ m_93) (fun _ h9 => h9) rfl (by decide +kernel) rfl rfl (Nat.le_of_ble_eq_true rfl) d_R_init_26 (fun H locs hP hD hS => ?_)
  have hP : va_P (dC, dI) classes (wR h0 r1 r2 r3 cI cC (fun _ => 0) 0 0 0 (fun _ => 0) 0) H := hP
  have hD : va_D A (wR h0 r1 r2 r3 cI cC (fun _ => 0) 0 0 0 (fun _ => 0) 0) := hD
  refine lv_aload_n hx hb d_R_init_29 rfl (lv_at hl 0 rfl) ?_
  refine lv_iconst (v := 0) hx hb d_R_init_30 (by decide) ?_
  refine va_put (D := (dC, dI)) (ci := 1) (v := .int 0) (ty := .boolean) (C := R_R) (T := F_R) (N := 5) hx hb hT i_R ft_R ft_R_ok n_R hown hK hP hD hS 0 rfl rfl 3 (by decide) (hT _ m_94) (fun _ h9 => h9) rfl (by decide +kernel) rfl rfl (Nat.le_of_ble_eq_true rfl) d_R_init_31 (fun H locs hP hD hS => ?_)
  have hP : va_P (dC, dI) classes (wR h0 r1 r2 r3 cI cC (fun _ => 0) 0 0 0 (fun _ => 0) 0) H := hP
  have hD : va_D A (wR h0 r1 r2 r3 cI cC (fun _ => 0) 0 0 0 (fun _ => 0) 0) := hD
  refine lv_aload_n hx hb d_R_init_34 rfl (lv_at hl 0 rfl) ?_
  refine lv_iconst (v := 0) hx hb d_R_init_35 (by decide) ?_
  refine va_put (D := (dC, dI)) (ci := 1) (v := .int 0) (ty := .int) (C := R_R) (T := F_R) (N := 5) hx hb hT i_R ft_R ft_R_ok n_R hown hK hP hD hS 0 rfl rfl 4 (by decide) (hT _ m_95) (fun _ h9 => h9) rfl (by decide +kernel) rfl rfl (Nat.le_of_ble_eq_true rfl) d_R_init_36 (fun H locs hP hD hS => ?_)
  have hP : va_P (dC, dI) classes (wR h0 r1 r2 r3 cI cC (fun _ => 0) 0 0 0 (fun _ => 0) 0) H := hP
  have hD : va_D A (wR h0 r1 r2 r3 cI cC (fun _ => 0) 0 0 0 (fun _ => 0) 0) := hD
  exact W.vret hx hb hr (fun t ht hW => ⟨⟨(), rfl, trivial, r1, r2, r3, cI, cC, by rw [ht]; exact hP, va_K.moved hW.alike hK, hD⟩, hS.F ht⟩) hS.2.2 d_R_init_39

def rgk (k : Nat) : Nat → Int32 := fun j => if j < k then rgs j else 0
theorem rgk_0 : (fun _ => 0 : Nat → Int32) = rgk 0 := by
  funext j
  simp [rgk]
theorem rgk_s (k : Nat) (i x : Int32) (hi : i.toNatClampNeg = k) (hx : rgs k = x) : upd (rgk k) i.toNatClampNeg x = rgk (k + 1) := by
  funext j
  rw [hi, ← hx]
  unfold upd rgk
  by_cases h : j = k
  · subst h
    simp
  · by_cases h2 : j < k
    · simp [h, h2, show j < k + 1 by omega]
    · simp [h, h2, show ¬ j < k + 1 by omega]

theorem vd_re {A : Nat → Prop} {ws ws' : va_W} (h : va_D A ws) (e : ws.map (fun q => q.1) = ws'.map (fun q => q.1)) : va_D A ws' := by
  refine vd_of (by rw [← e]; exact h.nodup) (fun a ha => ?_)
  rw [← e] at ha
  obtain ⟨q, hq, rfl⟩ := List.mem_map.mp ha
  obtain ⟨k, hk⟩ := List.mem_iff_getElem?.mp hq
  exact h.2 k q hk

set_option maxRecDepth 100000 in
set_option maxHeartbeats 4000000 in
theorem c_M_init (l : Launch) (dC : Nat → ClassId) (dI : Nat → Nat → Nat) (h0 sz : Nat) : Met l y_M_init (Cond.code y_M_init b_M_init 1 none :: WT) ({ frames := 1, cells := 4, slots := 416, locals := 12 }) (va_Pc [.ref h0] (fun U => U.heap.size = sz ∧ va_P (dC, dI) classes [(h0, .inr (2, [.int 0, .null, .int 0, .int 0, .int 0, .int 0, .null, .int 0, .int 0, .int 0, .int 0, .int 0, .null, .null]))] U.heap ∧ va_K (dC, dI) classes [] U)) (va_Qv (fun _ : Unit => True) (fun _ t => ∃ mt ms mr mk cI cC, va_P (dC, dI) classes (wM h0 mt ms mr mk cI cC 0 0 0 0 0 0 0 0 0 0 (fun _ => 0) (rgk 32) (fun _ => 0) (fun _ => 0)) t.heap ∧ rK dC dI cI cC t ∧ va_D (va_A [(h0, .inr (2, [.int 0, .null, .int 0, .int 0, .int 0, .int 0, .null, .int 0, .int 0, .int 0, .int 0, .int 0, .null, .null]))] sz) (wM h0 mt ms mr mk cI cC 0 0 0 0 0 0 0 0 0 0 (fun _ => 0) (rgk 32) (fun _ => 0) (fun _ => 0))) (va_A [(h0, .inr (2, [.int 0, .null, .int 0, .int 0, .int 0, .int 0, .null, .int 0, .int 0, .int 0, .int 0, .int 0, .null, .null]))] sz)) 4 416 (va_A [(h0, .inr (2, [.int 0, .null, .int 0, .int 0, .int 0, .int 0, .null, .int 0, .int 0, .int 0, .int 0, .int 0, .null, .null]))] sz) := by
  refine va_MetF (cc := b_M_init) (maxL := 1) (ret := none) (by decide +kernel) rfl ?_
  intro p e s m args below meth c s₁ B hml hv
  obtain ⟨rfl, hsz, hP, hK⟩ := hv
  have hx := B.exec
  have hb := B.bytes
  have hr := B.returns
  have hts := atoms_spec (ws := (Cond.code y_M_init b_M_init 1 none :: WT)) B.pre
  have hT : ∀ w ∈ WT, w.before _ s = true := fun w h => hts w (inC w h)
  have hown : s.vm.findClass R_M = some m.cls := findClass_of_methodNamed B.named
  have hlocks := B.notSynchronized
  have hS0 : va_S (va_A [(h0, .inr (2, [.int 0, .null, .int 0, .int 0, .int 0, .int 0, .null, .int 0, .int 0, .int 0, .int 0, .int 0, .null, .null]))] sz) s.heap s.heap [] := va_S.rf
  have S : CallFix p m c b_M_init 1 s _ (Cond.code y_M_init b_M_init 1 none :: WT) R_M := ⟨hx, hb, hml, hown, hts⟩
  have hl := lv_entry ([.ref h0]) (n := 1) (Nat.le_of_ble_eq_true rfl)
  rw [lg_entry_eq]
  generalize (lg_sl ([.ref h0]) ++ List.replicate (1 - (lg_sl ([.ref h0])).length) Slot.unset).toArray = ls at hl ⊢
  have hl : lv_has ls 1 [(0, .ref h0)] := hl
  have hin : meth.name = "<init>" := (name_of_methodNamed B.named B.method).1
  have hD : va_D (va_A [(h0, .inr (2, [.int 0, .null, .int 0, .int 0, .int 0, .int 0, .null, .int 0, .int 0, .int 0, .int 0, .int 0, .null, .null]))] sz) [(h0, .inr (2, [.int 0, .null, .int 0, .int 0, .int 0, .int 0, .null, .int 0, .int 0, .int 0, .int 0, .int 0, .null, .null]))] := ⟨fun i j p q hi hj _ => by
    have h1 := (List.getElem?_eq_some_iff.mp hi).1
    have h2 := (List.getElem?_eq_some_iff.mp hj).1
    simp only [List.length_cons, List.length_nil] at h1 h2
    omega, fun k q hk => Or.inl ⟨k, q.2, hk⟩⟩
  have hA : ∀ q : Nat, s.heap.size ≤ q → (va_A [(h0, .inr (2, [.int 0, .null, .int 0, .int 0, .int 0, .int 0, .null, .int 0, .int 0, .int 0, .int 0, .int 0, .null, .null]))] sz) q := fun q h => Or.inr (by omega)
  have hS := hS0
  clear hS0
  generalize hAe : (va_A [(h0, .inr (2, [.int 0, .null, .int 0, .int 0, .int 0, .int 0, .null, .int 0, .int 0, .int 0, .int 0, .int 0, .null, .null]))] sz) = A at hD hA hS ⊢
  refine lv_aload_n hx hb d_M_init_0 rfl (lv_at hl 0 rfl) ?_
  refine W.objInit hx hb hown (hT _ m_749) (hT _ m_74) (hT _ m_75) rfl (by rw [hml]; exact hl.1) rfl d_M_init_1 (Nat.le_of_ble_eq_true rfl) (Nat.le_of_ble_eq_true rfl) ?_
  refine W.eq (g2 := F0 m 4 ls []) rfl ?_
  refine lv_aload_n hx hb d_M_init_4 rfl (lv_at hl 0 rfl) ?_
  refine lv_bipush (v := 64) hx hb d_M_init_5 (by decide) ?_
  refine va_newa (D := (dC, dI)) (ty := .char) (atype := .char) (N' := 64) (a0 := (64, .inl (fun _ => 0))) hx hb (hT _ m_90) rfl hK hP hD hS hA (fun _ => rfl) (by decide) (by decide) (by decide) (Nat.le_of_ble_eq_true rfl) (Nat.le_of_ble_eq_true rfl) d_M_init_7 (fun mt cC H hK hP hD hS => ?_)
  have hP : va_P (dC, dI) classes [(h0, .inr (2, [.int 0, .null, .int 0, .int 0, .int 0, .int 0, .null, .int 0, .int 0, .int 0, .int 0, .int 0, .null, .null])), (mt, .inl (cC, 64, .inl (fun _ => 0)))] H := hP
  have hD : va_D A [(h0, .inr (2, [.int 0, .null, .int 0, .int 0, .int 0, .int 0, .null, .int 0, .int 0, .int 0, .int 0, .int 0, .null, .null])), (mt, .inl (cC, 64, .inl (fun _ => 0)))] := hD
  refine va_putF (D := (dC, dI)) (ci := 2) (v := .ref mt) (ty := .array .char) (C := R_M) (T := F_M) (N := 14) hx hb hT i_M ft_M ft_M_ok n_M hown hK hP hD hS 0 rfl rfl 1 (by decide) (hT _ m_754) (fun _ h9 => h9) rfl hin rfl (by decide +kernel) rfl rfl (Nat.le_of_ble_eq_true rfl) d_M_init_9 (fun H locs hP hD hS => ?_)
  have hP : va_P (dC, dI) classes [(h0, .inr (2, [.int 0, .ref mt, .int 0, .int 0, .int 0, .int 0, .null, .int 0, .int 0, .int 0, .int 0, .int 0, .null, .null])), (mt, .inl (cC, 64, .inl (fun _ => 0)))] H := hP
  have hD : va_D A [(h0, .inr (2, [.int 0, .ref mt, .int 0, .int 0, .int 0, .int 0, .null, .int 0, .int 0, .int 0, .int 0, .int 0, .null, .null])), (mt, .inl (cC, 64, .inl (fun _ => 0)))] := hD
  refine lv_aload_n hx hb d_M_init_12 rfl (lv_at hl 0 rfl) ?_
  refine lv_sipush (v := 256) hx hb d_M_init_13 (by decide) ?_
  refine va_newa (D := (dC, dI)) (ty := .int) (atype := .int) (N' := 256) (a0 := (256, .inl (fun _ => 0))) hx hb (hT _ m_89) rfl hK hP hD hS hA (fun _ => rfl) (by decide) (by decide) (by decide) (Nat.le_of_ble_eq_true rfl) (Nat.le_of_ble_eq_true rfl) d_M_init_16 (fun ms cI H hK hP hD hS => ?_)
  have hP : va_P (dC, dI) classes [(h0, .inr (2, [.int 0, .ref mt, .int 0, .int 0, .int 0, .int 0, .null, .int 0, .int 0, .int 0, .int 0, .int 0, .null, .null])), (mt, .inl (cC, 64, .inl (fun _ => 0))), (ms, .inl (cI, 256, .inl (fun _ => 0)))] H := hP
  have hD : va_D A [(h0, .inr (2, [.int 0, .ref mt, .int 0, .int 0, .int 0, .int 0, .null, .int 0, .int 0, .int 0, .int 0, .int 0, .null, .null])), (mt, .inl (cC, 64, .inl (fun _ => 0))), (ms, .inl (cI, 256, .inl (fun _ => 0)))] := hD
  refine va_putF (D := (dC, dI)) (ci := 2) (v := .ref ms) (ty := .array .int) (C := R_M) (T := F_M) (N := 14) hx hb hT i_M ft_M ft_M_ok n_M hown hK hP hD hS 0 rfl rfl 6 (by decide) (hT _ m_759) (fun _ h9 => h9) rfl hin rfl (by decide +kernel) rfl rfl (Nat.le_of_ble_eq_true rfl) d_M_init_18 (fun H locs hP hD hS => ?_)
  have hP : va_P (dC, dI) classes [(h0, .inr (2, [.int 0, .ref mt, .int 0, .int 0, .int 0, .int 0, .ref ms, .int 0, .int 0, .int 0, .int 0, .int 0, .null, .null])), (mt, .inl (cC, 64, .inl (fun _ => 0))), (ms, .inl (cI, 256, .inl (fun _ => 0)))] H := hP
  have hD : va_D A [(h0, .inr (2, [.int 0, .ref mt, .int 0, .int 0, .int 0, .int 0, .ref ms, .int 0, .int 0, .int 0, .int 0, .int 0, .null, .null])), (mt, .inl (cC, 64, .inl (fun _ => 0))), (ms, .inl (cI, 256, .inl (fun _ => 0)))] := hD
  refine lv_aload_n hx hb d_M_init_21 rfl (lv_at hl 0 rfl) ?_
  refine lv_bipush (v := 32) hx hb d_M_init_22 (by decide) ?_
  refine va_newa (D := (dC, dI)) (ty := .int) (atype := .int) (N' := 32) (a0 := (32, .inl (fun _ => 0))) hx hb (hT _ m_89) rfl hK hP hD hS hA (fun _ => rfl) (by decide) (by decide) (by decide) (Nat.le_of_ble_eq_true rfl) (Nat.le_of_ble_eq_true rfl) d_M_init_24 (fun mr cI2 H hK hP hD hS => ?_)
  have hP : va_P (dC, dI) classes [(h0, .inr (2, [.int 0, .ref mt, .int 0, .int 0, .int 0, .int 0, .ref ms, .int 0, .int 0, .int 0, .int 0, .int 0, .null, .null])), (mt, .inl (cC, 64, .inl (fun _ => 0))), (ms, .inl (cI, 256, .inl (fun _ => 0))), (mr, .inl (cI2, 32, .inl (rgk 0)))] H := by rw [← rgk_0]; exact hP
  have hD : va_D A [(h0, .inr (2, [.int 0, .ref mt, .int 0, .int 0, .int 0, .int 0, .ref ms, .int 0, .int 0, .int 0, .int 0, .int 0, .null, .null])), (mt, .inl (cC, 64, .inl (fun _ => 0))), (ms, .inl (cI, 256, .inl (fun _ => 0))), (mr, .inl (cI2, 32, .inl (rgk 0)))] := vd_re hD rfl
  refine lv_dup hx hb d_M_init_26 rfl ?_
  refine lv_iconst (v := 0) hx hb d_M_init_27 (by decide) ?_
  refine lv_ldc (v := 1869768058) hx hb hown (hT _ m_750) d_M_init_28 ?_
  refine va_iast (D := (dC, dI)) hx hb hK hP hD hS 3 2 rfl rfl (by unfold vp_in; decide) d_M_init_30 (fun H locs hP hD hS => ?_)
  have hP : va_P (dC, dI) classes [(h0, .inr (2, [.int 0, .ref mt, .int 0, .int 0, .int 0, .int 0, .ref ms, .int 0, .int 0, .int 0, .int 0, .int 0, .null, .null])), (mt, .inl (cC, 64, .inl (fun _ => 0))), (ms, .inl (cI, 256, .inl (fun _ => 0))), (mr, .inl (cI2, 32, .inl (rgk 1)))] H := by rw [← rgk_s 0 0 1869768058 (by decide) (by decide)]; exact hP
  have hD : va_D A [(h0, .inr (2, [.int 0, .ref mt, .int 0, .int 0, .int 0, .int 0, .ref ms, .int 0, .int 0, .int 0, .int 0, .int 0, .null, .null])), (mt, .inl (cC, 64, .inl (fun _ => 0))), (ms, .inl (cI, 256, .inl (fun _ => 0))), (mr, .inl (cI2, 32, .inl (rgk 1)))] := vd_re hD rfl
  refine lv_dup hx hb d_M_init_31 rfl ?_
  refine lv_iconst (v := 1) hx hb d_M_init_32 (by decide) ?_
  refine lv_sipush (v := 24946) hx hb d_M_init_33 (by decide) ?_
  refine va_iast (D := (dC, dI)) hx hb hK hP hD hS 3 2 rfl rfl (by unfold vp_in; decide) d_M_init_36 (fun H locs hP hD hS => ?_)
  have hP : va_P (dC, dI) classes [(h0, .inr (2, [.int 0, .ref mt, .int 0, .int 0, .int 0, .int 0, .ref ms, .int 0, .int 0, .int 0, .int 0, .int 0, .null, .null])), (mt, .inl (cC, 64, .inl (fun _ => 0))), (ms, .inl (cI, 256, .inl (fun _ => 0))), (mr, .inl (cI2, 32, .inl (rgk 2)))] H := by rw [← rgk_s 1 1 24946 (by decide) (by decide)]; exact hP
  have hD : va_D A [(h0, .inr (2, [.int 0, .ref mt, .int 0, .int 0, .int 0, .int 0, .ref ms, .int 0, .int 0, .int 0, .int 0, .int 0, .null, .null])), (mt, .inl (cC, 64, .inl (fun _ => 0))), (ms, .inl (cI, 256, .inl (fun _ => 0))), (mr, .inl (cI2, 32, .inl (rgk 2)))] := vd_re hD rfl
  refine lv_dup hx hb d_M_init_37 rfl ?_
  refine lv_iconst (v := 2) hx hb d_M_init_38 (by decide) ?_
  refine lv_sipush (v := 28787) hx hb d_M_init_39 (by decide) ?_
  refine va_iast (D := (dC, dI)) hx hb hK hP hD hS 3 2 rfl rfl (by unfold vp_in; decide) d_M_init_42 (fun H locs hP hD hS => ?_)
  have hP : va_P (dC, dI) classes [(h0, .inr (2, [.int 0, .ref mt, .int 0, .int 0, .int 0, .int 0, .ref ms, .int 0, .int 0, .int 0, .int 0, .int 0, .null, .null])), (mt, .inl (cC, 64, .inl (fun _ => 0))), (ms, .inl (cI, 256, .inl (fun _ => 0))), (mr, .inl (cI2, 32, .inl (rgk 3)))] H := by rw [← rgk_s 2 2 28787 (by decide) (by decide)]; exact hP
  have hD : va_D A [(h0, .inr (2, [.int 0, .ref mt, .int 0, .int 0, .int 0, .int 0, .ref ms, .int 0, .int 0, .int 0, .int 0, .int 0, .null, .null])), (mt, .inl (cC, 64, .inl (fun _ => 0))), (ms, .inl (cI, 256, .inl (fun _ => 0))), (mr, .inl (cI2, 32, .inl (rgk 3)))] := vd_re hD rfl
  refine lv_dup hx hb d_M_init_43 rfl ?_
  refine lv_iconst (v := 3) hx hb d_M_init_44 (by decide) ?_
  refine lv_sipush (v := 28775) hx hb d_M_init_45 (by decide) ?_
  refine va_iast (D := (dC, dI)) hx hb hK hP hD hS 3 2 rfl rfl (by unfold vp_in; decide) d_M_init_48 (fun H locs hP hD hS => ?_)
  have hP : va_P (dC, dI) classes [(h0, .inr (2, [.int 0, .ref mt, .int 0, .int 0, .int 0, .int 0, .ref ms, .int 0, .int 0, .int 0, .int 0, .int 0, .null, .null])), (mt, .inl (cC, 64, .inl (fun _ => 0))), (ms, .inl (cI, 256, .inl (fun _ => 0))), (mr, .inl (cI2, 32, .inl (rgk 4)))] H := by rw [← rgk_s 3 3 28775 (by decide) (by decide)]; exact hP
  have hD : va_D A [(h0, .inr (2, [.int 0, .ref mt, .int 0, .int 0, .int 0, .int 0, .ref ms, .int 0, .int 0, .int 0, .int 0, .int 0, .null, .null])), (mt, .inl (cC, 64, .inl (fun _ => 0))), (ms, .inl (cI, 256, .inl (fun _ => 0))), (mr, .inl (cI2, 32, .inl (rgk 4)))] := vd_re hD rfl
  refine lv_dup hx hb d_M_init_49 rfl ?_
  refine lv_iconst (v := 4) hx hb d_M_init_50 (by decide) ?_
  refine lv_sipush (v := 28788) hx hb d_M_init_51 (by decide) ?_
  refine va_iast (D := (dC, dI)) hx hb hK hP hD hS 3 2 rfl rfl (by unfold vp_in; decide) d_M_init_54 (fun H locs hP hD hS => ?_)
  have hP : va_P (dC, dI) classes [(h0, .inr (2, [.int 0, .ref mt, .int 0, .int 0, .int 0, .int 0, .ref ms, .int 0, .int 0, .int 0, .int 0, .int 0, .null, .null])), (mt, .inl (cC, 64, .inl (fun _ => 0))), (ms, .inl (cI, 256, .inl (fun _ => 0))), (mr, .inl (cI2, 32, .inl (rgk 5)))] H := by rw [← rgk_s 4 4 28788 (by decide) (by decide)]; exact hP
  have hD : va_D A [(h0, .inr (2, [.int 0, .ref mt, .int 0, .int 0, .int 0, .int 0, .ref ms, .int 0, .int 0, .int 0, .int 0, .int 0, .null, .null])), (mt, .inl (cC, 64, .inl (fun _ => 0))), (ms, .inl (cI, 256, .inl (fun _ => 0))), (mr, .inl (cI2, 32, .inl (rgk 5)))] := vd_re hD rfl
  refine lv_dup hx hb d_M_init_55 rfl ?_
  refine lv_iconst (v := 5) hx hb d_M_init_56 (by decide) ?_
  refine lv_sipush (v := 12404) hx hb d_M_init_57 (by decide) ?_
  refine va_iast (D := (dC, dI)) hx hb hK hP hD hS 3 2 rfl rfl (by unfold vp_in; decide) d_M_init_60 (fun H locs hP hD hS => ?_)
  have hP : va_P (dC, dI) classes [(h0, .inr (2, [.int 0, .ref mt, .int 0, .int 0, .int 0, .int 0, .ref ms, .int 0, .int 0, .int 0, .int 0, .int 0, .null, .null])), (mt, .inl (cC, 64, .inl (fun _ => 0))), (ms, .inl (cI, 256, .inl (fun _ => 0))), (mr, .inl (cI2, 32, .inl (rgk 6)))] H := by rw [← rgk_s 5 5 12404 (by decide) (by decide)]; exact hP
  have hD : va_D A [(h0, .inr (2, [.int 0, .ref mt, .int 0, .int 0, .int 0, .int 0, .ref ms, .int 0, .int 0, .int 0, .int 0, .int 0, .null, .null])), (mt, .inl (cC, 64, .inl (fun _ => 0))), (ms, .inl (cI, 256, .inl (fun _ => 0))), (mr, .inl (cI2, 32, .inl (rgk 6)))] := vd_re hD rfl
  refine lv_dup hx hb d_M_init_61 rfl ?_
  refine lv_bipush (v := 6) hx hb d_M_init_62 (by decide) ?_
  refine lv_sipush (v := 12660) hx hb d_M_init_64 (by decide) ?_
  refine va_iast (D := (dC, dI)) hx hb hK hP hD hS 3 2 rfl rfl (by unfold vp_in; decide) d_M_init_67 (fun H locs hP hD hS => ?_)
  have hP : va_P (dC, dI) classes [(h0, .inr (2, [.int 0, .ref mt, .int 0, .int 0, .int 0, .int 0, .ref ms, .int 0, .int 0, .int 0, .int 0, .int 0, .null, .null])), (mt, .inl (cC, 64, .inl (fun _ => 0))), (ms, .inl (cI, 256, .inl (fun _ => 0))), (mr, .inl (cI2, 32, .inl (rgk 7)))] H := by rw [← rgk_s 6 6 12660 (by decide) (by decide)]; exact hP
  have hD : va_D A [(h0, .inr (2, [.int 0, .ref mt, .int 0, .int 0, .int 0, .int 0, .ref ms, .int 0, .int 0, .int 0, .int 0, .int 0, .null, .null])), (mt, .inl (cC, 64, .inl (fun _ => 0))), (ms, .inl (cI, 256, .inl (fun _ => 0))), (mr, .inl (cI2, 32, .inl (rgk 7)))] := vd_re hD rfl
  refine lv_dup hx hb d_M_init_68 rfl ?_
  refine lv_bipush (v := 7) hx hb d_M_init_69 (by decide) ?_
  refine lv_sipush (v := 12916) hx hb d_M_init_71 (by decide) ?_
  refine va_iast (D := (dC, dI)) hx hb hK hP hD hS 3 2 rfl rfl (by unfold vp_in; decide) d_M_init_74 (fun H locs hP hD hS => ?_)
  have hP : va_P (dC, dI) classes [(h0, .inr (2, [.int 0, .ref mt, .int 0, .int 0, .int 0, .int 0, .ref ms, .int 0, .int 0, .int 0, .int 0, .int 0, .null, .null])), (mt, .inl (cC, 64, .inl (fun _ => 0))), (ms, .inl (cI, 256, .inl (fun _ => 0))), (mr, .inl (cI2, 32, .inl (rgk 8)))] H := by rw [← rgk_s 7 7 12916 (by decide) (by decide)]; exact hP
  have hD : va_D A [(h0, .inr (2, [.int 0, .ref mt, .int 0, .int 0, .int 0, .int 0, .ref ms, .int 0, .int 0, .int 0, .int 0, .int 0, .null, .null])), (mt, .inl (cC, 64, .inl (fun _ => 0))), (ms, .inl (cI, 256, .inl (fun _ => 0))), (mr, .inl (cI2, 32, .inl (rgk 8)))] := vd_re hD rfl
  refine lv_dup hx hb d_M_init_75 rfl ?_
  refine lv_bipush (v := 8) hx hb d_M_init_76 (by decide) ?_
  refine lv_sipush (v := 12403) hx hb d_M_init_78 (by decide) ?_
  refine va_iast (D := (dC, dI)) hx hb hK hP hD hS 3 2 rfl rfl (by unfold vp_in; decide) d_M_init_81 (fun H locs hP hD hS => ?_)
  have hP : va_P (dC, dI) classes [(h0, .inr (2, [.int 0, .ref mt, .int 0, .int 0, .int 0, .int 0, .ref ms, .int 0, .int 0, .int 0, .int 0, .int 0, .null, .null])), (mt, .inl (cC, 64, .inl (fun _ => 0))), (ms, .inl (cI, 256, .inl (fun _ => 0))), (mr, .inl (cI2, 32, .inl (rgk 9)))] H := by rw [← rgk_s 8 8 12403 (by decide) (by decide)]; exact hP
  have hD : va_D A [(h0, .inr (2, [.int 0, .ref mt, .int 0, .int 0, .int 0, .int 0, .ref ms, .int 0, .int 0, .int 0, .int 0, .int 0, .null, .null])), (mt, .inl (cC, 64, .inl (fun _ => 0))), (ms, .inl (cI, 256, .inl (fun _ => 0))), (mr, .inl (cI2, 32, .inl (rgk 9)))] := vd_re hD rfl
  refine lv_dup hx hb d_M_init_82 rfl ?_
  refine lv_bipush (v := 9) hx hb d_M_init_83 (by decide) ?_
  refine lv_sipush (v := 12659) hx hb d_M_init_85 (by decide) ?_
  refine va_iast (D := (dC, dI)) hx hb hK hP hD hS 3 2 rfl rfl (by unfold vp_in; decide) d_M_init_88 (fun H locs hP hD hS => ?_)
  have hP : va_P (dC, dI) classes [(h0, .inr (2, [.int 0, .ref mt, .int 0, .int 0, .int 0, .int 0, .ref ms, .int 0, .int 0, .int 0, .int 0, .int 0, .null, .null])), (mt, .inl (cC, 64, .inl (fun _ => 0))), (ms, .inl (cI, 256, .inl (fun _ => 0))), (mr, .inl (cI2, 32, .inl (rgk 10)))] H := by rw [← rgk_s 9 9 12659 (by decide) (by decide)]; exact hP
  have hD : va_D A [(h0, .inr (2, [.int 0, .ref mt, .int 0, .int 0, .int 0, .int 0, .ref ms, .int 0, .int 0, .int 0, .int 0, .int 0, .null, .null])), (mt, .inl (cC, 64, .inl (fun _ => 0))), (ms, .inl (cI, 256, .inl (fun _ => 0))), (mr, .inl (cI2, 32, .inl (rgk 10)))] := vd_re hD rfl
  refine lv_dup hx hb d_M_init_89 rfl ?_
  refine lv_bipush (v := 10) hx hb d_M_init_90 (by decide) ?_
  refine lv_sipush (v := 12385) hx hb d_M_init_92 (by decide) ?_
  refine va_iast (D := (dC, dI)) hx hb hK hP hD hS 3 2 rfl rfl (by unfold vp_in; decide) d_M_init_95 (fun H locs hP hD hS => ?_)
  have hP : va_P (dC, dI) classes [(h0, .inr (2, [.int 0, .ref mt, .int 0, .int 0, .int 0, .int 0, .ref ms, .int 0, .int 0, .int 0, .int 0, .int 0, .null, .null])), (mt, .inl (cC, 64, .inl (fun _ => 0))), (ms, .inl (cI, 256, .inl (fun _ => 0))), (mr, .inl (cI2, 32, .inl (rgk 11)))] H := by rw [← rgk_s 10 10 12385 (by decide) (by decide)]; exact hP
  have hD : va_D A [(h0, .inr (2, [.int 0, .ref mt, .int 0, .int 0, .int 0, .int 0, .ref ms, .int 0, .int 0, .int 0, .int 0, .int 0, .null, .null])), (mt, .inl (cC, 64, .inl (fun _ => 0))), (ms, .inl (cI, 256, .inl (fun _ => 0))), (mr, .inl (cI2, 32, .inl (rgk 11)))] := vd_re hD rfl
  refine lv_dup hx hb d_M_init_96 rfl ?_
  refine lv_bipush (v := 11) hx hb d_M_init_97 (by decide) ?_
  refine lv_sipush (v := 12641) hx hb d_M_init_99 (by decide) ?_
  refine va_iast (D := (dC, dI)) hx hb hK hP hD hS 3 2 rfl rfl (by unfold vp_in; decide) d_M_init_102 (fun H locs hP hD hS => ?_)
  have hP : va_P (dC, dI) classes [(h0, .inr (2, [.int 0, .ref mt, .int 0, .int 0, .int 0, .int 0, .ref ms, .int 0, .int 0, .int 0, .int 0, .int 0, .null, .null])), (mt, .inl (cC, 64, .inl (fun _ => 0))), (ms, .inl (cI, 256, .inl (fun _ => 0))), (mr, .inl (cI2, 32, .inl (rgk 12)))] H := by rw [← rgk_s 11 11 12641 (by decide) (by decide)]; exact hP
  have hD : va_D A [(h0, .inr (2, [.int 0, .ref mt, .int 0, .int 0, .int 0, .int 0, .ref ms, .int 0, .int 0, .int 0, .int 0, .int 0, .null, .null])), (mt, .inl (cC, 64, .inl (fun _ => 0))), (ms, .inl (cI, 256, .inl (fun _ => 0))), (mr, .inl (cI2, 32, .inl (rgk 12)))] := vd_re hD rfl
  refine lv_dup hx hb d_M_init_103 rfl ?_
  refine lv_bipush (v := 12) hx hb d_M_init_104 (by decide) ?_
  refine lv_sipush (v := 12897) hx hb d_M_init_106 (by decide) ?_
  refine va_iast (D := (dC, dI)) hx hb hK hP hD hS 3 2 rfl rfl (by unfold vp_in; decide) d_M_init_109 (fun H locs hP hD hS => ?_)
  have hP : va_P (dC, dI) classes [(h0, .inr (2, [.int 0, .ref mt, .int 0, .int 0, .int 0, .int 0, .ref ms, .int 0, .int 0, .int 0, .int 0, .int 0, .null, .null])), (mt, .inl (cC, 64, .inl (fun _ => 0))), (ms, .inl (cI, 256, .inl (fun _ => 0))), (mr, .inl (cI2, 32, .inl (rgk 13)))] H := by rw [← rgk_s 12 12 12897 (by decide) (by decide)]; exact hP
  have hD : va_D A [(h0, .inr (2, [.int 0, .ref mt, .int 0, .int 0, .int 0, .int 0, .ref ms, .int 0, .int 0, .int 0, .int 0, .int 0, .null, .null])), (mt, .inl (cC, 64, .inl (fun _ => 0))), (ms, .inl (cI, 256, .inl (fun _ => 0))), (mr, .inl (cI2, 32, .inl (rgk 13)))] := vd_re hD rfl
  refine lv_dup hx hb d_M_init_110 rfl ?_
  refine lv_bipush (v := 13) hx hb d_M_init_111 (by decide) ?_
  refine lv_sipush (v := 13153) hx hb d_M_init_113 (by decide) ?_
  refine va_iast (D := (dC, dI)) hx hb hK hP hD hS 3 2 rfl rfl (by unfold vp_in; decide) d_M_init_116 (fun H locs hP hD hS => ?_)
  have hP : va_P (dC, dI) classes [(h0, .inr (2, [.int 0, .ref mt, .int 0, .int 0, .int 0, .int 0, .ref ms, .int 0, .int 0, .int 0, .int 0, .int 0, .null, .null])), (mt, .inl (cC, 64, .inl (fun _ => 0))), (ms, .inl (cI, 256, .inl (fun _ => 0))), (mr, .inl (cI2, 32, .inl (rgk 14)))] H := by rw [← rgk_s 13 13 13153 (by decide) (by decide)]; exact hP
  have hD : va_D A [(h0, .inr (2, [.int 0, .ref mt, .int 0, .int 0, .int 0, .int 0, .ref ms, .int 0, .int 0, .int 0, .int 0, .int 0, .null, .null])), (mt, .inl (cC, 64, .inl (fun _ => 0))), (ms, .inl (cI, 256, .inl (fun _ => 0))), (mr, .inl (cI2, 32, .inl (rgk 14)))] := vd_re hD rfl
  refine lv_dup hx hb d_M_init_117 rfl ?_
  refine lv_bipush (v := 14) hx hb d_M_init_118 (by decide) ?_
  refine lv_sipush (v := 13409) hx hb d_M_init_120 (by decide) ?_
  refine va_iast (D := (dC, dI)) hx hb hK hP hD hS 3 2 rfl rfl (by unfold vp_in; decide) d_M_init_123 (fun H locs hP hD hS => ?_)
  have hP : va_P (dC, dI) classes [(h0, .inr (2, [.int 0, .ref mt, .int 0, .int 0, .int 0, .int 0, .ref ms, .int 0, .int 0, .int 0, .int 0, .int 0, .null, .null])), (mt, .inl (cC, 64, .inl (fun _ => 0))), (ms, .inl (cI, 256, .inl (fun _ => 0))), (mr, .inl (cI2, 32, .inl (rgk 15)))] H := by rw [← rgk_s 14 14 13409 (by decide) (by decide)]; exact hP
  have hD : va_D A [(h0, .inr (2, [.int 0, .ref mt, .int 0, .int 0, .int 0, .int 0, .ref ms, .int 0, .int 0, .int 0, .int 0, .int 0, .null, .null])), (mt, .inl (cC, 64, .inl (fun _ => 0))), (ms, .inl (cI, 256, .inl (fun _ => 0))), (mr, .inl (cI2, 32, .inl (rgk 15)))] := vd_re hD rfl
  refine lv_dup hx hb d_M_init_124 rfl ?_
  refine lv_bipush (v := 15) hx hb d_M_init_125 (by decide) ?_
  refine lv_sipush (v := 13665) hx hb d_M_init_127 (by decide) ?_
  refine va_iast (D := (dC, dI)) hx hb hK hP hD hS 3 2 rfl rfl (by unfold vp_in; decide) d_M_init_130 (fun H locs hP hD hS => ?_)
  have hP : va_P (dC, dI) classes [(h0, .inr (2, [.int 0, .ref mt, .int 0, .int 0, .int 0, .int 0, .ref ms, .int 0, .int 0, .int 0, .int 0, .int 0, .null, .null])), (mt, .inl (cC, 64, .inl (fun _ => 0))), (ms, .inl (cI, 256, .inl (fun _ => 0))), (mr, .inl (cI2, 32, .inl (rgk 16)))] H := by rw [← rgk_s 15 15 13665 (by decide) (by decide)]; exact hP
  have hD : va_D A [(h0, .inr (2, [.int 0, .ref mt, .int 0, .int 0, .int 0, .int 0, .ref ms, .int 0, .int 0, .int 0, .int 0, .int 0, .null, .null])), (mt, .inl (cC, 64, .inl (fun _ => 0))), (ms, .inl (cI, 256, .inl (fun _ => 0))), (mr, .inl (cI2, 32, .inl (rgk 16)))] := vd_re hD rfl
  refine lv_dup hx hb d_M_init_131 rfl ?_
  refine lv_bipush (v := 16) hx hb d_M_init_132 (by decide) ?_
  refine lv_sipush (v := 13921) hx hb d_M_init_134 (by decide) ?_
  refine va_iast (D := (dC, dI)) hx hb hK hP hD hS 3 2 rfl rfl (by unfold vp_in; decide) d_M_init_137 (fun H locs hP hD hS => ?_)
  have hP : va_P (dC, dI) classes [(h0, .inr (2, [.int 0, .ref mt, .int 0, .int 0, .int 0, .int 0, .ref ms, .int 0, .int 0, .int 0, .int 0, .int 0, .null, .null])), (mt, .inl (cC, 64, .inl (fun _ => 0))), (ms, .inl (cI, 256, .inl (fun _ => 0))), (mr, .inl (cI2, 32, .inl (rgk 17)))] H := by rw [← rgk_s 16 16 13921 (by decide) (by decide)]; exact hP
  have hD : va_D A [(h0, .inr (2, [.int 0, .ref mt, .int 0, .int 0, .int 0, .int 0, .ref ms, .int 0, .int 0, .int 0, .int 0, .int 0, .null, .null])), (mt, .inl (cC, 64, .inl (fun _ => 0))), (ms, .inl (cI, 256, .inl (fun _ => 0))), (mr, .inl (cI2, 32, .inl (rgk 17)))] := vd_re hD rfl
  refine lv_dup hx hb d_M_init_138 rfl ?_
  refine lv_bipush (v := 17) hx hb d_M_init_139 (by decide) ?_
  refine lv_sipush (v := 14177) hx hb d_M_init_141 (by decide) ?_
  refine va_iast (D := (dC, dI)) hx hb hK hP hD hS 3 2 rfl rfl (by unfold vp_in; decide) d_M_init_144 (fun H locs hP hD hS => ?_)
  have hP : va_P (dC, dI) classes [(h0, .inr (2, [.int 0, .ref mt, .int 0, .int 0, .int 0, .int 0, .ref ms, .int 0, .int 0, .int 0, .int 0, .int 0, .null, .null])), (mt, .inl (cC, 64, .inl (fun _ => 0))), (ms, .inl (cI, 256, .inl (fun _ => 0))), (mr, .inl (cI2, 32, .inl (rgk 18)))] H := by rw [← rgk_s 17 17 14177 (by decide) (by decide)]; exact hP
  have hD : va_D A [(h0, .inr (2, [.int 0, .ref mt, .int 0, .int 0, .int 0, .int 0, .ref ms, .int 0, .int 0, .int 0, .int 0, .int 0, .null, .null])), (mt, .inl (cC, 64, .inl (fun _ => 0))), (ms, .inl (cI, 256, .inl (fun _ => 0))), (mr, .inl (cI2, 32, .inl (rgk 18)))] := vd_re hD rfl
  refine lv_dup hx hb d_M_init_145 rfl ?_
  refine lv_bipush (v := 18) hx hb d_M_init_146 (by decide) ?_
  refine lv_sipush (v := 12915) hx hb d_M_init_148 (by decide) ?_
  refine va_iast (D := (dC, dI)) hx hb hK hP hD hS 3 2 rfl rfl (by unfold vp_in; decide) d_M_init_151 (fun H locs hP hD hS => ?_)
  have hP : va_P (dC, dI) classes [(h0, .inr (2, [.int 0, .ref mt, .int 0, .int 0, .int 0, .int 0, .ref ms, .int 0, .int 0, .int 0, .int 0, .int 0, .null, .null])), (mt, .inl (cC, 64, .inl (fun _ => 0))), (ms, .inl (cI, 256, .inl (fun _ => 0))), (mr, .inl (cI2, 32, .inl (rgk 19)))] H := by rw [← rgk_s 18 18 12915 (by decide) (by decide)]; exact hP
  have hD : va_D A [(h0, .inr (2, [.int 0, .ref mt, .int 0, .int 0, .int 0, .int 0, .ref ms, .int 0, .int 0, .int 0, .int 0, .int 0, .null, .null])), (mt, .inl (cC, 64, .inl (fun _ => 0))), (ms, .inl (cI, 256, .inl (fun _ => 0))), (mr, .inl (cI2, 32, .inl (rgk 19)))] := vd_re hD rfl
  refine lv_dup hx hb d_M_init_152 rfl ?_
  refine lv_bipush (v := 19) hx hb d_M_init_153 (by decide) ?_
  refine lv_sipush (v := 13171) hx hb d_M_init_155 (by decide) ?_
  refine va_iast (D := (dC, dI)) hx hb hK hP hD hS 3 2 rfl rfl (by unfold vp_in; decide) d_M_init_158 (fun H locs hP hD hS => ?_)
  have hP : va_P (dC, dI) classes [(h0, .inr (2, [.int 0, .ref mt, .int 0, .int 0, .int 0, .int 0, .ref ms, .int 0, .int 0, .int 0, .int 0, .int 0, .null, .null])), (mt, .inl (cC, 64, .inl (fun _ => 0))), (ms, .inl (cI, 256, .inl (fun _ => 0))), (mr, .inl (cI2, 32, .inl (rgk 20)))] H := by rw [← rgk_s 19 19 13171 (by decide) (by decide)]; exact hP
  have hD : va_D A [(h0, .inr (2, [.int 0, .ref mt, .int 0, .int 0, .int 0, .int 0, .ref ms, .int 0, .int 0, .int 0, .int 0, .int 0, .null, .null])), (mt, .inl (cC, 64, .inl (fun _ => 0))), (ms, .inl (cI, 256, .inl (fun _ => 0))), (mr, .inl (cI2, 32, .inl (rgk 20)))] := vd_re hD rfl
  refine lv_dup hx hb d_M_init_159 rfl ?_
  refine lv_bipush (v := 20) hx hb d_M_init_160 (by decide) ?_
  refine lv_sipush (v := 13427) hx hb d_M_init_162 (by decide) ?_
  refine va_iast (D := (dC, dI)) hx hb hK hP hD hS 3 2 rfl rfl (by unfold vp_in; decide) d_M_init_165 (fun H locs hP hD hS => ?_)
  have hP : va_P (dC, dI) classes [(h0, .inr (2, [.int 0, .ref mt, .int 0, .int 0, .int 0, .int 0, .ref ms, .int 0, .int 0, .int 0, .int 0, .int 0, .null, .null])), (mt, .inl (cC, 64, .inl (fun _ => 0))), (ms, .inl (cI, 256, .inl (fun _ => 0))), (mr, .inl (cI2, 32, .inl (rgk 21)))] H := by rw [← rgk_s 20 20 13427 (by decide) (by decide)]; exact hP
  have hD : va_D A [(h0, .inr (2, [.int 0, .ref mt, .int 0, .int 0, .int 0, .int 0, .ref ms, .int 0, .int 0, .int 0, .int 0, .int 0, .null, .null])), (mt, .inl (cC, 64, .inl (fun _ => 0))), (ms, .inl (cI, 256, .inl (fun _ => 0))), (mr, .inl (cI2, 32, .inl (rgk 21)))] := vd_re hD rfl
  refine lv_dup hx hb d_M_init_166 rfl ?_
  refine lv_bipush (v := 21) hx hb d_M_init_167 (by decide) ?_
  refine lv_sipush (v := 13683) hx hb d_M_init_169 (by decide) ?_
  refine va_iast (D := (dC, dI)) hx hb hK hP hD hS 3 2 rfl rfl (by unfold vp_in; decide) d_M_init_172 (fun H locs hP hD hS => ?_)
  have hP : va_P (dC, dI) classes [(h0, .inr (2, [.int 0, .ref mt, .int 0, .int 0, .int 0, .int 0, .ref ms, .int 0, .int 0, .int 0, .int 0, .int 0, .null, .null])), (mt, .inl (cC, 64, .inl (fun _ => 0))), (ms, .inl (cI, 256, .inl (fun _ => 0))), (mr, .inl (cI2, 32, .inl (rgk 22)))] H := by rw [← rgk_s 21 21 13683 (by decide) (by decide)]; exact hP
  have hD : va_D A [(h0, .inr (2, [.int 0, .ref mt, .int 0, .int 0, .int 0, .int 0, .ref ms, .int 0, .int 0, .int 0, .int 0, .int 0, .null, .null])), (mt, .inl (cC, 64, .inl (fun _ => 0))), (ms, .inl (cI, 256, .inl (fun _ => 0))), (mr, .inl (cI2, 32, .inl (rgk 22)))] := vd_re hD rfl
  refine lv_dup hx hb d_M_init_173 rfl ?_
  refine lv_bipush (v := 22) hx hb d_M_init_174 (by decide) ?_
  refine lv_sipush (v := 13939) hx hb d_M_init_176 (by decide) ?_
  refine va_iast (D := (dC, dI)) hx hb hK hP hD hS 3 2 rfl rfl (by unfold vp_in; decide) d_M_init_179 (fun H locs hP hD hS => ?_)
  have hP : va_P (dC, dI) classes [(h0, .inr (2, [.int 0, .ref mt, .int 0, .int 0, .int 0, .int 0, .ref ms, .int 0, .int 0, .int 0, .int 0, .int 0, .null, .null])), (mt, .inl (cC, 64, .inl (fun _ => 0))), (ms, .inl (cI, 256, .inl (fun _ => 0))), (mr, .inl (cI2, 32, .inl (rgk 23)))] H := by rw [← rgk_s 22 22 13939 (by decide) (by decide)]; exact hP
  have hD : va_D A [(h0, .inr (2, [.int 0, .ref mt, .int 0, .int 0, .int 0, .int 0, .ref ms, .int 0, .int 0, .int 0, .int 0, .int 0, .null, .null])), (mt, .inl (cC, 64, .inl (fun _ => 0))), (ms, .inl (cI, 256, .inl (fun _ => 0))), (mr, .inl (cI2, 32, .inl (rgk 23)))] := vd_re hD rfl
  refine lv_dup hx hb d_M_init_180 rfl ?_
  refine lv_bipush (v := 23) hx hb d_M_init_181 (by decide) ?_
  refine lv_sipush (v := 14195) hx hb d_M_init_183 (by decide) ?_
  refine va_iast (D := (dC, dI)) hx hb hK hP hD hS 3 2 rfl rfl (by unfold vp_in; decide) d_M_init_186 (fun H locs hP hD hS => ?_)
  have hP : va_P (dC, dI) classes [(h0, .inr (2, [.int 0, .ref mt, .int 0, .int 0, .int 0, .int 0, .ref ms, .int 0, .int 0, .int 0, .int 0, .int 0, .null, .null])), (mt, .inl (cC, 64, .inl (fun _ => 0))), (ms, .inl (cI, 256, .inl (fun _ => 0))), (mr, .inl (cI2, 32, .inl (rgk 24)))] H := by rw [← rgk_s 23 23 14195 (by decide) (by decide)]; exact hP
  have hD : va_D A [(h0, .inr (2, [.int 0, .ref mt, .int 0, .int 0, .int 0, .int 0, .ref ms, .int 0, .int 0, .int 0, .int 0, .int 0, .null, .null])), (mt, .inl (cC, 64, .inl (fun _ => 0))), (ms, .inl (cI, 256, .inl (fun _ => 0))), (mr, .inl (cI2, 32, .inl (rgk 24)))] := vd_re hD rfl
  refine lv_dup hx hb d_M_init_187 rfl ?_
  refine lv_bipush (v := 24) hx hb d_M_init_188 (by decide) ?_
  refine lv_sipush (v := 14451) hx hb d_M_init_190 (by decide) ?_
  refine va_iast (D := (dC, dI)) hx hb hK hP hD hS 3 2 rfl rfl (by unfold vp_in; decide) d_M_init_193 (fun H locs hP hD hS => ?_)
  have hP : va_P (dC, dI) classes [(h0, .inr (2, [.int 0, .ref mt, .int 0, .int 0, .int 0, .int 0, .ref ms, .int 0, .int 0, .int 0, .int 0, .int 0, .null, .null])), (mt, .inl (cC, 64, .inl (fun _ => 0))), (ms, .inl (cI, 256, .inl (fun _ => 0))), (mr, .inl (cI2, 32, .inl (rgk 25)))] H := by rw [← rgk_s 24 24 14451 (by decide) (by decide)]; exact hP
  have hD : va_D A [(h0, .inr (2, [.int 0, .ref mt, .int 0, .int 0, .int 0, .int 0, .ref ms, .int 0, .int 0, .int 0, .int 0, .int 0, .null, .null])), (mt, .inl (cC, 64, .inl (fun _ => 0))), (ms, .inl (cI, 256, .inl (fun _ => 0))), (mr, .inl (cI2, 32, .inl (rgk 25)))] := vd_re hD rfl
  refine lv_dup hx hb d_M_init_194 rfl ?_
  refine lv_bipush (v := 25) hx hb d_M_init_195 (by decide) ?_
  refine lv_sipush (v := 14707) hx hb d_M_init_197 (by decide) ?_
  refine va_iast (D := (dC, dI)) hx hb hK hP hD hS 3 2 rfl rfl (by unfold vp_in; decide) d_M_init_200 (fun H locs hP hD hS => ?_)
  have hP : va_P (dC, dI) classes [(h0, .inr (2, [.int 0, .ref mt, .int 0, .int 0, .int 0, .int 0, .ref ms, .int 0, .int 0, .int 0, .int 0, .int 0, .null, .null])), (mt, .inl (cC, 64, .inl (fun _ => 0))), (ms, .inl (cI, 256, .inl (fun _ => 0))), (mr, .inl (cI2, 32, .inl (rgk 26)))] H := by rw [← rgk_s 25 25 14707 (by decide) (by decide)]; exact hP
  have hD : va_D A [(h0, .inr (2, [.int 0, .ref mt, .int 0, .int 0, .int 0, .int 0, .ref ms, .int 0, .int 0, .int 0, .int 0, .int 0, .null, .null])), (mt, .inl (cC, 64, .inl (fun _ => 0))), (ms, .inl (cI, 256, .inl (fun _ => 0))), (mr, .inl (cI2, 32, .inl (rgk 26)))] := vd_re hD rfl
  refine lv_dup hx hb d_M_init_201 rfl ?_
  refine lv_bipush (v := 26) hx hb d_M_init_202 (by decide) ?_
  refine lv_ldc (v := 3158387) hx hb hown (hT _ m_751) d_M_init_204 ?_
  refine va_iast (D := (dC, dI)) hx hb hK hP hD hS 3 2 rfl rfl (by unfold vp_in; decide) d_M_init_206 (fun H locs hP hD hS => ?_)
  have hP : va_P (dC, dI) classes [(h0, .inr (2, [.int 0, .ref mt, .int 0, .int 0, .int 0, .int 0, .ref ms, .int 0, .int 0, .int 0, .int 0, .int 0, .null, .null])), (mt, .inl (cC, 64, .inl (fun _ => 0))), (ms, .inl (cI, 256, .inl (fun _ => 0))), (mr, .inl (cI2, 32, .inl (rgk 27)))] H := by rw [← rgk_s 26 26 3158387 (by decide) (by decide)]; exact hP
  have hD : va_D A [(h0, .inr (2, [.int 0, .ref mt, .int 0, .int 0, .int 0, .int 0, .ref ms, .int 0, .int 0, .int 0, .int 0, .int 0, .null, .null])), (mt, .inl (cC, 64, .inl (fun _ => 0))), (ms, .inl (cI, 256, .inl (fun _ => 0))), (mr, .inl (cI2, 32, .inl (rgk 27)))] := vd_re hD rfl
  refine lv_dup hx hb d_M_init_207 rfl ?_
  refine lv_bipush (v := 27) hx hb d_M_init_208 (by decide) ?_
  refine lv_ldc (v := 3223923) hx hb hown (hT _ m_752) d_M_init_210 ?_
  refine va_iast (D := (dC, dI)) hx hb hK hP hD hS 3 2 rfl rfl (by unfold vp_in; decide) d_M_init_212 (fun H locs hP hD hS => ?_)
  have hP : va_P (dC, dI) classes [(h0, .inr (2, [.int 0, .ref mt, .int 0, .int 0, .int 0, .int 0, .ref ms, .int 0, .int 0, .int 0, .int 0, .int 0, .null, .null])), (mt, .inl (cC, 64, .inl (fun _ => 0))), (ms, .inl (cI, 256, .inl (fun _ => 0))), (mr, .inl (cI2, 32, .inl (rgk 28)))] H := by rw [← rgk_s 27 27 3223923 (by decide) (by decide)]; exact hP
  have hD : va_D A [(h0, .inr (2, [.int 0, .ref mt, .int 0, .int 0, .int 0, .int 0, .ref ms, .int 0, .int 0, .int 0, .int 0, .int 0, .null, .null])), (mt, .inl (cC, 64, .inl (fun _ => 0))), (ms, .inl (cI, 256, .inl (fun _ => 0))), (mr, .inl (cI2, 32, .inl (rgk 28)))] := vd_re hD rfl
  refine lv_dup hx hb d_M_init_213 rfl ?_
  refine lv_bipush (v := 28) hx hb d_M_init_214 (by decide) ?_
  refine lv_sipush (v := 13172) hx hb d_M_init_216 (by decide) ?_
  refine va_iast (D := (dC, dI)) hx hb hK hP hD hS 3 2 rfl rfl (by unfold vp_in; decide) d_M_init_219 (fun H locs hP hD hS => ?_)
  have hP : va_P (dC, dI) classes [(h0, .inr (2, [.int 0, .ref mt, .int 0, .int 0, .int 0, .int 0, .ref ms, .int 0, .int 0, .int 0, .int 0, .int 0, .null, .null])), (mt, .inl (cC, 64, .inl (fun _ => 0))), (ms, .inl (cI, 256, .inl (fun _ => 0))), (mr, .inl (cI2, 32, .inl (rgk 29)))] H := by rw [← rgk_s 28 28 13172 (by decide) (by decide)]; exact hP
  have hD : va_D A [(h0, .inr (2, [.int 0, .ref mt, .int 0, .int 0, .int 0, .int 0, .ref ms, .int 0, .int 0, .int 0, .int 0, .int 0, .null, .null])), (mt, .inl (cC, 64, .inl (fun _ => 0))), (ms, .inl (cI, 256, .inl (fun _ => 0))), (mr, .inl (cI2, 32, .inl (rgk 29)))] := vd_re hD rfl
  refine lv_dup hx hb d_M_init_220 rfl ?_
  refine lv_bipush (v := 29) hx hb d_M_init_221 (by decide) ?_
  refine lv_sipush (v := 13428) hx hb d_M_init_223 (by decide) ?_
  refine va_iast (D := (dC, dI)) hx hb hK hP hD hS 3 2 rfl rfl (by unfold vp_in; decide) d_M_init_226 (fun H locs hP hD hS => ?_)
  have hP : va_P (dC, dI) classes [(h0, .inr (2, [.int 0, .ref mt, .int 0, .int 0, .int 0, .int 0, .ref ms, .int 0, .int 0, .int 0, .int 0, .int 0, .null, .null])), (mt, .inl (cC, 64, .inl (fun _ => 0))), (ms, .inl (cI, 256, .inl (fun _ => 0))), (mr, .inl (cI2, 32, .inl (rgk 30)))] H := by rw [← rgk_s 29 29 13428 (by decide) (by decide)]; exact hP
  have hD : va_D A [(h0, .inr (2, [.int 0, .ref mt, .int 0, .int 0, .int 0, .int 0, .ref ms, .int 0, .int 0, .int 0, .int 0, .int 0, .null, .null])), (mt, .inl (cC, 64, .inl (fun _ => 0))), (ms, .inl (cI, 256, .inl (fun _ => 0))), (mr, .inl (cI2, 32, .inl (rgk 30)))] := vd_re hD rfl
  refine lv_dup hx hb d_M_init_227 rfl ?_
  refine lv_bipush (v := 30) hx hb d_M_init_228 (by decide) ?_
  refine lv_sipush (v := 13684) hx hb d_M_init_230 (by decide) ?_
  refine va_iast (D := (dC, dI)) hx hb hK hP hD hS 3 2 rfl rfl (by unfold vp_in; decide) d_M_init_233 (fun H locs hP hD hS => ?_)
  have hP : va_P (dC, dI) classes [(h0, .inr (2, [.int 0, .ref mt, .int 0, .int 0, .int 0, .int 0, .ref ms, .int 0, .int 0, .int 0, .int 0, .int 0, .null, .null])), (mt, .inl (cC, 64, .inl (fun _ => 0))), (ms, .inl (cI, 256, .inl (fun _ => 0))), (mr, .inl (cI2, 32, .inl (rgk 31)))] H := by rw [← rgk_s 30 30 13684 (by decide) (by decide)]; exact hP
  have hD : va_D A [(h0, .inr (2, [.int 0, .ref mt, .int 0, .int 0, .int 0, .int 0, .ref ms, .int 0, .int 0, .int 0, .int 0, .int 0, .null, .null])), (mt, .inl (cC, 64, .inl (fun _ => 0))), (ms, .inl (cI, 256, .inl (fun _ => 0))), (mr, .inl (cI2, 32, .inl (rgk 31)))] := vd_re hD rfl
  refine lv_dup hx hb d_M_init_234 rfl ?_
  refine lv_bipush (v := 31) hx hb d_M_init_235 (by decide) ?_
  refine lv_sipush (v := 13940) hx hb d_M_init_237 (by decide) ?_
  refine va_iast (D := (dC, dI)) hx hb hK hP hD hS 3 2 rfl rfl (by unfold vp_in; decide) d_M_init_240 (fun H locs hP hD hS => ?_)
  have hP : va_P (dC, dI) classes [(h0, .inr (2, [.int 0, .ref mt, .int 0, .int 0, .int 0, .int 0, .ref ms, .int 0, .int 0, .int 0, .int 0, .int 0, .null, .null])), (mt, .inl (cC, 64, .inl (fun _ => 0))), (ms, .inl (cI, 256, .inl (fun _ => 0))), (mr, .inl (cI2, 32, .inl (rgk 32)))] H := by rw [← rgk_s 31 31 13940 (by decide) (by decide)]; exact hP
  have hD : va_D A [(h0, .inr (2, [.int 0, .ref mt, .int 0, .int 0, .int 0, .int 0, .ref ms, .int 0, .int 0, .int 0, .int 0, .int 0, .null, .null])), (mt, .inl (cC, 64, .inl (fun _ => 0))), (ms, .inl (cI, 256, .inl (fun _ => 0))), (mr, .inl (cI2, 32, .inl (rgk 32)))] := vd_re hD rfl
  refine va_putF (D := (dC, dI)) (ci := 2) (v := .ref mr) (ty := .array .int) (C := R_M) (T := F_M) (N := 14) hx hb hT i_M ft_M ft_M_ok n_M hown hK hP hD hS 0 rfl rfl 12 (by decide) (hT _ m_765) (fun _ h9 => h9) rfl hin rfl (by decide +kernel) rfl rfl (Nat.le_of_ble_eq_true rfl) d_M_init_241 (fun H locs hP hD hS => ?_)
  have hP : va_P (dC, dI) classes [(h0, .inr (2, [.int 0, .ref mt, .int 0, .int 0, .int 0, .int 0, .ref ms, .int 0, .int 0, .int 0, .int 0, .int 0, .ref mr, .null])), (mt, .inl (cC, 64, .inl (fun _ => 0))), (ms, .inl (cI, 256, .inl (fun _ => 0))), (mr, .inl (cI2, 32, .inl (rgk 32)))] H := hP
  have hD : va_D A [(h0, .inr (2, [.int 0, .ref mt, .int 0, .int 0, .int 0, .int 0, .ref ms, .int 0, .int 0, .int 0, .int 0, .int 0, .ref mr, .null])), (mt, .inl (cC, 64, .inl (fun _ => 0))), (ms, .inl (cI, 256, .inl (fun _ => 0))), (mr, .inl (cI2, 32, .inl (rgk 32)))] := hD
  refine lv_aload_n hx hb d_M_init_244 rfl (lv_at hl 0 rfl) ?_
  refine lv_bipush (v := 64) hx hb d_M_init_245 (by decide) ?_
  refine va_newa (D := (dC, dI)) (ty := .char) (atype := .char) (N' := 64) (a0 := (64, .inl (fun _ => 0))) hx hb (hT _ m_90) rfl hK hP hD hS hA (fun _ => rfl) (by decide) (by decide) (by decide) (Nat.le_of_ble_eq_true rfl) (Nat.le_of_ble_eq_true rfl) d_M_init_247 (fun mk cC2 H hK hP hD hS => ?_)
  have hP : va_P (dC, dI) classes [(h0, .inr (2, [.int 0, .ref mt, .int 0, .int 0, .int 0, .int 0, .ref ms, .int 0, .int 0, .int 0, .int 0, .int 0, .ref mr, .null])), (mt, .inl (cC, 64, .inl (fun _ => 0))), (ms, .inl (cI, 256, .inl (fun _ => 0))), (mr, .inl (cI2, 32, .inl (rgk 32))), (mk, .inl (cC2, 64, .inl (fun _ => 0)))] H := hP
  have hD : va_D A [(h0, .inr (2, [.int 0, .ref mt, .int 0, .int 0, .int 0, .int 0, .ref ms, .int 0, .int 0, .int 0, .int 0, .int 0, .ref mr, .null])), (mt, .inl (cC, 64, .inl (fun _ => 0))), (ms, .inl (cI, 256, .inl (fun _ => 0))), (mr, .inl (cI2, 32, .inl (rgk 32))), (mk, .inl (cC2, 64, .inl (fun _ => 0)))] := hD
  refine va_putF (D := (dC, dI)) (ci := 2) (v := .ref mk) (ty := .array .char) (C := R_M) (T := F_M) (N := 14) hx hb hT i_M ft_M ft_M_ok n_M hown hK hP hD hS 0 rfl rfl 13 (by decide) (hT _ m_766) (fun _ h9 => h9) rfl hin rfl (by decide +kernel) rfl rfl (Nat.le_of_ble_eq_true rfl) d_M_init_249 (fun H locs hP hD hS => ?_)
  obtain rfl := hK.uni 1 2 (Or.inl rfl) rfl rfl
  obtain rfl := hK.uni 0 3 (Or.inr (Or.inl rfl)) rfl rfl
  have hP : va_P (dC, dI) classes (wM h0 mt ms mr mk cI cC 0 0 0 0 0 0 0 0 0 0 (fun _ => 0) (rgk 32) (fun _ => 0) (fun _ => 0)) H := hP
  have hD : va_D A (wM h0 mt ms mr mk cI cC 0 0 0 0 0 0 0 0 0 0 (fun _ => 0) (rgk 32) (fun _ => 0) (fun _ => 0)) := hD
  have hK : rK dC dI cI cC s := hK.sub [1, 0] rfl
  exact W.vret hx hb hr (fun t ht hW => ⟨⟨(), rfl, trivial, mt, ms, mr, mk, cI, cC, by rw [ht]; exact hP, va_K.moved hW.alike hK, hD⟩, hS.F ht⟩) hS.2.2 d_M_init_252
