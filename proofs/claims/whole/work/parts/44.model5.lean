def g_M_jump (bi d a b f : Int32) (x1 : Int64) (st : MT) : MT :=
  g_M_target bi d a b f (((((((((f_M_part bi 3 3) <<< ((1 : Int32) &&& 31)) ||| ((f_M_part bi 11 1) <<< ((4 : Int32) &&& 31))) ||| ((f_M_part bi 2 1) <<< ((5 : Int32) &&& 31))) ||| ((f_M_part bi 7 1) <<< ((6 : Int32) &&& 31))) ||| ((f_M_part bi 6 1) <<< ((7 : Int32) &&& 31))) ||| ((f_M_part bi 9 2) <<< ((8 : Int32) &&& 31))) ||| ((f_M_part bi 8 1) <<< ((10 : Int32) &&& 31))) ||| ((-(f_M_part bi 12 1)) <<< ((11 : Int32) &&& 31))) (sName x1 st)
set_option maxRecDepth 20000 in
theorem gl_M_jump (bi d a b f : Int32) (x1 : Int64) (st : MT) : (g_M_jump bi d a b f x1 st).2.2.length ≤ st.2.2.length + 23 := by
  unfold g_M_jump
  exact (by have h0 := sName_le x1 st; have h1 := gl_M_target bi d a b f (((((((((f_M_part bi 3 3) <<< ((1 : Int32) &&& 31)) ||| ((f_M_part bi 11 1) <<< ((4 : Int32) &&& 31))) ||| ((f_M_part bi 2 1) <<< ((5 : Int32) &&& 31))) ||| ((f_M_part bi 7 1) <<< ((6 : Int32) &&& 31))) ||| ((f_M_part bi 6 1) <<< ((7 : Int32) &&& 31))) ||| ((f_M_part bi 9 2) <<< ((8 : Int32) &&& 31))) ||| ((f_M_part bi 8 1) <<< ((10 : Int32) &&& 31))) ||| ((-(f_M_part bi 12 1)) <<< ((11 : Int32) &&& 31))) (sName x1 st); omega)
set_option maxRecDepth 100000 in
set_option maxHeartbeats 4000000 in
theorem c_M_jump (l : Launch) (dC : Nat → ClassId) (dI : Nat → Nat → Nat) (cI cC : ClassId) (m0 mt ms mr mk : Nat) (th yb bi d a b f : Int32) (str fk : Nat → Int32) (st : MT) (x1 : Int64) : Met l y_M_jump (Cond.code y_M_jump b_M_jump 3 none :: WT) ({ frames := 4, cells := 0, slots := 0, locals := 89 }) (va_Pc [.ref m0, .long x1] (fun U => mU dC dI cI cC m0 mt ms mr mk th yb bi d a b f str fk st U ∧ st.2.2.length + 23 ≤ 64)) (va_Qv (fun _ : Unit => True) (fun _ t => mwd dC dI cI cC m0 mt ms mr mk th yb bi d a b f str fk (g_M_jump bi d a b f x1 st) t.heap) (aM m0 mt ms mr mk)) 0 0 (aM m0 mt ms mr mk) := by
  refine va_MetF (cc := b_M_jump) (maxL := 3) (ret := none) (by decide +kernel) rfl ?_
  intro p e s m args below meth c s₁ B hml hv
  obtain ⟨rfl, ⟨hK, ap, ok, hw⟩, hlen⟩ := hv
  have hx := B.exec
  have hb := B.bytes
  have hr := B.returns
  have hts := atoms_spec (ws := (Cond.code y_M_jump b_M_jump 3 none :: WT)) B.pre
  have hT : ∀ w ∈ WT, w.before _ s = true := fun w h => hts w (inC w h)
  have hown : s.vm.findClass R_M = some m.cls := findClass_of_methodNamed B.named
  have hlocks := B.notSynchronized
  have hS : va_S (aM m0 mt ms mr mk) s.heap s.heap [] := va_S.rf
  have S : CallFix p m c b_M_jump 3 s _ (Cond.code y_M_jump b_M_jump 3 none :: WT) R_M := ⟨hx, hb, hml, hown, hts⟩
  have hl := lv_entry ([.ref m0, .long x1]) (n := 3) (Nat.le_of_ble_eq_true rfl)
  rw [lg_entry_eq]
  generalize (lg_sl ([.ref m0, .long x1]) ++ List.replicate (3 - (lg_sl ([.ref m0, .long x1])).length) Slot.unset).toArray = ls at hl ⊢
  have hl : lv_has ls 3 [(0, .ref m0), (1, .long x1)] := hl
  have hA : ∀ q, aM m0 mt ms mr mk q → aM m0 mt ms mr mk q := fun _ h => h
  refine lv_aload_n hx hb d_M_jump_0 rfl (lv_at hl 0 rfl) ?_
  refine lv_lload_n hx hb d_M_jump_1 rfl (lv_at hl 1 rfl) ?_
  refine call_M_name S inC m_833 ⟨(Nat.le_of_ble_eq_true rfl), (Nat.le_of_ble_eq_true rfl)⟩ hl.1 (Nat.le_of_ble_eq_true rfl) d_M_jump_2 ⟨(Nat.le_of_ble_eq_true rfl), (Nat.le_of_ble_eq_true rfl)⟩ hK ap ok hS hA hw (by omega) (fun H locs hw hS _ => ?_)
  have hL1 := sName_le x1 st
  refine lv_aload_n hx hb d_M_jump_5 rfl (lv_at hl 0 rfl) ?_
  refine lv_aload_n hx hb d_M_jump_6 rfl (lv_at hl 0 rfl) ?_
  refine lv_iconst (v := 3) hx hb d_M_jump_7 (by decide) ?_
  refine lv_iconst (v := 3) hx hb d_M_jump_8 (by decide) ?_
  refine call_M_part S inC m_809 ⟨(Nat.le_of_ble_eq_true rfl), (Nat.le_of_ble_eq_true rfl)⟩ hl.1 (Nat.le_of_ble_eq_true rfl) d_M_jump_9 ⟨(Nat.le_of_ble_eq_true rfl), (Nat.le_of_ble_eq_true rfl)⟩ hK hw ?_
  refine lv_iconst (v := 1) hx hb d_M_jump_12 (by decide) ?_
  refine lv_ishl hx hb d_M_jump_13 ?_
  refine lv_aload_n hx hb d_M_jump_14 rfl (lv_at hl 0 rfl) ?_
  refine lv_bipush (v := 11) hx hb d_M_jump_15 (by decide) ?_
  refine lv_iconst (v := 1) hx hb d_M_jump_17 (by decide) ?_
  refine call_M_part S inC m_809 ⟨(Nat.le_of_ble_eq_true rfl), (Nat.le_of_ble_eq_true rfl)⟩ hl.1 (Nat.le_of_ble_eq_true rfl) d_M_jump_18 ⟨(Nat.le_of_ble_eq_true rfl), (Nat.le_of_ble_eq_true rfl)⟩ hK hw ?_
  refine lv_iconst (v := 4) hx hb d_M_jump_21 (by decide) ?_
  refine lv_ishl hx hb d_M_jump_22 ?_
  refine lv_ior hx hb d_M_jump_23 ?_
  refine lv_aload_n hx hb d_M_jump_24 rfl (lv_at hl 0 rfl) ?_
  refine lv_iconst (v := 2) hx hb d_M_jump_25 (by decide) ?_
  refine lv_iconst (v := 1) hx hb d_M_jump_26 (by decide) ?_
  refine call_M_part S inC m_809 ⟨(Nat.le_of_ble_eq_true rfl), (Nat.le_of_ble_eq_true rfl)⟩ hl.1 (Nat.le_of_ble_eq_true rfl) d_M_jump_27 ⟨(Nat.le_of_ble_eq_true rfl), (Nat.le_of_ble_eq_true rfl)⟩ hK hw ?_
  refine lv_iconst (v := 5) hx hb d_M_jump_30 (by decide) ?_
  refine lv_ishl hx hb d_M_jump_31 ?_
  refine lv_ior hx hb d_M_jump_32 ?_
  refine lv_aload_n hx hb d_M_jump_33 rfl (lv_at hl 0 rfl) ?_
  refine lv_bipush (v := 7) hx hb d_M_jump_34 (by decide) ?_
  refine lv_iconst (v := 1) hx hb d_M_jump_36 (by decide) ?_
  refine call_M_part S inC m_809 ⟨(Nat.le_of_ble_eq_true rfl), (Nat.le_of_ble_eq_true rfl)⟩ hl.1 (Nat.le_of_ble_eq_true rfl) d_M_jump_37 ⟨(Nat.le_of_ble_eq_true rfl), (Nat.le_of_ble_eq_true rfl)⟩ hK hw ?_
  refine lv_bipush (v := 6) hx hb d_M_jump_40 (by decide) ?_
  refine lv_ishl hx hb d_M_jump_42 ?_
  refine lv_ior hx hb d_M_jump_43 ?_
  refine lv_aload_n hx hb d_M_jump_44 rfl (lv_at hl 0 rfl) ?_
  refine lv_bipush (v := 6) hx hb d_M_jump_45 (by decide) ?_
  refine lv_iconst (v := 1) hx hb d_M_jump_47 (by decide) ?_
  refine call_M_part S inC m_809 ⟨(Nat.le_of_ble_eq_true rfl), (Nat.le_of_ble_eq_true rfl)⟩ hl.1 (Nat.le_of_ble_eq_true rfl) d_M_jump_48 ⟨(Nat.le_of_ble_eq_true rfl), (Nat.le_of_ble_eq_true rfl)⟩ hK hw ?_
  refine lv_bipush (v := 7) hx hb d_M_jump_51 (by decide) ?_
  refine lv_ishl hx hb d_M_jump_53 ?_
  refine lv_ior hx hb d_M_jump_54 ?_
  refine lv_aload_n hx hb d_M_jump_55 rfl (lv_at hl 0 rfl) ?_
  refine lv_bipush (v := 9) hx hb d_M_jump_56 (by decide) ?_
  refine lv_iconst (v := 2) hx hb d_M_jump_58 (by decide) ?_
  refine call_M_part S inC m_809 ⟨(Nat.le_of_ble_eq_true rfl), (Nat.le_of_ble_eq_true rfl)⟩ hl.1 (Nat.le_of_ble_eq_true rfl) d_M_jump_59 ⟨(Nat.le_of_ble_eq_true rfl), (Nat.le_of_ble_eq_true rfl)⟩ hK hw ?_
  refine lv_bipush (v := 8) hx hb d_M_jump_62 (by decide) ?_
  refine lv_ishl hx hb d_M_jump_64 ?_
  refine lv_ior hx hb d_M_jump_65 ?_
  refine lv_aload_n hx hb d_M_jump_66 rfl (lv_at hl 0 rfl) ?_
  refine lv_bipush (v := 8) hx hb d_M_jump_67 (by decide) ?_
  refine lv_iconst (v := 1) hx hb d_M_jump_69 (by decide) ?_
  refine call_M_part S inC m_809 ⟨(Nat.le_of_ble_eq_true rfl), (Nat.le_of_ble_eq_true rfl)⟩ hl.1 (Nat.le_of_ble_eq_true rfl) d_M_jump_70 ⟨(Nat.le_of_ble_eq_true rfl), (Nat.le_of_ble_eq_true rfl)⟩ hK hw ?_
  refine lv_bipush (v := 10) hx hb d_M_jump_73 (by decide) ?_
  refine lv_ishl hx hb d_M_jump_75 ?_
  refine lv_ior hx hb d_M_jump_76 ?_
  refine lv_aload_n hx hb d_M_jump_77 rfl (lv_at hl 0 rfl) ?_
  refine lv_bipush (v := 12) hx hb d_M_jump_78 (by decide) ?_
  refine lv_iconst (v := 1) hx hb d_M_jump_80 (by decide) ?_
  refine call_M_part S inC m_809 ⟨(Nat.le_of_ble_eq_true rfl), (Nat.le_of_ble_eq_true rfl)⟩ hl.1 (Nat.le_of_ble_eq_true rfl) d_M_jump_81 ⟨(Nat.le_of_ble_eq_true rfl), (Nat.le_of_ble_eq_true rfl)⟩ hK hw ?_
  refine lv_ineg hx hb d_M_jump_84 ?_
  refine lv_bipush (v := 11) hx hb d_M_jump_85 (by decide) ?_
  refine lv_ishl hx hb d_M_jump_87 ?_
  refine lv_ior hx hb d_M_jump_88 ?_
  refine call_M_target S inC m_926 ⟨(Nat.le_of_ble_eq_true rfl), (Nat.le_of_ble_eq_true rfl)⟩ hl.1 (Nat.le_of_ble_eq_true rfl) d_M_jump_89 ⟨(Nat.le_of_ble_eq_true rfl), (Nat.le_of_ble_eq_true rfl)⟩ hK ap ok hS hA hw (by omega) (fun H locs hw hS _ => ?_)
  have hL2 := gl_M_target bi d a b f (((((((((f_M_part bi 3 3) <<< ((1 : Int32) &&& 31)) ||| ((f_M_part bi 11 1) <<< ((4 : Int32) &&& 31))) ||| ((f_M_part bi 2 1) <<< ((5 : Int32) &&& 31))) ||| ((f_M_part bi 7 1) <<< ((6 : Int32) &&& 31))) ||| ((f_M_part bi 6 1) <<< ((7 : Int32) &&& 31))) ||| ((f_M_part bi 9 2) <<< ((8 : Int32) &&& 31))) ||| ((f_M_part bi 8 1) <<< ((10 : Int32) &&& 31))) ||| ((-(f_M_part bi 12 1)) <<< ((11 : Int32) &&& 31))) (sName x1 st)
  exact W.vret hx hb hr (fun t ht hW => ⟨⟨(), rfl, trivial, mwd_at ht (mwd_eq (by rw [g_M_jump]) hw)⟩, hS.F ht⟩) hS.2.2 d_M_jump_92
theorem call_M_jump {p : Program} {l : Launch} {e : Env} {R : Room} {s : State} {m : MethodId} {args : Array Value} {below : List Frame} {meth : Method} {c : Code} {H : Heap} {locs : List Loc} {cells slots : Nat} {Q : State → Prop} {cc : ByteArray} {pc nL idx : Nat} {ls : Array Slot} {rest : List Value} {Ts : List Cond} {own : String} {A0 : Nat → Prop} {H0 : Heap} {dC : Nat → ClassId} {dI : Nat → Nat → Nat} {cI cC : ClassId} {m0 mt ms mr mk : Nat} {th yb bi d a b f : Int32} {str fk : Nat → Int32} {st : MT} {x1 : Int64} (S : CallFix p m c cc nL s args Ts own) (hTs : ∀ w ∈ WT, w ∈ Ts) (hlk : Cond.methodLink own idx y_M_jump ∈ WT) (hR : 4 + 1 ≤ R.frames ∧ 8 + (3 + 11) + 89 ≤ R.locals) (hsz : ls.size = nL) (hrm : (rest.map fun v => v.category).sum ≤ 8) (hdg : decode cc pc = .ok (.invokevirtual idx, 3)) (hc : cells ≤ R.cells ∧ slots ≤ R.slots) (hK : rK dC dI cI cC s) (ap : apM m0 mt ms mr mk) (ok : mOk d a b) (hS : va_S A0 H0 H locs) (hA : ∀ q, aM m0 mt ms mr mk q → A0 q) (hw : mwd dC dI cI cC m0 mt ms mr mk th yb bi d a b f str fk st H) (hlen : st.2.2.length + 23 ≤ 64) (kk : ∀ (H1 : Heap) (locs1 : List Loc), mwd dC dI cI cC m0 mt ms mr mk th yb bi d a b f str fk (g_M_jump bi d a b f x1 st) H1 → va_S A0 H0 H1 locs1 → (H.size ≤ H1.size ∧ ∀ q : Nat, q < H.size → ¬ aM m0 mt ms mr mk q → H1[q]? = H[q]?) → W p l e R s m args below meth c H1 locs1 cells slots Q (F0 m (pc + 3) ls (rest))) : W p l e R s m args below meth c H locs cells slots Q (F0 m pc ls (.long x1 :: .ref m0 :: rest)) :=
  va_callv (va_runV (As := [.long x1]) (rest := rest) S (c_M_jump l dC dI cI cC m0 mt ms mr mk th yb bi d a b f str fk st x1) (cwV 1 S.2.2.2.2 (gV hTs hlk m_991 m_42 m_52 m_992) rfl rfl rfl (by decide +kernel) hR) ⟨fun a U g mk q => ⟨q.1, ⟨q.2.1.blind, q.2.2⟩⟩, mwd.recv hK hw, fun U hU hW => ⟨rfl, ⟨mU.at hK ap ok hw hU hW, hlen⟩⟩⟩ rfl rfl hsz rfl (lv_room hrm) hdg hc) hS (fun q _ h => hA q h) hA (fun u t H1 locs1 ht hvm hp hB hz hk hS1 => kk H1 locs1 (by rw [← ht]; exact hB) hS1 ⟨hz, hk⟩)

def q_M_reckon_110 (bi d a b f x1 y2 y3 y4 : Int32) : Int64 :=
  if y4 = 0 then
    422877277795
  else
    if y4 = 1 then
      491496418915
    else
      if y4 = 2 then
        1919888995
      else
        431348592227
set_option maxRecDepth 100000 in
set_option maxHeartbeats 4000000 in
theorem rg_M_reckon_110 {p : Program} {l : Launch} {e : Env} {R : Room} {s : State} {m : MethodId} {args : Array Value} {below : List Frame} {meth : Method} {c : Code} {cells slots : Nat} {Q : State → Prop} {Ts : List Cond} {dC : Nat → ClassId} {dI : Nat → Nat → Nat} {cI cC : ClassId} {m0 mt ms mr mk : Nat} {th yb bi d a b f : Int32} {str fk : Nat → Int32} {st : MT} {H : Heap} {locs : List Loc} {ls : Array Slot} {x1 y2 y3 y4 : Int32} (S : CallFix p m c b_M_reckon 5 s args Ts R_M) (hTs : ∀ w ∈ WT, w ∈ Ts) (hT : ∀ w ∈ WT, w.before args s = true) (hfr : 1 ≤ R.frames) (hlo : 1 ≤ R.locals) (hc : cells ≤ R.cells ∧ slots ≤ R.slots) (hK : rK dC dI cI cC s) (hw : mwd dC dI cI cC m0 mt ms mr mk th yb bi d a b f str fk st H) (hl : lv_has ls 5 [(4, .int y4), (3, .int y3), (2, .int y2), (0, .ref m0), (1, .int x1)]) (kk : W p l e R s m args below meth c H locs cells slots Q (F0 m 146 ls (.long (q_M_reckon_110 bi d a b f x1 y2 y3 y4) :: [.ref m0]))) : W p l e R s m args below meth c H locs cells slots Q (F0 m 110 ls (.int y4 :: [.ref m0])) := by
  have hx := S.1
  have hb := S.2.1
  have hown := S.2.2.2.1
  refine lv_if_ne (tgt := 119) hx hb d_M_reckon_110 (by decide) (fun c_1 => ?_) (fun c_1 => ?_)
  · refine lv_iload hx hb d_M_reckon_119 (lv_at hl 0 rfl) ?_
    refine lv_iconst (v := 1) hx hb d_M_reckon_121 (by decide) ?_
    refine lv_icmp_ne (tgt := 131) hx hb d_M_reckon_122 (by decide) (fun c_2 => ?_) (fun c_2 => ?_)
    · refine lv_iload hx hb d_M_reckon_131 (lv_at hl 0 rfl) ?_
      refine lv_iconst (v := 2) hx hb d_M_reckon_133 (by decide) ?_
      refine lv_icmp_ne (tgt := 143) hx hb d_M_reckon_134 (by decide) (fun c_3 => ?_) (fun c_3 => ?_)
      · refine lv_ldc2 (v := 431348592227) hx hb hown (hT _ m_1010) d_M_reckon_143 ?_
        rw [q_M_reckon_110, if_neg c_1, if_neg c_2, if_neg c_3] at kk
        exact kk
      · refine lv_ldc2 (v := 1919888995) hx hb hown (hT _ m_1009) d_M_reckon_137 ?_
        refine lv_goto (tgt := 146) hx hb d_M_reckon_140 (by decide) ?_
        rw [q_M_reckon_110, if_neg c_1, if_neg c_2, if_pos c_3] at kk
        exact kk
    · refine lv_ldc2 (v := 491496418915) hx hb hown (hT _ m_1008) d_M_reckon_125 ?_
      refine lv_goto (tgt := 146) hx hb d_M_reckon_128 (by decide) ?_
      rw [q_M_reckon_110, if_neg c_1, if_pos c_2] at kk
      exact kk
  · refine lv_ldc2 (v := 422877277795) hx hb hown (hT _ m_1007) d_M_reckon_113 ?_
    refine lv_goto (tgt := 146) hx hb d_M_reckon_116 (by decide) ?_
    rw [q_M_reckon_110, if_pos c_1] at kk
    exact kk
def q_M_reckon_45 (bi d a b f x1 y2 y3 : Int32) : Int64 :=
  if x1 = 0 then
    115914497535587
  else
    if x1 = 1 then
      115867252895331
    else
      115880069508707
set_option maxRecDepth 100000 in
set_option maxHeartbeats 4000000 in
theorem rg_M_reckon_45 {p : Program} {l : Launch} {e : Env} {R : Room} {s : State} {m : MethodId} {args : Array Value} {below : List Frame} {meth : Method} {c : Code} {cells slots : Nat} {Q : State → Prop} {Ts : List Cond} {dC : Nat → ClassId} {dI : Nat → Nat → Nat} {cI cC : ClassId} {m0 mt ms mr mk : Nat} {th yb bi d a b f : Int32} {str fk : Nat → Int32} {st : MT} {H : Heap} {locs : List Loc} {ls : Array Slot} {x1 y2 y3 : Int32} (S : CallFix p m c b_M_reckon 5 s args Ts R_M) (hTs : ∀ w ∈ WT, w ∈ Ts) (hT : ∀ w ∈ WT, w.before args s = true) (hfr : 1 ≤ R.frames) (hlo : 1 ≤ R.locals) (hc : cells ≤ R.cells ∧ slots ≤ R.slots) (hK : rK dC dI cI cC s) (hw : mwd dC dI cI cC m0 mt ms mr mk th yb bi d a b f str fk st H) (hl : lv_has ls 5 [(3, .int y3), (2, .int y2), (0, .ref m0), (1, .int x1)]) (kk : W p l e R s m args below meth c H locs cells slots Q (F0 m 68 ls (.long (q_M_reckon_45 bi d a b f x1 y2 y3) :: [.ref m0]))) : W p l e R s m args below meth c H locs cells slots Q (F0 m 45 ls (.int x1 :: [.ref m0])) := by
  have hx := S.1
  have hb := S.2.1
  have hown := S.2.2.2.1
  refine lv_if_ne (tgt := 54) hx hb d_M_reckon_45 (by decide) (fun c_1 => ?_) (fun c_1 => ?_)
  · refine lv_iload_n hx hb d_M_reckon_54 rfl (lv_at hl 3 rfl) ?_
    refine lv_iconst (v := 1) hx hb d_M_reckon_55 (by decide) ?_
    refine lv_icmp_ne (tgt := 65) hx hb d_M_reckon_56 (by decide) (fun c_2 => ?_) (fun c_2 => ?_)
    · refine lv_ldc2 (v := 115880069508707) hx hb hown (hT _ m_1006) d_M_reckon_65 ?_
      rw [q_M_reckon_45, if_neg c_1, if_neg c_2] at kk
      exact kk
    · refine lv_ldc2 (v := 115867252895331) hx hb hown (hT _ m_1005) d_M_reckon_59 ?_
      refine lv_goto (tgt := 68) hx hb d_M_reckon_62 (by decide) ?_
      rw [q_M_reckon_45, if_neg c_1, if_pos c_2] at kk
      exact kk
  · refine lv_ldc2 (v := 115914497535587) hx hb hown (hT _ m_1004) d_M_reckon_48 ?_
    refine lv_goto (tgt := 68) hx hb d_M_reckon_51 (by decide) ?_
    rw [q_M_reckon_45, if_pos c_1] at kk
    exact kk
def q_M_reckon_79 (bi d a b f x1 y2 y3 : Int32) : Int32 :=
  if x1 = 2 then
    f_M_six bi
  else
    f_M_part bi 2 5
set_option maxRecDepth 100000 in
set_option maxHeartbeats 4000000 in
theorem rg_M_reckon_79 {p : Program} {l : Launch} {e : Env} {R : Room} {s : State} {m : MethodId} {args : Array Value} {below : List Frame} {meth : Method} {c : Code} {cells slots : Nat} {Q : State → Prop} {Ts : List Cond} {dC : Nat → ClassId} {dI : Nat → Nat → Nat} {cI cC : ClassId} {m0 mt ms mr mk : Nat} {th yb bi d a b f : Int32} {str fk : Nat → Int32} {st : MT} {H : Heap} {locs : List Loc} {ls : Array Slot} {x1 y2 y3 : Int32} (S : CallFix p m c b_M_reckon 5 s args Ts R_M) (hTs : ∀ w ∈ WT, w ∈ Ts) (hT : ∀ w ∈ WT, w.before args s = true) (hfr : 2 ≤ R.frames) (hlo : 42 ≤ R.locals) (hc : cells ≤ R.cells ∧ slots ≤ R.slots) (hK : rK dC dI cI cC s) (hw : mwd dC dI cI cC m0 mt ms mr mk th yb bi d a b f str fk st H) (hl : lv_has ls 5 [(3, .int y3), (2, .int y2), (0, .ref m0), (1, .int x1)]) (kk : W p l e R s m args below meth c H locs cells slots Q (F0 m 95 ls (.int (q_M_reckon_79 bi d a b f x1 y2 y3) :: [.ref m0]))) : W p l e R s m args below meth c H locs cells slots Q (F0 m 79 ls (.int 2 :: .int x1 :: [.ref m0])) := by
  have hx := S.1
  have hb := S.2.1
  have hown := S.2.2.2.1
  refine lv_icmp_ne (tgt := 89) hx hb d_M_reckon_79 (by decide) (fun c_1 => ?_) (fun c_1 => ?_)
  · refine lv_aload_n hx hb d_M_reckon_89 rfl (lv_at hl 2 rfl) ?_
    refine lv_iconst (v := 2) hx hb d_M_reckon_90 (by decide) ?_
    refine lv_iconst (v := 5) hx hb d_M_reckon_91 (by decide) ?_
    refine call_M_part S hTs m_809 ⟨by omega, by omega⟩ hl.1 (Nat.le_of_ble_eq_true rfl) d_M_reckon_92 hc hK hw ?_
    rw [q_M_reckon_79, if_neg c_1] at kk
    exact kk
  · refine lv_aload_n hx hb d_M_reckon_82 rfl (lv_at hl 2 rfl) ?_
    refine call_M_six S hTs m_983 ⟨by omega, by omega⟩ hl.1 (Nat.le_of_ble_eq_true rfl) d_M_reckon_83 hc hK hw ?_
    refine lv_goto (tgt := 95) hx hb d_M_reckon_86 (by decide) ?_
    rw [q_M_reckon_79, if_pos c_1] at kk
    exact kk
def g_M_reckon (bi d a b f : Int32) (x1 : Int32) (st : MT) : MT :=
  if x1 = 2 then
    if 3 ≤ x1 then
      sReg ((8 : Int32) + (f_M_part bi 2 3)) (sReg ((8 : Int32) + (f_M_part bi 7 3)) (sName (q_M_reckon_110 bi d a b f x1 ((8 : Int32) + (f_M_part bi 2 3)) ((8 : Int32) + (f_M_part bi 7 3)) (f_M_part bi 5 2)) st))
    else
      g_M_immediate bi d a b f (q_M_reckon_79 bi d a b f x1 ((8 : Int32) + (f_M_part bi 2 3)) ((8 : Int32) + (f_M_part bi 7 3))) (sReg ((8 : Int32) + (f_M_part bi 7 3)) (sName (q_M_reckon_45 bi d a b f x1 ((8 : Int32) + (f_M_part bi 2 3)) ((8 : Int32) + (f_M_part bi 7 3))) st))
  else
    if (f_M_part bi 12 1) = 1 then
      st
    else
      if 3 ≤ x1 then
        sReg ((8 : Int32) + (f_M_part bi 2 3)) (sReg ((8 : Int32) + (f_M_part bi 7 3)) (sName (q_M_reckon_110 bi d a b f x1 ((8 : Int32) + (f_M_part bi 2 3)) ((8 : Int32) + (f_M_part bi 7 3)) (f_M_part bi 5 2)) st))
      else
        g_M_immediate bi d a b f (q_M_reckon_79 bi d a b f x1 ((8 : Int32) + (f_M_part bi 2 3)) ((8 : Int32) + (f_M_part bi 7 3))) (sReg ((8 : Int32) + (f_M_part bi 7 3)) (sName (q_M_reckon_45 bi d a b f x1 ((8 : Int32) + (f_M_part bi 2 3)) ((8 : Int32) + (f_M_part bi 7 3))) st))
set_option maxRecDepth 20000 in
theorem gl_M_reckon (bi d a b f : Int32) (x1 : Int32) (st : MT) : (g_M_reckon bi d a b f x1 st).2.2.length ≤ st.2.2.length + 31 := by
  unfold g_M_reckon
  exact (it_len _ (it_len _ (by have h0 := sName_le (q_M_reckon_110 bi d a b f x1 ((8 : Int32) + (f_M_part bi 2 3)) ((8 : Int32) + (f_M_part bi 7 3)) (f_M_part bi 5 2)) st; have h1 := sReg_le ((8 : Int32) + (f_M_part bi 7 3)) (sName (q_M_reckon_110 bi d a b f x1 ((8 : Int32) + (f_M_part bi 2 3)) ((8 : Int32) + (f_M_part bi 7 3)) (f_M_part bi 5 2)) st); have h2 := sReg_le ((8 : Int32) + (f_M_part bi 2 3)) (sReg ((8 : Int32) + (f_M_part bi 7 3)) (sName (q_M_reckon_110 bi d a b f x1 ((8 : Int32) + (f_M_part bi 2 3)) ((8 : Int32) + (f_M_part bi 7 3)) (f_M_part bi 5 2)) st)); omega) (by have h0 := sName_le (q_M_reckon_45 bi d a b f x1 ((8 : Int32) + (f_M_part bi 2 3)) ((8 : Int32) + (f_M_part bi 7 3))) st; have h1 := sReg_le ((8 : Int32) + (f_M_part bi 7 3)) (sName (q_M_reckon_45 bi d a b f x1 ((8 : Int32) + (f_M_part bi 2 3)) ((8 : Int32) + (f_M_part bi 7 3))) st); have h2 := gl_M_immediate bi d a b f (q_M_reckon_79 bi d a b f x1 ((8 : Int32) + (f_M_part bi 2 3)) ((8 : Int32) + (f_M_part bi 7 3))) (sReg ((8 : Int32) + (f_M_part bi 7 3)) (sName (q_M_reckon_45 bi d a b f x1 ((8 : Int32) + (f_M_part bi 2 3)) ((8 : Int32) + (f_M_part bi 7 3))) st)); omega)) (it_len _ (by omega) (it_len _ (by have h0 := sName_le (q_M_reckon_110 bi d a b f x1 ((8 : Int32) + (f_M_part bi 2 3)) ((8 : Int32) + (f_M_part bi 7 3)) (f_M_part bi 5 2)) st; have h1 := sReg_le ((8 : Int32) + (f_M_part bi 7 3)) (sName (q_M_reckon_110 bi d a b f x1 ((8 : Int32) + (f_M_part bi 2 3)) ((8 : Int32) + (f_M_part bi 7 3)) (f_M_part bi 5 2)) st); have h2 := sReg_le ((8 : Int32) + (f_M_part bi 2 3)) (sReg ((8 : Int32) + (f_M_part bi 7 3)) (sName (q_M_reckon_110 bi d a b f x1 ((8 : Int32) + (f_M_part bi 2 3)) ((8 : Int32) + (f_M_part bi 7 3)) (f_M_part bi 5 2)) st)); omega) (by have h0 := sName_le (q_M_reckon_45 bi d a b f x1 ((8 : Int32) + (f_M_part bi 2 3)) ((8 : Int32) + (f_M_part bi 7 3))) st; have h1 := sReg_le ((8 : Int32) + (f_M_part bi 7 3)) (sName (q_M_reckon_45 bi d a b f x1 ((8 : Int32) + (f_M_part bi 2 3)) ((8 : Int32) + (f_M_part bi 7 3))) st); have h2 := gl_M_immediate bi d a b f (q_M_reckon_79 bi d a b f x1 ((8 : Int32) + (f_M_part bi 2 3)) ((8 : Int32) + (f_M_part bi 7 3))) (sReg ((8 : Int32) + (f_M_part bi 7 3)) (sName (q_M_reckon_45 bi d a b f x1 ((8 : Int32) + (f_M_part bi 2 3)) ((8 : Int32) + (f_M_part bi 7 3))) st)); omega))))
set_option maxRecDepth 100000 in
set_option maxHeartbeats 4000000 in
theorem c_M_reckon (l : Launch) (dC : Nat → ClassId) (dI : Nat → Nat → Nat) (cI cC : ClassId) (m0 mt ms mr mk : Nat) (th yb bi d a b f : Int32) (str fk : Nat → Int32) (st : MT) (x1 : Int32) : Met l y_M_reckon (Cond.code y_M_reckon b_M_reckon 5 none :: WT) ({ frames := 4, cells := 0, slots := 0, locals := 89 }) (va_Pc [.ref m0, .int x1] (fun U => mU dC dI cI cC m0 mt ms mr mk th yb bi d a b f str fk st U ∧ st.2.2.length + 31 ≤ 64)) (va_Qv (fun _ : Unit => True) (fun _ t => mwd dC dI cI cC m0 mt ms mr mk th yb bi d a b f str fk (g_M_reckon bi d a b f x1 st) t.heap) (aM m0 mt ms mr mk)) 0 0 (aM m0 mt ms mr mk) := by
  refine va_MetF (cc := b_M_reckon) (maxL := 5) (ret := none) (by decide +kernel) rfl ?_
  intro p e s m args below meth c s₁ B hml hv
  obtain ⟨rfl, ⟨hK, ap, ok, hw⟩, hlen⟩ := hv
  have hx := B.exec
  have hb := B.bytes
  have hr := B.returns
  have hts := atoms_spec (ws := (Cond.code y_M_reckon b_M_reckon 5 none :: WT)) B.pre
  have hT : ∀ w ∈ WT, w.before _ s = true := fun w h => hts w (inC w h)
  have hown : s.vm.findClass R_M = some m.cls := findClass_of_methodNamed B.named
  have hlocks := B.notSynchronized
  have hS : va_S (aM m0 mt ms mr mk) s.heap s.heap [] := va_S.rf
  have S : CallFix p m c b_M_reckon 5 s _ (Cond.code y_M_reckon b_M_reckon 5 none :: WT) R_M := ⟨hx, hb, hml, hown, hts⟩
  have hl := lv_entry ([.ref m0, .int x1]) (n := 5) (Nat.le_of_ble_eq_true rfl)
  rw [lg_entry_eq]
  generalize (lg_sl ([.ref m0, .int x1]) ++ List.replicate (5 - (lg_sl ([.ref m0, .int x1])).length) Slot.unset).toArray = ls at hl ⊢
  have hl : lv_has ls 5 [(0, .ref m0), (1, .int x1)] := hl
  have hA : ∀ q, aM m0 mt ms mr mk q → aM m0 mt ms mr mk q := fun _ h => h
  refine lv_bipush (v := 8) hx hb d_M_reckon_0 (by decide) ?_
  refine lv_aload_n hx hb d_M_reckon_2 rfl (lv_at hl 0 rfl) ?_
  refine lv_iconst (v := 2) hx hb d_M_reckon_3 (by decide) ?_
  refine lv_iconst (v := 3) hx hb d_M_reckon_4 (by decide) ?_
  refine call_M_part S inC m_809 ⟨(Nat.le_of_ble_eq_true rfl), (Nat.le_of_ble_eq_true rfl)⟩ hl.1 (Nat.le_of_ble_eq_true rfl) d_M_reckon_5 ⟨(Nat.le_of_ble_eq_true rfl), (Nat.le_of_ble_eq_true rfl)⟩ hK hw ?_
  refine lv_iadd hx hb d_M_reckon_8 ?_
  refine lv_istore_n (lv' := [(2, .int ((8 : Int32) + (f_M_part bi 2 3))), (0, .ref m0), (1, .int x1)]) hx hb d_M_reckon_9 rfl hl (by decide) rfl (fun ls hl => ?_)
  refine lv_bipush (v := 8) hx hb d_M_reckon_10 (by decide) ?_
  refine lv_aload_n hx hb d_M_reckon_12 rfl (lv_at hl 1 rfl) ?_
  refine lv_bipush (v := 7) hx hb d_M_reckon_13 (by decide) ?_
  refine lv_iconst (v := 3) hx hb d_M_reckon_15 (by decide) ?_
  refine call_M_part S inC m_809 ⟨(Nat.le_of_ble_eq_true rfl), (Nat.le_of_ble_eq_true rfl)⟩ hl.1 (Nat.le_of_ble_eq_true rfl) d_M_reckon_16 ⟨(Nat.le_of_ble_eq_true rfl), (Nat.le_of_ble_eq_true rfl)⟩ hK hw ?_
  refine lv_iadd hx hb d_M_reckon_19 ?_
  refine lv_istore_n (lv' := [(3, .int ((8 : Int32) + (f_M_part bi 7 3))), (2, .int ((8 : Int32) + (f_M_part bi 2 3))), (0, .ref m0), (1, .int x1)]) hx hb d_M_reckon_20 rfl hl (by decide) rfl (fun ls hl => ?_)
  refine lv_iload_n hx hb d_M_reckon_21 rfl (lv_at hl 3 rfl) ?_
  refine lv_iconst (v := 2) hx hb d_M_reckon_22 (by decide) ?_
  refine lv_icmp_eq (tgt := 38) hx hb d_M_reckon_23 (by decide) (fun c_1 => ?_) (fun c_1 => ?_)
  · refine lv_iload_n hx hb d_M_reckon_38 rfl (lv_at hl 3 rfl) ?_
    refine lv_iconst (v := 3) hx hb d_M_reckon_39 (by decide) ?_
    refine lv_icmp_ge (tgt := 99) hx hb d_M_reckon_40 (by decide) (fun c_2 => ?_) (fun c_2 => ?_)
    · refine lv_aload_n hx hb d_M_reckon_99 rfl (lv_at hl 2 rfl) ?_
      refine lv_iconst (v := 5) hx hb d_M_reckon_100 (by decide) ?_
      refine lv_iconst (v := 2) hx hb d_M_reckon_101 (by decide) ?_
      refine call_M_part S inC m_809 ⟨(Nat.le_of_ble_eq_true rfl), (Nat.le_of_ble_eq_true rfl)⟩ hl.1 (Nat.le_of_ble_eq_true rfl) d_M_reckon_102 ⟨(Nat.le_of_ble_eq_true rfl), (Nat.le_of_ble_eq_true rfl)⟩ hK hw ?_
      refine lv_istore (lv' := [(4, .int (f_M_part bi 5 2)), (3, .int ((8 : Int32) + (f_M_part bi 7 3))), (2, .int ((8 : Int32) + (f_M_part bi 2 3))), (0, .ref m0), (1, .int x1)]) hx hb d_M_reckon_105 hl (by decide) rfl (fun ls hl => ?_)
      refine lv_aload_n hx hb d_M_reckon_107 rfl (lv_at hl 3 rfl) ?_
      refine lv_iload hx hb d_M_reckon_108 (lv_at hl 0 rfl) ?_
      refine rg_M_reckon_110 S inC hT (Nat.le_of_ble_eq_true rfl) (Nat.le_of_ble_eq_true rfl) ⟨(Nat.le_of_ble_eq_true rfl), (Nat.le_of_ble_eq_true rfl)⟩ hK hw hl ?_
      refine call_M_name S inC m_833 ⟨(Nat.le_of_ble_eq_true rfl), (Nat.le_of_ble_eq_true rfl)⟩ hl.1 (Nat.le_of_ble_eq_true rfl) d_M_reckon_146 ⟨(Nat.le_of_ble_eq_true rfl), (Nat.le_of_ble_eq_true rfl)⟩ hK ap ok hS hA hw (by omega) (fun H locs hw hS _ => ?_)
      have hL1 := sName_le (q_M_reckon_110 bi d a b f x1 ((8 : Int32) + (f_M_part bi 2 3)) ((8 : Int32) + (f_M_part bi 7 3)) (f_M_part bi 5 2)) st
      refine lv_aload_n hx hb d_M_reckon_149 rfl (lv_at hl 3 rfl) ?_
      refine lv_iload_n hx hb d_M_reckon_150 rfl (lv_at hl 1 rfl) ?_
      refine call_M_register S inC m_846 ⟨(Nat.le_of_ble_eq_true rfl), (Nat.le_of_ble_eq_true rfl)⟩ hl.1 (Nat.le_of_ble_eq_true rfl) d_M_reckon_151 ⟨(Nat.le_of_ble_eq_true rfl), (Nat.le_of_ble_eq_true rfl)⟩ hK ap ok hS hA hw (lo_in _ _) (by omega) (fun H locs hw hS _ => ?_)
      have hL2 := sReg_le ((8 : Int32) + (f_M_part bi 7 3)) (sName (q_M_reckon_110 bi d a b f x1 ((8 : Int32) + (f_M_part bi 2 3)) ((8 : Int32) + (f_M_part bi 7 3)) (f_M_part bi 5 2)) st)
      refine lv_aload_n hx hb d_M_reckon_154 rfl (lv_at hl 3 rfl) ?_
      refine lv_iload_n hx hb d_M_reckon_155 rfl (lv_at hl 2 rfl) ?_
      refine call_M_register S inC m_846 ⟨(Nat.le_of_ble_eq_true rfl), (Nat.le_of_ble_eq_true rfl)⟩ hl.1 (Nat.le_of_ble_eq_true rfl) d_M_reckon_156 ⟨(Nat.le_of_ble_eq_true rfl), (Nat.le_of_ble_eq_true rfl)⟩ hK ap ok hS hA hw (lo_in _ _) (by omega) (fun H locs hw hS _ => ?_)
      have hL3 := sReg_le ((8 : Int32) + (f_M_part bi 2 3)) (sReg ((8 : Int32) + (f_M_part bi 7 3)) (sName (q_M_reckon_110 bi d a b f x1 ((8 : Int32) + (f_M_part bi 2 3)) ((8 : Int32) + (f_M_part bi 7 3)) (f_M_part bi 5 2)) st))
      exact W.vret hx hb hr (fun t ht hW => ⟨⟨(), rfl, trivial, mwd_at ht (mwd_eq (by rw [g_M_reckon, if_pos c_1, if_pos c_2]) hw)⟩, hS.F ht⟩) hS.2.2 d_M_reckon_159
    · refine lv_aload_n hx hb d_M_reckon_43 rfl (lv_at hl 2 rfl) ?_
      refine lv_iload_n hx hb d_M_reckon_44 rfl (lv_at hl 3 rfl) ?_
      refine rg_M_reckon_45 S inC hT (Nat.le_of_ble_eq_true rfl) (Nat.le_of_ble_eq_true rfl) ⟨(Nat.le_of_ble_eq_true rfl), (Nat.le_of_ble_eq_true rfl)⟩ hK hw hl ?_
      refine call_M_name S inC m_833 ⟨(Nat.le_of_ble_eq_true rfl), (Nat.le_of_ble_eq_true rfl)⟩ hl.1 (Nat.le_of_ble_eq_true rfl) d_M_reckon_68 ⟨(Nat.le_of_ble_eq_true rfl), (Nat.le_of_ble_eq_true rfl)⟩ hK ap ok hS hA hw (by omega) (fun H locs hw hS _ => ?_)
      have hL4 := sName_le (q_M_reckon_45 bi d a b f x1 ((8 : Int32) + (f_M_part bi 2 3)) ((8 : Int32) + (f_M_part bi 7 3))) st
      refine lv_aload_n hx hb d_M_reckon_71 rfl (lv_at hl 2 rfl) ?_
      refine lv_iload_n hx hb d_M_reckon_72 rfl (lv_at hl 0 rfl) ?_
      refine call_M_register S inC m_846 ⟨(Nat.le_of_ble_eq_true rfl), (Nat.le_of_ble_eq_true rfl)⟩ hl.1 (Nat.le_of_ble_eq_true rfl) d_M_reckon_73 ⟨(Nat.le_of_ble_eq_true rfl), (Nat.le_of_ble_eq_true rfl)⟩ hK ap ok hS hA hw (lo_in _ _) (by omega) (fun H locs hw hS _ => ?_)
      have hL5 := sReg_le ((8 : Int32) + (f_M_part bi 7 3)) (sName (q_M_reckon_45 bi d a b f x1 ((8 : Int32) + (f_M_part bi 2 3)) ((8 : Int32) + (f_M_part bi 7 3))) st)
      refine lv_aload_n hx hb d_M_reckon_76 rfl (lv_at hl 2 rfl) ?_
      refine lv_iload_n hx hb d_M_reckon_77 rfl (lv_at hl 3 rfl) ?_
      refine lv_iconst (v := 2) hx hb d_M_reckon_78 (by decide) ?_
      refine rg_M_reckon_79 S inC hT (Nat.le_of_ble_eq_true rfl) (Nat.le_of_ble_eq_true rfl) ⟨(Nat.le_of_ble_eq_true rfl), (Nat.le_of_ble_eq_true rfl)⟩ hK hw hl ?_
      refine call_M_immediate S inC m_877 ⟨(Nat.le_of_ble_eq_true rfl), (Nat.le_of_ble_eq_true rfl)⟩ hl.1 (Nat.le_of_ble_eq_true rfl) d_M_reckon_95 ⟨(Nat.le_of_ble_eq_true rfl), (Nat.le_of_ble_eq_true rfl)⟩ hK ap ok hS hA hw (by omega) (fun H locs hw hS _ => ?_)
      have hL6 := gl_M_immediate bi d a b f (q_M_reckon_79 bi d a b f x1 ((8 : Int32) + (f_M_part bi 2 3)) ((8 : Int32) + (f_M_part bi 7 3))) (sReg ((8 : Int32) + (f_M_part bi 7 3)) (sName (q_M_reckon_45 bi d a b f x1 ((8 : Int32) + (f_M_part bi 2 3)) ((8 : Int32) + (f_M_part bi 7 3))) st))
      exact W.vret hx hb hr (fun t ht hW => ⟨⟨(), rfl, trivial, mwd_at ht (mwd_eq (by rw [g_M_reckon, if_pos c_1, if_neg c_2]) hw)⟩, hS.F ht⟩) hS.2.2 d_M_reckon_98
  · refine lv_aload_n hx hb d_M_reckon_26 rfl (lv_at hl 2 rfl) ?_
    refine lv_bipush (v := 12) hx hb d_M_reckon_27 (by decide) ?_
    refine lv_iconst (v := 1) hx hb d_M_reckon_29 (by decide) ?_
    refine call_M_part S inC m_809 ⟨(Nat.le_of_ble_eq_true rfl), (Nat.le_of_ble_eq_true rfl)⟩ hl.1 (Nat.le_of_ble_eq_true rfl) d_M_reckon_30 ⟨(Nat.le_of_ble_eq_true rfl), (Nat.le_of_ble_eq_true rfl)⟩ hK hw ?_
    refine lv_iconst (v := 1) hx hb d_M_reckon_33 (by decide) ?_
    refine lv_icmp_ne (tgt := 38) hx hb d_M_reckon_34 (by decide) (fun c_3 => ?_) (fun c_3 => ?_)
    · refine lv_iload_n hx hb d_M_reckon_38 rfl (lv_at hl 3 rfl) ?_
      refine lv_iconst (v := 3) hx hb d_M_reckon_39 (by decide) ?_
      refine lv_icmp_ge (tgt := 99) hx hb d_M_reckon_40 (by decide) (fun c_4 => ?_) (fun c_4 => ?_)
      · refine lv_aload_n hx hb d_M_reckon_99 rfl (lv_at hl 2 rfl) ?_
        refine lv_iconst (v := 5) hx hb d_M_reckon_100 (by decide) ?_
        refine lv_iconst (v := 2) hx hb d_M_reckon_101 (by decide) ?_
        refine call_M_part S inC m_809 ⟨(Nat.le_of_ble_eq_true rfl), (Nat.le_of_ble_eq_true rfl)⟩ hl.1 (Nat.le_of_ble_eq_true rfl) d_M_reckon_102 ⟨(Nat.le_of_ble_eq_true rfl), (Nat.le_of_ble_eq_true rfl)⟩ hK hw ?_
        refine lv_istore (lv' := [(4, .int (f_M_part bi 5 2)), (3, .int ((8 : Int32) + (f_M_part bi 7 3))), (2, .int ((8 : Int32) + (f_M_part bi 2 3))), (0, .ref m0), (1, .int x1)]) hx hb d_M_reckon_105 hl (by decide) rfl (fun ls hl => ?_)
        refine lv_aload_n hx hb d_M_reckon_107 rfl (lv_at hl 3 rfl) ?_
        refine lv_iload hx hb d_M_reckon_108 (lv_at hl 0 rfl) ?_
        refine rg_M_reckon_110 S inC hT (Nat.le_of_ble_eq_true rfl) (Nat.le_of_ble_eq_true rfl) ⟨(Nat.le_of_ble_eq_true rfl), (Nat.le_of_ble_eq_true rfl)⟩ hK hw hl ?_
        refine call_M_name S inC m_833 ⟨(Nat.le_of_ble_eq_true rfl), (Nat.le_of_ble_eq_true rfl)⟩ hl.1 (Nat.le_of_ble_eq_true rfl) d_M_reckon_146 ⟨(Nat.le_of_ble_eq_true rfl), (Nat.le_of_ble_eq_true rfl)⟩ hK ap ok hS hA hw (by omega) (fun H locs hw hS _ => ?_)
        have hL7 := sName_le (q_M_reckon_110 bi d a b f x1 ((8 : Int32) + (f_M_part bi 2 3)) ((8 : Int32) + (f_M_part bi 7 3)) (f_M_part bi 5 2)) st
        refine lv_aload_n hx hb d_M_reckon_149 rfl (lv_at hl 3 rfl) ?_
        refine lv_iload_n hx hb d_M_reckon_150 rfl (lv_at hl 1 rfl) ?_
        refine call_M_register S inC m_846 ⟨(Nat.le_of_ble_eq_true rfl), (Nat.le_of_ble_eq_true rfl)⟩ hl.1 (Nat.le_of_ble_eq_true rfl) d_M_reckon_151 ⟨(Nat.le_of_ble_eq_true rfl), (Nat.le_of_ble_eq_true rfl)⟩ hK ap ok hS hA hw (lo_in _ _) (by omega) (fun H locs hw hS _ => ?_)
        have hL8 := sReg_le ((8 : Int32) + (f_M_part bi 7 3)) (sName (q_M_reckon_110 bi d a b f x1 ((8 : Int32) + (f_M_part bi 2 3)) ((8 : Int32) + (f_M_part bi 7 3)) (f_M_part bi 5 2)) st)
        refine lv_aload_n hx hb d_M_reckon_154 rfl (lv_at hl 3 rfl) ?_
        refine lv_iload_n hx hb d_M_reckon_155 rfl (lv_at hl 2 rfl) ?_
        refine call_M_register S inC m_846 ⟨(Nat.le_of_ble_eq_true rfl), (Nat.le_of_ble_eq_true rfl)⟩ hl.1 (Nat.le_of_ble_eq_true rfl) d_M_reckon_156 ⟨(Nat.le_of_ble_eq_true rfl), (Nat.le_of_ble_eq_true rfl)⟩ hK ap ok hS hA hw (lo_in _ _) (by omega) (fun H locs hw hS _ => ?_)
        have hL9 := sReg_le ((8 : Int32) + (f_M_part bi 2 3)) (sReg ((8 : Int32) + (f_M_part bi 7 3)) (sName (q_M_reckon_110 bi d a b f x1 ((8 : Int32) + (f_M_part bi 2 3)) ((8 : Int32) + (f_M_part bi 7 3)) (f_M_part bi 5 2)) st))
        exact W.vret hx hb hr (fun t ht hW => ⟨⟨(), rfl, trivial, mwd_at ht (mwd_eq (by rw [g_M_reckon, if_neg c_1, if_neg c_3, if_pos c_4]) hw)⟩, hS.F ht⟩) hS.2.2 d_M_reckon_159
      · refine lv_aload_n hx hb d_M_reckon_43 rfl (lv_at hl 2 rfl) ?_
        refine lv_iload_n hx hb d_M_reckon_44 rfl (lv_at hl 3 rfl) ?_
        refine rg_M_reckon_45 S inC hT (Nat.le_of_ble_eq_true rfl) (Nat.le_of_ble_eq_true rfl) ⟨(Nat.le_of_ble_eq_true rfl), (Nat.le_of_ble_eq_true rfl)⟩ hK hw hl ?_
        refine call_M_name S inC m_833 ⟨(Nat.le_of_ble_eq_true rfl), (Nat.le_of_ble_eq_true rfl)⟩ hl.1 (Nat.le_of_ble_eq_true rfl) d_M_reckon_68 ⟨(Nat.le_of_ble_eq_true rfl), (Nat.le_of_ble_eq_true rfl)⟩ hK ap ok hS hA hw (by omega) (fun H locs hw hS _ => ?_)
        have hL10 := sName_le (q_M_reckon_45 bi d a b f x1 ((8 : Int32) + (f_M_part bi 2 3)) ((8 : Int32) + (f_M_part bi 7 3))) st
        refine lv_aload_n hx hb d_M_reckon_71 rfl (lv_at hl 2 rfl) ?_
        refine lv_iload_n hx hb d_M_reckon_72 rfl (lv_at hl 0 rfl) ?_
        refine call_M_register S inC m_846 ⟨(Nat.le_of_ble_eq_true rfl), (Nat.le_of_ble_eq_true rfl)⟩ hl.1 (Nat.le_of_ble_eq_true rfl) d_M_reckon_73 ⟨(Nat.le_of_ble_eq_true rfl), (Nat.le_of_ble_eq_true rfl)⟩ hK ap ok hS hA hw (lo_in _ _) (by omega) (fun H locs hw hS _ => ?_)
        have hL11 := sReg_le ((8 : Int32) + (f_M_part bi 7 3)) (sName (q_M_reckon_45 bi d a b f x1 ((8 : Int32) + (f_M_part bi 2 3)) ((8 : Int32) + (f_M_part bi 7 3))) st)
        refine lv_aload_n hx hb d_M_reckon_76 rfl (lv_at hl 2 rfl) ?_
        refine lv_iload_n hx hb d_M_reckon_77 rfl (lv_at hl 3 rfl) ?_
        refine lv_iconst (v := 2) hx hb d_M_reckon_78 (by decide) ?_
        refine rg_M_reckon_79 S inC hT (Nat.le_of_ble_eq_true rfl) (Nat.le_of_ble_eq_true rfl) ⟨(Nat.le_of_ble_eq_true rfl), (Nat.le_of_ble_eq_true rfl)⟩ hK hw hl ?_
        refine call_M_immediate S inC m_877 ⟨(Nat.le_of_ble_eq_true rfl), (Nat.le_of_ble_eq_true rfl)⟩ hl.1 (Nat.le_of_ble_eq_true rfl) d_M_reckon_95 ⟨(Nat.le_of_ble_eq_true rfl), (Nat.le_of_ble_eq_true rfl)⟩ hK ap ok hS hA hw (by omega) (fun H locs hw hS _ => ?_)
        have hL12 := gl_M_immediate bi d a b f (q_M_reckon_79 bi d a b f x1 ((8 : Int32) + (f_M_part bi 2 3)) ((8 : Int32) + (f_M_part bi 7 3))) (sReg ((8 : Int32) + (f_M_part bi 7 3)) (sName (q_M_reckon_45 bi d a b f x1 ((8 : Int32) + (f_M_part bi 2 3)) ((8 : Int32) + (f_M_part bi 7 3))) st))
        exact W.vret hx hb hr (fun t ht hW => ⟨⟨(), rfl, trivial, mwd_at ht (mwd_eq (by rw [g_M_reckon, if_neg c_1, if_neg c_3, if_neg c_4]) hw)⟩, hS.F ht⟩) hS.2.2 d_M_reckon_98
    · exact W.vret hx hb hr (fun t ht hW => ⟨⟨(), rfl, trivial, mwd_at ht (mwd_eq (by rw [g_M_reckon, if_neg c_1, if_pos c_3]) hw)⟩, hS.F ht⟩) hS.2.2 d_M_reckon_37
theorem call_M_reckon {p : Program} {l : Launch} {e : Env} {R : Room} {s : State} {m : MethodId} {args : Array Value} {below : List Frame} {meth : Method} {c : Code} {H : Heap} {locs : List Loc} {cells slots : Nat} {Q : State → Prop} {cc : ByteArray} {pc nL idx : Nat} {ls : Array Slot} {rest : List Value} {Ts : List Cond} {own : String} {A0 : Nat → Prop} {H0 : Heap} {dC : Nat → ClassId} {dI : Nat → Nat → Nat} {cI cC : ClassId} {m0 mt ms mr mk : Nat} {th yb bi d a b f : Int32} {str fk : Nat → Int32} {st : MT} {x1 : Int32} (S : CallFix p m c cc nL s args Ts own) (hTs : ∀ w ∈ WT, w ∈ Ts) (hlk : Cond.methodLink own idx y_M_reckon ∈ WT) (hR : 4 + 1 ≤ R.frames ∧ 8 + (5 + 11) + 89 ≤ R.locals) (hsz : ls.size = nL) (hrm : (rest.map fun v => v.category).sum ≤ 8) (hdg : decode cc pc = .ok (.invokevirtual idx, 3)) (hc : cells ≤ R.cells ∧ slots ≤ R.slots) (hK : rK dC dI cI cC s) (ap : apM m0 mt ms mr mk) (ok : mOk d a b) (hS : va_S A0 H0 H locs) (hA : ∀ q, aM m0 mt ms mr mk q → A0 q) (hw : mwd dC dI cI cC m0 mt ms mr mk th yb bi d a b f str fk st H) (hlen : st.2.2.length + 31 ≤ 64) (kk : ∀ (H1 : Heap) (locs1 : List Loc), mwd dC dI cI cC m0 mt ms mr mk th yb bi d a b f str fk (g_M_reckon bi d a b f x1 st) H1 → va_S A0 H0 H1 locs1 → (H.size ≤ H1.size ∧ ∀ q : Nat, q < H.size → ¬ aM m0 mt ms mr mk q → H1[q]? = H[q]?) → W p l e R s m args below meth c H1 locs1 cells slots Q (F0 m (pc + 3) ls (rest))) : W p l e R s m args below meth c H locs cells slots Q (F0 m pc ls (.int x1 :: .ref m0 :: rest)) :=
  va_callv (va_runV (As := [.int x1]) (rest := rest) S (c_M_reckon l dC dI cI cC m0 mt ms mr mk th yb bi d a b f str fk st x1) (cwV 1 S.2.2.2.2 (gV hTs hlk m_1002 m_44 m_52 m_1003) rfl rfl rfl (by decide +kernel) hR) ⟨fun a U g mk q => ⟨q.1, ⟨q.2.1.blind, q.2.2⟩⟩, mwd.recv hK hw, fun U hU hW => ⟨rfl, ⟨mU.at hK ap ok hw hU hW, hlen⟩⟩⟩ rfl rfl hsz rfl (lv_room hrm) hdg hc) hS (fun q _ h => hA q h) hA (fun u t H1 locs1 ht hvm hp hB hz hk hS1 => kk H1 locs1 (by rw [← ht]; exact hB) hS1 ⟨hz, hk⟩)

def u_M_upper_50 (bi d a b f : Int32) : Int32 := (((((f_M_part bi 6 1) <<< ((4 : Int32) &&& 31)) ||| ((f_M_part bi 5 1) <<< ((6 : Int32) &&& 31))) ||| ((f_M_part bi 3 2) <<< ((7 : Int32) &&& 31))) ||| ((f_M_part bi 2 1) <<< ((5 : Int32) &&& 31))) ||| ((-(f_M_part bi 12 1)) <<< ((9 : Int32) &&& 31))
def g_M_upper (bi d a b f : Int32)  (st : MT) : MT :=
  if d = 2 then
    if (u_M_upper_50 bi d a b f) = 0 then
      st
    else
      if d = 2 then
        g_M_immediate bi d a b f (u_M_upper_50 bi d a b f) (sSay 28787 (sName 3905018231808667235 st))
      else
        g_M_immediate bi d a b f (f_M_six bi) (sReg d (sName 452941590115 st))
  else
    if (f_M_six bi) = 0 then
      st
    else
      if d = 2 then
        g_M_immediate bi d a b f (u_M_upper_50 bi d a b f) (sSay 28787 (sName 3905018231808667235 st))
      else
        g_M_immediate bi d a b f (f_M_six bi) (sReg d (sName 452941590115 st))
set_option maxRecDepth 20000 in
theorem gl_M_upper (bi d a b f : Int32)  (st : MT) : (g_M_upper bi d a b f  st).2.2.length ≤ st.2.2.length + 31 := by
  unfold g_M_upper
  exact (it_len _ (it_len _ (by omega) (it_len _ (by have h0 := sName_le 3905018231808667235 st; have h1 := sSay_le 28787 (sName 3905018231808667235 st); have h2 := gl_M_immediate bi d a b f (u_M_upper_50 bi d a b f) (sSay 28787 (sName 3905018231808667235 st)); omega) (by have h0 := sName_le 452941590115 st; have h1 := sReg_le d (sName 452941590115 st); have h2 := gl_M_immediate bi d a b f (f_M_six bi) (sReg d (sName 452941590115 st)); omega))) (it_len _ (by omega) (it_len _ (by have h0 := sName_le 3905018231808667235 st; have h1 := sSay_le 28787 (sName 3905018231808667235 st); have h2 := gl_M_immediate bi d a b f (u_M_upper_50 bi d a b f) (sSay 28787 (sName 3905018231808667235 st)); omega) (by have h0 := sName_le 452941590115 st; have h1 := sReg_le d (sName 452941590115 st); have h2 := gl_M_immediate bi d a b f (f_M_six bi) (sReg d (sName 452941590115 st)); omega))))
set_option maxRecDepth 100000 in
set_option maxHeartbeats 4000000 in
theorem c_M_upper (l : Launch) (dC : Nat → ClassId) (dI : Nat → Nat → Nat) (cI cC : ClassId) (m0 mt ms mr mk : Nat) (th yb bi d a b f : Int32) (str fk : Nat → Int32) (st : MT)  : Met l y_M_upper (Cond.code y_M_upper b_M_upper 2 none :: WT) ({ frames := 4, cells := 0, slots := 0, locals := 89 }) (va_Pc [.ref m0] (fun U => mU dC dI cI cC m0 mt ms mr mk th yb bi d a b f str fk st U ∧ st.2.2.length + 31 ≤ 64)) (va_Qv (fun _ : Unit => True) (fun _ t => mwd dC dI cI cC m0 mt ms mr mk th yb bi d a b f str fk (g_M_upper bi d a b f  st) t.heap) (aM m0 mt ms mr mk)) 0 0 (aM m0 mt ms mr mk) := by
  refine va_MetF (cc := b_M_upper) (maxL := 2) (ret := none) (by decide +kernel) rfl ?_
  intro p e s m args below meth c s₁ B hml hv
  obtain ⟨rfl, ⟨hK, ap, ok, hw⟩, hlen⟩ := hv
  have hx := B.exec
  have hb := B.bytes
  have hr := B.returns
  have hts := atoms_spec (ws := (Cond.code y_M_upper b_M_upper 2 none :: WT)) B.pre
  have hT : ∀ w ∈ WT, w.before _ s = true := fun w h => hts w (inC w h)
  have hown : s.vm.findClass R_M = some m.cls := findClass_of_methodNamed B.named
  have hlocks := B.notSynchronized
  have hS : va_S (aM m0 mt ms mr mk) s.heap s.heap [] := va_S.rf
  have S : CallFix p m c b_M_upper 2 s _ (Cond.code y_M_upper b_M_upper 2 none :: WT) R_M := ⟨hx, hb, hml, hown, hts⟩
  have hl := lv_entry ([.ref m0]) (n := 2) (Nat.le_of_ble_eq_true rfl)
  rw [lg_entry_eq]
  generalize (lg_sl ([.ref m0]) ++ List.replicate (2 - (lg_sl ([.ref m0])).length) Slot.unset).toArray = ls at hl ⊢
  have hl : lv_has ls 2 [(0, .ref m0)] := hl
  have hA : ∀ q, aM m0 mt ms mr mk q → aM m0 mt ms mr mk q := fun _ h => h
  refine lv_aload_n hx hb d_M_upper_0 rfl (lv_at hl 0 rfl) ?_
  refine lv_bipush (v := 6) hx hb d_M_upper_1 (by decide) ?_
  refine lv_iconst (v := 1) hx hb d_M_upper_3 (by decide) ?_
  refine call_M_part S inC m_809 ⟨(Nat.le_of_ble_eq_true rfl), (Nat.le_of_ble_eq_true rfl)⟩ hl.1 (Nat.le_of_ble_eq_true rfl) d_M_upper_4 ⟨(Nat.le_of_ble_eq_true rfl), (Nat.le_of_ble_eq_true rfl)⟩ hK hw ?_
  refine lv_iconst (v := 4) hx hb d_M_upper_7 (by decide) ?_
  refine lv_ishl hx hb d_M_upper_8 ?_
  refine lv_aload_n hx hb d_M_upper_9 rfl (lv_at hl 0 rfl) ?_
  refine lv_iconst (v := 5) hx hb d_M_upper_10 (by decide) ?_
  refine lv_iconst (v := 1) hx hb d_M_upper_11 (by decide) ?_
  refine call_M_part S inC m_809 ⟨(Nat.le_of_ble_eq_true rfl), (Nat.le_of_ble_eq_true rfl)⟩ hl.1 (Nat.le_of_ble_eq_true rfl) d_M_upper_12 ⟨(Nat.le_of_ble_eq_true rfl), (Nat.le_of_ble_eq_true rfl)⟩ hK hw ?_
  refine lv_bipush (v := 6) hx hb d_M_upper_15 (by decide) ?_
  refine lv_ishl hx hb d_M_upper_17 ?_
  refine lv_ior hx hb d_M_upper_18 ?_
  refine lv_aload_n hx hb d_M_upper_19 rfl (lv_at hl 0 rfl) ?_
  refine lv_iconst (v := 3) hx hb d_M_upper_20 (by decide) ?_
  refine lv_iconst (v := 2) hx hb d_M_upper_21 (by decide) ?_
  refine call_M_part S inC m_809 ⟨(Nat.le_of_ble_eq_true rfl), (Nat.le_of_ble_eq_true rfl)⟩ hl.1 (Nat.le_of_ble_eq_true rfl) d_M_upper_22 ⟨(Nat.le_of_ble_eq_true rfl), (Nat.le_of_ble_eq_true rfl)⟩ hK hw ?_
  refine lv_bipush (v := 7) hx hb d_M_upper_25 (by decide) ?_
  refine lv_ishl hx hb d_M_upper_27 ?_
  refine lv_ior hx hb d_M_upper_28 ?_
  refine lv_aload_n hx hb d_M_upper_29 rfl (lv_at hl 0 rfl) ?_
  refine lv_iconst (v := 2) hx hb d_M_upper_30 (by decide) ?_
  refine lv_iconst (v := 1) hx hb d_M_upper_31 (by decide) ?_
  refine call_M_part S inC m_809 ⟨(Nat.le_of_ble_eq_true rfl), (Nat.le_of_ble_eq_true rfl)⟩ hl.1 (Nat.le_of_ble_eq_true rfl) d_M_upper_32 ⟨(Nat.le_of_ble_eq_true rfl), (Nat.le_of_ble_eq_true rfl)⟩ hK hw ?_
  refine lv_iconst (v := 5) hx hb d_M_upper_35 (by decide) ?_
  refine lv_ishl hx hb d_M_upper_36 ?_
  refine lv_ior hx hb d_M_upper_37 ?_
  refine lv_aload_n hx hb d_M_upper_38 rfl (lv_at hl 0 rfl) ?_
  refine lv_bipush (v := 12) hx hb d_M_upper_39 (by decide) ?_
  refine lv_iconst (v := 1) hx hb d_M_upper_41 (by decide) ?_
  refine call_M_part S inC m_809 ⟨(Nat.le_of_ble_eq_true rfl), (Nat.le_of_ble_eq_true rfl)⟩ hl.1 (Nat.le_of_ble_eq_true rfl) d_M_upper_42 ⟨(Nat.le_of_ble_eq_true rfl), (Nat.le_of_ble_eq_true rfl)⟩ hK hw ?_
  refine lv_ineg hx hb d_M_upper_45 ?_
  refine lv_bipush (v := 9) hx hb d_M_upper_46 (by decide) ?_
  refine lv_ishl hx hb d_M_upper_48 ?_
  refine lv_ior hx hb d_M_upper_49 ?_
  refine lv_istore_n (lv' := [(1, .int (u_M_upper_50 bi d a b f)), (0, .ref m0)]) hx hb d_M_upper_50 rfl hl (by decide) rfl (fun ls hl => ?_)
  refine lv_aload_n hx hb d_M_upper_51 rfl (lv_at hl 1 rfl) ?_
  obtain ⟨rg, ft, h1, h2, hP⟩ := id hw
  refine va_get (D := (dC, dI)) (ci := 2) (v := .int d) (C := R_M) (T := F_M) (N := 14) hx hb hT i_M hown hK hP 0 rfl rfl 8 (by decide) (hT _ m_761) (fun _ h9 => h9) rfl d_M_upper_52 ?_
  refine lv_iconst (v := 2) hx hb d_M_upper_55 (by decide) ?_
  refine lv_icmp_ne (tgt := 66) hx hb d_M_upper_56 (by decide) (fun c_1 => ?_) (fun c_1 => ?_)
  · refine lv_aload_n hx hb d_M_upper_66 rfl (lv_at hl 1 rfl) ?_
    refine call_M_six S inC m_983 ⟨(Nat.le_of_ble_eq_true rfl), (Nat.le_of_ble_eq_true rfl)⟩ hl.1 (Nat.le_of_ble_eq_true rfl) d_M_upper_67 ⟨(Nat.le_of_ble_eq_true rfl), (Nat.le_of_ble_eq_true rfl)⟩ hK hw ?_
    refine lv_if_ne (tgt := 74) hx hb d_M_upper_70 (by decide) (fun c_2 => ?_) (fun c_2 => ?_)
    · refine lv_aload_n hx hb d_M_upper_74 rfl (lv_at hl 1 rfl) ?_
      obtain ⟨rg, ft, h1, h2, hP⟩ := id hw
      refine va_get (D := (dC, dI)) (ci := 2) (v := .int d) (C := R_M) (T := F_M) (N := 14) hx hb hT i_M hown hK hP 0 rfl rfl 8 (by decide) (hT _ m_761) (fun _ h9 => h9) rfl d_M_upper_75 ?_
      refine lv_iconst (v := 2) hx hb d_M_upper_78 (by decide) ?_
      refine lv_icmp_ne (tgt := 102) hx hb d_M_upper_79 (by decide) (fun c_3 => ?_) (fun c_3 => ?_)
      · refine lv_aload_n hx hb d_M_upper_102 rfl (lv_at hl 1 rfl) ?_
        refine lv_ldc2 (v := 452941590115) hx hb hown (hT _ m_999) d_M_upper_103 ?_
        refine call_M_name S inC m_833 ⟨(Nat.le_of_ble_eq_true rfl), (Nat.le_of_ble_eq_true rfl)⟩ hl.1 (Nat.le_of_ble_eq_true rfl) d_M_upper_106 ⟨(Nat.le_of_ble_eq_true rfl), (Nat.le_of_ble_eq_true rfl)⟩ hK ap ok hS hA hw (by omega) (fun H locs hw hS _ => ?_)
        have hL1 := sName_le 452941590115 st
        refine lv_aload_n hx hb d_M_upper_109 rfl (lv_at hl 1 rfl) ?_
        refine lv_aload_n hx hb d_M_upper_110 rfl (lv_at hl 1 rfl) ?_
        obtain ⟨rg, ft, h1, h2, hP⟩ := id hw
        refine va_get (D := (dC, dI)) (ci := 2) (v := .int d) (C := R_M) (T := F_M) (N := 14) hx hb hT i_M hown hK hP 0 rfl rfl 8 (by decide) (hT _ m_761) (fun _ h9 => h9) rfl d_M_upper_111 ?_
        refine call_M_register S inC m_846 ⟨(Nat.le_of_ble_eq_true rfl), (Nat.le_of_ble_eq_true rfl)⟩ hl.1 (Nat.le_of_ble_eq_true rfl) d_M_upper_114 ⟨(Nat.le_of_ble_eq_true rfl), (Nat.le_of_ble_eq_true rfl)⟩ hK ap ok hS hA hw ok.1 (by omega) (fun H locs hw hS _ => ?_)
        have hL2 := sReg_le d (sName 452941590115 st)
        refine lv_aload_n hx hb d_M_upper_117 rfl (lv_at hl 1 rfl) ?_
        refine lv_aload_n hx hb d_M_upper_118 rfl (lv_at hl 1 rfl) ?_
        refine call_M_six S inC m_983 ⟨(Nat.le_of_ble_eq_true rfl), (Nat.le_of_ble_eq_true rfl)⟩ hl.1 (Nat.le_of_ble_eq_true rfl) d_M_upper_119 ⟨(Nat.le_of_ble_eq_true rfl), (Nat.le_of_ble_eq_true rfl)⟩ hK hw ?_
        refine call_M_immediate S inC m_877 ⟨(Nat.le_of_ble_eq_true rfl), (Nat.le_of_ble_eq_true rfl)⟩ hl.1 (Nat.le_of_ble_eq_true rfl) d_M_upper_122 ⟨(Nat.le_of_ble_eq_true rfl), (Nat.le_of_ble_eq_true rfl)⟩ hK ap ok hS hA hw (by omega) (fun H locs hw hS _ => ?_)
        have hL3 := gl_M_immediate bi d a b f (f_M_six bi) (sReg d (sName 452941590115 st))
        exact W.vret hx hb hr (fun t ht hW => ⟨⟨(), rfl, trivial, mwd_at ht (mwd_eq (by rw [g_M_upper, if_neg c_1, if_neg c_2, if_neg c_3]) hw)⟩, hS.F ht⟩) hS.2.2 d_M_upper_125
      · refine lv_aload_n hx hb d_M_upper_82 rfl (lv_at hl 1 rfl) ?_
        refine lv_ldc2 (v := 3905018231808667235) hx hb hown (hT _ m_997) d_M_upper_83 ?_
        refine call_M_name S inC m_833 ⟨(Nat.le_of_ble_eq_true rfl), (Nat.le_of_ble_eq_true rfl)⟩ hl.1 (Nat.le_of_ble_eq_true rfl) d_M_upper_86 ⟨(Nat.le_of_ble_eq_true rfl), (Nat.le_of_ble_eq_true rfl)⟩ hK ap ok hS hA hw (by omega) (fun H locs hw hS _ => ?_)
        have hL4 := sName_le 3905018231808667235 st
        refine lv_aload_n hx hb d_M_upper_89 rfl (lv_at hl 1 rfl) ?_
        refine lv_ldc2 (v := 28787) hx hb hown (hT _ m_998) d_M_upper_90 ?_
        refine call_M_say S inC m_837 ⟨(Nat.le_of_ble_eq_true rfl), (Nat.le_of_ble_eq_true rfl)⟩ hl.1 (Nat.le_of_ble_eq_true rfl) d_M_upper_93 ⟨(Nat.le_of_ble_eq_true rfl), (Nat.le_of_ble_eq_true rfl)⟩ hK ap ok hS hA hw (by omega) (fun H locs hw hS _ => ?_)
        have hL5 := sSay_le 28787 (sName 3905018231808667235 st)
        refine lv_aload_n hx hb d_M_upper_96 rfl (lv_at hl 1 rfl) ?_
        refine lv_iload_n hx hb d_M_upper_97 rfl (lv_at hl 0 rfl) ?_
        refine call_M_immediate S inC m_877 ⟨(Nat.le_of_ble_eq_true rfl), (Nat.le_of_ble_eq_true rfl)⟩ hl.1 (Nat.le_of_ble_eq_true rfl) d_M_upper_98 ⟨(Nat.le_of_ble_eq_true rfl), (Nat.le_of_ble_eq_true rfl)⟩ hK ap ok hS hA hw (by omega) (fun H locs hw hS _ => ?_)
        have hL6 := gl_M_immediate bi d a b f (u_M_upper_50 bi d a b f) (sSay 28787 (sName 3905018231808667235 st))
        exact W.vret hx hb hr (fun t ht hW => ⟨⟨(), rfl, trivial, mwd_at ht (mwd_eq (by rw [g_M_upper, if_neg c_1, if_neg c_2, if_pos c_3]) hw)⟩, hS.F ht⟩) hS.2.2 d_M_upper_101
    · exact W.vret hx hb hr (fun t ht hW => ⟨⟨(), rfl, trivial, mwd_at ht (mwd_eq (by rw [g_M_upper, if_neg c_1, if_pos c_2]) hw)⟩, hS.F ht⟩) hS.2.2 d_M_upper_73
  · refine lv_iload_n hx hb d_M_upper_59 rfl (lv_at hl 0 rfl) ?_
    refine lv_if_ne (tgt := 74) hx hb d_M_upper_60 (by decide) (fun c_4 => ?_) (fun c_4 => ?_)
    · refine lv_aload_n hx hb d_M_upper_74 rfl (lv_at hl 1 rfl) ?_
      obtain ⟨rg, ft, h1, h2, hP⟩ := id hw
      refine va_get (D := (dC, dI)) (ci := 2) (v := .int d) (C := R_M) (T := F_M) (N := 14) hx hb hT i_M hown hK hP 0 rfl rfl 8 (by decide) (hT _ m_761) (fun _ h9 => h9) rfl d_M_upper_75 ?_
      refine lv_iconst (v := 2) hx hb d_M_upper_78 (by decide) ?_
      refine lv_icmp_ne (tgt := 102) hx hb d_M_upper_79 (by decide) (fun c_5 => ?_) (fun c_5 => ?_)
      · refine lv_aload_n hx hb d_M_upper_102 rfl (lv_at hl 1 rfl) ?_
        refine lv_ldc2 (v := 452941590115) hx hb hown (hT _ m_999) d_M_upper_103 ?_
        refine call_M_name S inC m_833 ⟨(Nat.le_of_ble_eq_true rfl), (Nat.le_of_ble_eq_true rfl)⟩ hl.1 (Nat.le_of_ble_eq_true rfl) d_M_upper_106 ⟨(Nat.le_of_ble_eq_true rfl), (Nat.le_of_ble_eq_true rfl)⟩ hK ap ok hS hA hw (by omega) (fun H locs hw hS _ => ?_)
        have hL7 := sName_le 452941590115 st
        refine lv_aload_n hx hb d_M_upper_109 rfl (lv_at hl 1 rfl) ?_
        refine lv_aload_n hx hb d_M_upper_110 rfl (lv_at hl 1 rfl) ?_
        obtain ⟨rg, ft, h1, h2, hP⟩ := id hw
        refine va_get (D := (dC, dI)) (ci := 2) (v := .int d) (C := R_M) (T := F_M) (N := 14) hx hb hT i_M hown hK hP 0 rfl rfl 8 (by decide) (hT _ m_761) (fun _ h9 => h9) rfl d_M_upper_111 ?_
        refine call_M_register S inC m_846 ⟨(Nat.le_of_ble_eq_true rfl), (Nat.le_of_ble_eq_true rfl)⟩ hl.1 (Nat.le_of_ble_eq_true rfl) d_M_upper_114 ⟨(Nat.le_of_ble_eq_true rfl), (Nat.le_of_ble_eq_true rfl)⟩ hK ap ok hS hA hw ok.1 (by omega) (fun H locs hw hS _ => ?_)
        have hL8 := sReg_le d (sName 452941590115 st)
        refine lv_aload_n hx hb d_M_upper_117 rfl (lv_at hl 1 rfl) ?_
        refine lv_aload_n hx hb d_M_upper_118 rfl (lv_at hl 1 rfl) ?_
        refine call_M_six S inC m_983 ⟨(Nat.le_of_ble_eq_true rfl), (Nat.le_of_ble_eq_true rfl)⟩ hl.1 (Nat.le_of_ble_eq_true rfl) d_M_upper_119 ⟨(Nat.le_of_ble_eq_true rfl), (Nat.le_of_ble_eq_true rfl)⟩ hK hw ?_
        refine call_M_immediate S inC m_877 ⟨(Nat.le_of_ble_eq_true rfl), (Nat.le_of_ble_eq_true rfl)⟩ hl.1 (Nat.le_of_ble_eq_true rfl) d_M_upper_122 ⟨(Nat.le_of_ble_eq_true rfl), (Nat.le_of_ble_eq_true rfl)⟩ hK ap ok hS hA hw (by omega) (fun H locs hw hS _ => ?_)
        have hL9 := gl_M_immediate bi d a b f (f_M_six bi) (sReg d (sName 452941590115 st))
        exact W.vret hx hb hr (fun t ht hW => ⟨⟨(), rfl, trivial, mwd_at ht (mwd_eq (by rw [g_M_upper, if_pos c_1, if_neg c_4, if_neg c_5]) hw)⟩, hS.F ht⟩) hS.2.2 d_M_upper_125
      · refine lv_aload_n hx hb d_M_upper_82 rfl (lv_at hl 1 rfl) ?_
        refine lv_ldc2 (v := 3905018231808667235) hx hb hown (hT _ m_997) d_M_upper_83 ?_
        refine call_M_name S inC m_833 ⟨(Nat.le_of_ble_eq_true rfl), (Nat.le_of_ble_eq_true rfl)⟩ hl.1 (Nat.le_of_ble_eq_true rfl) d_M_upper_86 ⟨(Nat.le_of_ble_eq_true rfl), (Nat.le_of_ble_eq_true rfl)⟩ hK ap ok hS hA hw (by omega) (fun H locs hw hS _ => ?_)
        have hL10 := sName_le 3905018231808667235 st
        refine lv_aload_n hx hb d_M_upper_89 rfl (lv_at hl 1 rfl) ?_
        refine lv_ldc2 (v := 28787) hx hb hown (hT _ m_998) d_M_upper_90 ?_
        refine call_M_say S inC m_837 ⟨(Nat.le_of_ble_eq_true rfl), (Nat.le_of_ble_eq_true rfl)⟩ hl.1 (Nat.le_of_ble_eq_true rfl) d_M_upper_93 ⟨(Nat.le_of_ble_eq_true rfl), (Nat.le_of_ble_eq_true rfl)⟩ hK ap ok hS hA hw (by omega) (fun H locs hw hS _ => ?_)
        have hL11 := sSay_le 28787 (sName 3905018231808667235 st)
        refine lv_aload_n hx hb d_M_upper_96 rfl (lv_at hl 1 rfl) ?_
        refine lv_iload_n hx hb d_M_upper_97 rfl (lv_at hl 0 rfl) ?_
        refine call_M_immediate S inC m_877 ⟨(Nat.le_of_ble_eq_true rfl), (Nat.le_of_ble_eq_true rfl)⟩ hl.1 (Nat.le_of_ble_eq_true rfl) d_M_upper_98 ⟨(Nat.le_of_ble_eq_true rfl), (Nat.le_of_ble_eq_true rfl)⟩ hK ap ok hS hA hw (by omega) (fun H locs hw hS _ => ?_)
        have hL12 := gl_M_immediate bi d a b f (u_M_upper_50 bi d a b f) (sSay 28787 (sName 3905018231808667235 st))
        exact W.vret hx hb hr (fun t ht hW => ⟨⟨(), rfl, trivial, mwd_at ht (mwd_eq (by rw [g_M_upper, if_pos c_1, if_neg c_4, if_pos c_5]) hw)⟩, hS.F ht⟩) hS.2.2 d_M_upper_101
    · refine lv_goto (tgt := 73) hx hb d_M_upper_63 (by decide) ?_
      exact W.vret hx hb hr (fun t ht hW => ⟨⟨(), rfl, trivial, mwd_at ht (mwd_eq (by rw [g_M_upper, if_pos c_1, if_pos c_4]) hw)⟩, hS.F ht⟩) hS.2.2 d_M_upper_73
theorem call_M_upper {p : Program} {l : Launch} {e : Env} {R : Room} {s : State} {m : MethodId} {args : Array Value} {below : List Frame} {meth : Method} {c : Code} {H : Heap} {locs : List Loc} {cells slots : Nat} {Q : State → Prop} {cc : ByteArray} {pc nL idx : Nat} {ls : Array Slot} {rest : List Value} {Ts : List Cond} {own : String} {A0 : Nat → Prop} {H0 : Heap} {dC : Nat → ClassId} {dI : Nat → Nat → Nat} {cI cC : ClassId} {m0 mt ms mr mk : Nat} {th yb bi d a b f : Int32} {str fk : Nat → Int32} {st : MT}  (S : CallFix p m c cc nL s args Ts own) (hTs : ∀ w ∈ WT, w ∈ Ts) (hlk : Cond.methodLink own idx y_M_upper ∈ WT) (hR : 4 + 1 ≤ R.frames ∧ 8 + (2 + 11) + 89 ≤ R.locals) (hsz : ls.size = nL) (hrm : (rest.map fun v => v.category).sum ≤ 8) (hdg : decode cc pc = .ok (.invokevirtual idx, 3)) (hc : cells ≤ R.cells ∧ slots ≤ R.slots) (hK : rK dC dI cI cC s) (ap : apM m0 mt ms mr mk) (ok : mOk d a b) (hS : va_S A0 H0 H locs) (hA : ∀ q, aM m0 mt ms mr mk q → A0 q) (hw : mwd dC dI cI cC m0 mt ms mr mk th yb bi d a b f str fk st H) (hlen : st.2.2.length + 31 ≤ 64) (kk : ∀ (H1 : Heap) (locs1 : List Loc), mwd dC dI cI cC m0 mt ms mr mk th yb bi d a b f str fk (g_M_upper bi d a b f  st) H1 → va_S A0 H0 H1 locs1 → (H.size ≤ H1.size ∧ ∀ q : Nat, q < H.size → ¬ aM m0 mt ms mr mk q → H1[q]? = H[q]?) → W p l e R s m args below meth c H1 locs1 cells slots Q (F0 m (pc + 3) ls (rest))) : W p l e R s m args below meth c H locs cells slots Q (F0 m pc ls (.ref m0 :: rest)) :=
  va_callv (va_runV (As := []) (rest := rest) S (c_M_upper l dC dI cI cC m0 mt ms mr mk th yb bi d a b f str fk st ) (cwV 0 S.2.2.2.2 (gV hTs hlk m_995 m_43 m_52 m_996) rfl rfl rfl (by decide +kernel) hR) ⟨fun a U g mk q => ⟨q.1, ⟨q.2.1.blind, q.2.2⟩⟩, mwd.recv hK hw, fun U hU hW => ⟨rfl, ⟨mU.at hK ap ok hw hU hW, hlen⟩⟩⟩ rfl rfl hsz rfl (lv_room hrm) hdg hc) hS (fun q _ h => hA q h) hA (fun u t H1 locs1 ht hvm hp hB hz hk hS1 => kk H1 locs1 (by rw [← ht]; exact hB) hS1 ⟨hz, hk⟩)

def u_M_first_60 (bi d a b f : Int32) : Int32 := ((((f_M_part bi 11 2) <<< ((4 : Int32) &&& 31)) ||| ((f_M_part bi 7 4) <<< ((6 : Int32) &&& 31))) ||| ((f_M_part bi 6 1) <<< ((2 : Int32) &&& 31))) ||| ((f_M_part bi 5 1) <<< ((3 : Int32) &&& 31))
def u_M_first_90 (bi d a b f : Int32) : Int32 := (((f_M_part bi 10 3) <<< ((3 : Int32) &&& 31)) ||| ((f_M_part bi 6 1) <<< ((2 : Int32) &&& 31))) ||| ((f_M_part bi 5 1) <<< ((6 : Int32) &&& 31))
def q_M_first_153 (bi d a b f y1 y2 y3 y4 : Int32) : Int64 :=
  if f = 2 then
    2003578467
  else
    2004037219
set_option maxRecDepth 100000 in
set_option maxHeartbeats 4000000 in
theorem rg_M_first_153 {p : Program} {l : Launch} {e : Env} {R : Room} {s : State} {m : MethodId} {args : Array Value} {below : List Frame} {meth : Method} {c : Code} {cells slots : Nat} {Q : State → Prop} {Ts : List Cond} {dC : Nat → ClassId} {dI : Nat → Nat → Nat} {cI cC : ClassId} {m0 mt ms mr mk : Nat} {th yb bi d a b f : Int32} {str fk : Nat → Int32} {st : MT} {H : Heap} {locs : List Loc} {ls : Array Slot} {y1 y2 y3 y4 : Int32} (S : CallFix p m c b_M_first 5 s args Ts R_M) (hTs : ∀ w ∈ WT, w ∈ Ts) (hT : ∀ w ∈ WT, w.before args s = true) (hfr : 1 ≤ R.frames) (hlo : 1 ≤ R.locals) (hc : cells ≤ R.cells ∧ slots ≤ R.slots) (hK : rK dC dI cI cC s) (hw : mwd dC dI cI cC m0 mt ms mr mk th yb bi d a b f str fk st H) (hl : lv_has ls 5 [(4, .int y4), (3, .int y3), (2, .int y2), (1, .int y1), (0, .ref m0)]) (kk : W p l e R s m args below meth c H locs cells slots Q (F0 m 165 ls (.long (q_M_first_153 bi d a b f y1 y2 y3 y4) :: [.ref m0]))) : W p l e R s m args below meth c H locs cells slots Q (F0 m 153 ls (.int 2 :: .int f :: [.ref m0])) := by
  have hx := S.1
  have hb := S.2.1
  have hown := S.2.2.2.1
  refine lv_icmp_ne (tgt := 162) hx hb d_M_first_153 (by decide) (fun c_1 => ?_) (fun c_1 => ?_)
  · refine lv_ldc2 (v := 2004037219) hx hb hown (hT _ m_975) d_M_first_162 ?_
    rw [q_M_first_153, if_neg c_1] at kk
    exact kk
  · refine lv_ldc2 (v := 2003578467) hx hb hown (hT _ m_974) d_M_first_156 ?_
    refine lv_goto (tgt := 165) hx hb d_M_first_159 (by decide) ?_
    rw [q_M_first_153, if_pos c_1] at kk
    exact kk
def g_M_first (bi d a b f : Int32)  (st : MT) : MT :=
  if f = 0 then
    if (u_M_first_60 bi d a b f) ≤ 0 then
      if f = 2 then
        g_M_memory bi d a b f (u_M_first_90 bi d a b f) ((8 : Int32) + (f_M_part bi 7 3)) (sReg ((8 : Int32) + (f_M_part bi 2 3)) (sName (q_M_first_153 bi d a b f ((8 : Int32) + (f_M_part bi 2 3)) ((8 : Int32) + (f_M_part bi 7 3)) (u_M_first_60 bi d a b f) (u_M_first_90 bi d a b f)) st))
      else
        if f = 6 then
          g_M_memory bi d a b f (u_M_first_90 bi d a b f) ((8 : Int32) + (f_M_part bi 7 3)) (sReg ((8 : Int32) + (f_M_part bi 2 3)) (sName (q_M_first_153 bi d a b f ((8 : Int32) + (f_M_part bi 2 3)) ((8 : Int32) + (f_M_part bi 7 3)) (u_M_first_60 bi d a b f) (u_M_first_90 bi d a b f)) st))
        else
          st
    else
      g_M_immediate bi d a b f (u_M_first_60 bi d a b f) (sReg ((8 : Int32) + (f_M_part bi 2 3)) (sSay 28272 (sName 8301375893052403299 st)))
  else
    if f = 2 then
      g_M_memory bi d a b f (u_M_first_90 bi d a b f) ((8 : Int32) + (f_M_part bi 7 3)) (sReg ((8 : Int32) + (f_M_part bi 2 3)) (sName (q_M_first_153 bi d a b f ((8 : Int32) + (f_M_part bi 2 3)) ((8 : Int32) + (f_M_part bi 7 3)) (u_M_first_60 bi d a b f) (u_M_first_90 bi d a b f)) st))
    else
      if f = 6 then
        g_M_memory bi d a b f (u_M_first_90 bi d a b f) ((8 : Int32) + (f_M_part bi 7 3)) (sReg ((8 : Int32) + (f_M_part bi 2 3)) (sName (q_M_first_153 bi d a b f ((8 : Int32) + (f_M_part bi 2 3)) ((8 : Int32) + (f_M_part bi 7 3)) (u_M_first_60 bi d a b f) (u_M_first_90 bi d a b f)) st))
      else
        st
set_option maxRecDepth 20000 in
theorem gl_M_first (bi d a b f : Int32)  (st : MT) : (g_M_first bi d a b f  st).2.2.length ≤ st.2.2.length + 41 := by
  unfold g_M_first
  exact (it_len _ (it_len _ (it_len _ (by have h0 := sName_le (q_M_first_153 bi d a b f ((8 : Int32) + (f_M_part bi 2 3)) ((8 : Int32) + (f_M_part bi 7 3)) (u_M_first_60 bi d a b f) (u_M_first_90 bi d a b f)) st; have h1 := sReg_le ((8 : Int32) + (f_M_part bi 2 3)) (sName (q_M_first_153 bi d a b f ((8 : Int32) + (f_M_part bi 2 3)) ((8 : Int32) + (f_M_part bi 7 3)) (u_M_first_60 bi d a b f) (u_M_first_90 bi d a b f)) st); have h2 := gl_M_memory bi d a b f (u_M_first_90 bi d a b f) ((8 : Int32) + (f_M_part bi 7 3)) (sReg ((8 : Int32) + (f_M_part bi 2 3)) (sName (q_M_first_153 bi d a b f ((8 : Int32) + (f_M_part bi 2 3)) ((8 : Int32) + (f_M_part bi 7 3)) (u_M_first_60 bi d a b f) (u_M_first_90 bi d a b f)) st)); omega) (it_len _ (by have h0 := sName_le (q_M_first_153 bi d a b f ((8 : Int32) + (f_M_part bi 2 3)) ((8 : Int32) + (f_M_part bi 7 3)) (u_M_first_60 bi d a b f) (u_M_first_90 bi d a b f)) st; have h1 := sReg_le ((8 : Int32) + (f_M_part bi 2 3)) (sName (q_M_first_153 bi d a b f ((8 : Int32) + (f_M_part bi 2 3)) ((8 : Int32) + (f_M_part bi 7 3)) (u_M_first_60 bi d a b f) (u_M_first_90 bi d a b f)) st); have h2 := gl_M_memory bi d a b f (u_M_first_90 bi d a b f) ((8 : Int32) + (f_M_part bi 7 3)) (sReg ((8 : Int32) + (f_M_part bi 2 3)) (sName (q_M_first_153 bi d a b f ((8 : Int32) + (f_M_part bi 2 3)) ((8 : Int32) + (f_M_part bi 7 3)) (u_M_first_60 bi d a b f) (u_M_first_90 bi d a b f)) st)); omega) (by omega))) (by have h0 := sName_le 8301375893052403299 st; have h1 := sSay_le 28272 (sName 8301375893052403299 st); have h2 := sReg_le ((8 : Int32) + (f_M_part bi 2 3)) (sSay 28272 (sName 8301375893052403299 st)); have h3 := gl_M_immediate bi d a b f (u_M_first_60 bi d a b f) (sReg ((8 : Int32) + (f_M_part bi 2 3)) (sSay 28272 (sName 8301375893052403299 st))); omega)) (it_len _ (by have h0 := sName_le (q_M_first_153 bi d a b f ((8 : Int32) + (f_M_part bi 2 3)) ((8 : Int32) + (f_M_part bi 7 3)) (u_M_first_60 bi d a b f) (u_M_first_90 bi d a b f)) st; have h1 := sReg_le ((8 : Int32) + (f_M_part bi 2 3)) (sName (q_M_first_153 bi d a b f ((8 : Int32) + (f_M_part bi 2 3)) ((8 : Int32) + (f_M_part bi 7 3)) (u_M_first_60 bi d a b f) (u_M_first_90 bi d a b f)) st); have h2 := gl_M_memory bi d a b f (u_M_first_90 bi d a b f) ((8 : Int32) + (f_M_part bi 7 3)) (sReg ((8 : Int32) + (f_M_part bi 2 3)) (sName (q_M_first_153 bi d a b f ((8 : Int32) + (f_M_part bi 2 3)) ((8 : Int32) + (f_M_part bi 7 3)) (u_M_first_60 bi d a b f) (u_M_first_90 bi d a b f)) st)); omega) (it_len _ (by have h0 := sName_le (q_M_first_153 bi d a b f ((8 : Int32) + (f_M_part bi 2 3)) ((8 : Int32) + (f_M_part bi 7 3)) (u_M_first_60 bi d a b f) (u_M_first_90 bi d a b f)) st; have h1 := sReg_le ((8 : Int32) + (f_M_part bi 2 3)) (sName (q_M_first_153 bi d a b f ((8 : Int32) + (f_M_part bi 2 3)) ((8 : Int32) + (f_M_part bi 7 3)) (u_M_first_60 bi d a b f) (u_M_first_90 bi d a b f)) st); have h2 := gl_M_memory bi d a b f (u_M_first_90 bi d a b f) ((8 : Int32) + (f_M_part bi 7 3)) (sReg ((8 : Int32) + (f_M_part bi 2 3)) (sName (q_M_first_153 bi d a b f ((8 : Int32) + (f_M_part bi 2 3)) ((8 : Int32) + (f_M_part bi 7 3)) (u_M_first_60 bi d a b f) (u_M_first_90 bi d a b f)) st)); omega) (by omega))))
set_option maxRecDepth 100000 in
set_option maxHeartbeats 4000000 in
theorem c_M_first (l : Launch) (dC : Nat → ClassId) (dI : Nat → Nat → Nat) (cI cC : ClassId) (m0 mt ms mr mk : Nat) (th yb bi d a b f : Int32) (str fk : Nat → Int32) (st : MT)  : Met l y_M_first (Cond.code y_M_first b_M_first 5 none :: WT) ({ frames := 5, cells := 0, slots := 0, locals := 111 }) (va_Pc [.ref m0] (fun U => mU dC dI cI cC m0 mt ms mr mk th yb bi d a b f str fk st U ∧ st.2.2.length + 41 ≤ 64)) (va_Qv (fun _ : Unit => True) (fun _ t => mwe dC dI cI cC m0 mt ms mr mk th yb bi str fk (g_M_first bi d a b f  st) t.heap) (aM m0 mt ms mr mk)) 0 0 (aM m0 mt ms mr mk) := by
  refine va_MetF (cc := b_M_first) (maxL := 5) (ret := none) (by decide +kernel) rfl ?_
  intro p e s m args below meth c s₁ B hml hv
  obtain ⟨rfl, ⟨hK, ap, ok, hw⟩, hlen⟩ := hv
  have hx := B.exec
  have hb := B.bytes
  have hr := B.returns
  have hts := atoms_spec (ws := (Cond.code y_M_first b_M_first 5 none :: WT)) B.pre
  have hT : ∀ w ∈ WT, w.before _ s = true := fun w h => hts w (inC w h)
  have hown : s.vm.findClass R_M = some m.cls := findClass_of_methodNamed B.named
  have hlocks := B.notSynchronized
  have hS : va_S (aM m0 mt ms mr mk) s.heap s.heap [] := va_S.rf
  have S : CallFix p m c b_M_first 5 s _ (Cond.code y_M_first b_M_first 5 none :: WT) R_M := ⟨hx, hb, hml, hown, hts⟩
  have hl := lv_entry ([.ref m0]) (n := 5) (Nat.le_of_ble_eq_true rfl)
  rw [lg_entry_eq]
  generalize (lg_sl ([.ref m0]) ++ List.replicate (5 - (lg_sl ([.ref m0])).length) Slot.unset).toArray = ls at hl ⊢
  have hl : lv_has ls 5 [(0, .ref m0)] := hl
  have hA : ∀ q, aM m0 mt ms mr mk q → aM m0 mt ms mr mk q := fun _ h => h
  refine lv_bipush (v := 8) hx hb d_M_first_0 (by decide) ?_
  refine lv_aload_n hx hb d_M_first_2 rfl (lv_at hl 0 rfl) ?_
  refine lv_iconst (v := 2) hx hb d_M_first_3 (by decide) ?_
  refine lv_iconst (v := 3) hx hb d_M_first_4 (by decide) ?_
  refine call_M_part S inC m_809 ⟨(Nat.le_of_ble_eq_true rfl), (Nat.le_of_ble_eq_true rfl)⟩ hl.1 (Nat.le_of_ble_eq_true rfl) d_M_first_5 ⟨(Nat.le_of_ble_eq_true rfl), (Nat.le_of_ble_eq_true rfl)⟩ hK hw ?_
  refine lv_iadd hx hb d_M_first_8 ?_
  refine lv_istore_n (lv' := [(1, .int ((8 : Int32) + (f_M_part bi 2 3))), (0, .ref m0)]) hx hb d_M_first_9 rfl hl (by decide) rfl (fun ls hl => ?_)
  refine lv_bipush (v := 8) hx hb d_M_first_10 (by decide) ?_
  refine lv_aload_n hx hb d_M_first_12 rfl (lv_at hl 1 rfl) ?_
  refine lv_bipush (v := 7) hx hb d_M_first_13 (by decide) ?_
  refine lv_iconst (v := 3) hx hb d_M_first_15 (by decide) ?_
  refine call_M_part S inC m_809 ⟨(Nat.le_of_ble_eq_true rfl), (Nat.le_of_ble_eq_true rfl)⟩ hl.1 (Nat.le_of_ble_eq_true rfl) d_M_first_16 ⟨(Nat.le_of_ble_eq_true rfl), (Nat.le_of_ble_eq_true rfl)⟩ hK hw ?_
  refine lv_iadd hx hb d_M_first_19 ?_
  refine lv_istore_n (lv' := [(2, .int ((8 : Int32) + (f_M_part bi 7 3))), (1, .int ((8 : Int32) + (f_M_part bi 2 3))), (0, .ref m0)]) hx hb d_M_first_20 rfl hl (by decide) rfl (fun ls hl => ?_)
  refine lv_aload_n hx hb d_M_first_21 rfl (lv_at hl 2 rfl) ?_
  refine lv_bipush (v := 11) hx hb d_M_first_22 (by decide) ?_
  refine lv_iconst (v := 2) hx hb d_M_first_24 (by decide) ?_
  refine call_M_part S inC m_809 ⟨(Nat.le_of_ble_eq_true rfl), (Nat.le_of_ble_eq_true rfl)⟩ hl.1 (Nat.le_of_ble_eq_true rfl) d_M_first_25 ⟨(Nat.le_of_ble_eq_true rfl), (Nat.le_of_ble_eq_true rfl)⟩ hK hw ?_
  refine lv_iconst (v := 4) hx hb d_M_first_28 (by decide) ?_
  refine lv_ishl hx hb d_M_first_29 ?_
  refine lv_aload_n hx hb d_M_first_30 rfl (lv_at hl 2 rfl) ?_
  refine lv_bipush (v := 7) hx hb d_M_first_31 (by decide) ?_
  refine lv_iconst (v := 4) hx hb d_M_first_33 (by decide) ?_
  refine call_M_part S inC m_809 ⟨(Nat.le_of_ble_eq_true rfl), (Nat.le_of_ble_eq_true rfl)⟩ hl.1 (Nat.le_of_ble_eq_true rfl) d_M_first_34 ⟨(Nat.le_of_ble_eq_true rfl), (Nat.le_of_ble_eq_true rfl)⟩ hK hw ?_
  refine lv_bipush (v := 6) hx hb d_M_first_37 (by decide) ?_
  refine lv_ishl hx hb d_M_first_39 ?_
  refine lv_ior hx hb d_M_first_40 ?_
  refine lv_aload_n hx hb d_M_first_41 rfl (lv_at hl 2 rfl) ?_
  refine lv_bipush (v := 6) hx hb d_M_first_42 (by decide) ?_
  refine lv_iconst (v := 1) hx hb d_M_first_44 (by decide) ?_
  refine call_M_part S inC m_809 ⟨(Nat.le_of_ble_eq_true rfl), (Nat.le_of_ble_eq_true rfl)⟩ hl.1 (Nat.le_of_ble_eq_true rfl) d_M_first_45 ⟨(Nat.le_of_ble_eq_true rfl), (Nat.le_of_ble_eq_true rfl)⟩ hK hw ?_
  refine lv_iconst (v := 2) hx hb d_M_first_48 (by decide) ?_
  refine lv_ishl hx hb d_M_first_49 ?_
  refine lv_ior hx hb d_M_first_50 ?_
  refine lv_aload_n hx hb d_M_first_51 rfl (lv_at hl 2 rfl) ?_
  refine lv_iconst (v := 5) hx hb d_M_first_52 (by decide) ?_
  refine lv_iconst (v := 1) hx hb d_M_first_53 (by decide) ?_
  refine call_M_part S inC m_809 ⟨(Nat.le_of_ble_eq_true rfl), (Nat.le_of_ble_eq_true rfl)⟩ hl.1 (Nat.le_of_ble_eq_true rfl) d_M_first_54 ⟨(Nat.le_of_ble_eq_true rfl), (Nat.le_of_ble_eq_true rfl)⟩ hK hw ?_
  refine lv_iconst (v := 3) hx hb d_M_first_57 (by decide) ?_
  refine lv_ishl hx hb d_M_first_58 ?_
  refine lv_ior hx hb d_M_first_59 ?_
  refine lv_istore_n (lv' := [(3, .int (u_M_first_60 bi d a b f)), (2, .int ((8 : Int32) + (f_M_part bi 7 3))), (1, .int ((8 : Int32) + (f_M_part bi 2 3))), (0, .ref m0)]) hx hb d_M_first_60 rfl hl (by decide) rfl (fun ls hl => ?_)
  refine lv_aload_n hx hb d_M_first_61 rfl (lv_at hl 3 rfl) ?_
  refine lv_bipush (v := 10) hx hb d_M_first_62 (by decide) ?_
  refine lv_iconst (v := 3) hx hb d_M_first_64 (by decide) ?_
  refine call_M_part S inC m_809 ⟨(Nat.le_of_ble_eq_true rfl), (Nat.le_of_ble_eq_true rfl)⟩ hl.1 (Nat.le_of_ble_eq_true rfl) d_M_first_65 ⟨(Nat.le_of_ble_eq_true rfl), (Nat.le_of_ble_eq_true rfl)⟩ hK hw ?_
  refine lv_iconst (v := 3) hx hb d_M_first_68 (by decide) ?_
  refine lv_ishl hx hb d_M_first_69 ?_
  refine lv_aload_n hx hb d_M_first_70 rfl (lv_at hl 3 rfl) ?_
  refine lv_bipush (v := 6) hx hb d_M_first_71 (by decide) ?_
  refine lv_iconst (v := 1) hx hb d_M_first_73 (by decide) ?_
  refine call_M_part S inC m_809 ⟨(Nat.le_of_ble_eq_true rfl), (Nat.le_of_ble_eq_true rfl)⟩ hl.1 (Nat.le_of_ble_eq_true rfl) d_M_first_74 ⟨(Nat.le_of_ble_eq_true rfl), (Nat.le_of_ble_eq_true rfl)⟩ hK hw ?_
  refine lv_iconst (v := 2) hx hb d_M_first_77 (by decide) ?_
  refine lv_ishl hx hb d_M_first_78 ?_
  refine lv_ior hx hb d_M_first_79 ?_
  refine lv_aload_n hx hb d_M_first_80 rfl (lv_at hl 3 rfl) ?_
  refine lv_iconst (v := 5) hx hb d_M_first_81 (by decide) ?_
  refine lv_iconst (v := 1) hx hb d_M_first_82 (by decide) ?_
  refine call_M_part S inC m_809 ⟨(Nat.le_of_ble_eq_true rfl), (Nat.le_of_ble_eq_true rfl)⟩ hl.1 (Nat.le_of_ble_eq_true rfl) d_M_first_83 ⟨(Nat.le_of_ble_eq_true rfl), (Nat.le_of_ble_eq_true rfl)⟩ hK hw ?_
  refine lv_bipush (v := 6) hx hb d_M_first_86 (by decide) ?_
  refine lv_ishl hx hb d_M_first_88 ?_
  refine lv_ior hx hb d_M_first_89 ?_
  refine lv_istore (lv' := [(4, .int (u_M_first_90 bi d a b f)), (3, .int (u_M_first_60 bi d a b f)), (2, .int ((8 : Int32) + (f_M_part bi 7 3))), (1, .int ((8 : Int32) + (f_M_part bi 2 3))), (0, .ref m0)]) hx hb d_M_first_90 hl (by decide) rfl (fun ls hl => ?_)
  refine lv_aload_n hx hb d_M_first_92 rfl (lv_at hl 4 rfl) ?_
  obtain ⟨rg, ft, h1, h2, hP⟩ := id hw
  refine va_get (D := (dC, dI)) (ci := 2) (v := .int f) (C := R_M) (T := F_M) (N := 14) hx hb hT i_M hown hK hP 0 rfl rfl 11 (by decide) (hT _ m_764) (fun _ h9 => h9) rfl d_M_first_93 ?_
  refine lv_if_ne (tgt := 130) hx hb d_M_first_96 (by decide) (fun c_1 => ?_) (fun c_1 => ?_)
  · refine lv_aload_n hx hb d_M_first_130 rfl (lv_at hl 4 rfl) ?_
    obtain ⟨rg, ft, h1, h2, hP⟩ := id hw
    refine va_get (D := (dC, dI)) (ci := 2) (v := .int f) (C := R_M) (T := F_M) (N := 14) hx hb hT i_M hown hK hP 0 rfl rfl 11 (by decide) (hT _ m_764) (fun _ h9 => h9) rfl d_M_first_131 ?_
    refine lv_iconst (v := 2) hx hb d_M_first_134 (by decide) ?_
    refine lv_icmp_eq (tgt := 147) hx hb d_M_first_135 (by decide) (fun c_2 => ?_) (fun c_2 => ?_)
    · refine lv_aload_n hx hb d_M_first_147 rfl (lv_at hl 4 rfl) ?_
      refine lv_aload_n hx hb d_M_first_148 rfl (lv_at hl 4 rfl) ?_
      obtain ⟨rg, ft, h1, h2, hP⟩ := id hw
      refine va_get (D := (dC, dI)) (ci := 2) (v := .int f) (C := R_M) (T := F_M) (N := 14) hx hb hT i_M hown hK hP 0 rfl rfl 11 (by decide) (hT _ m_764) (fun _ h9 => h9) rfl d_M_first_149 ?_
      refine lv_iconst (v := 2) hx hb d_M_first_152 (by decide) ?_
      refine rg_M_first_153 S inC hT (Nat.le_of_ble_eq_true rfl) (Nat.le_of_ble_eq_true rfl) ⟨(Nat.le_of_ble_eq_true rfl), (Nat.le_of_ble_eq_true rfl)⟩ hK hw hl ?_
      refine call_M_name S inC m_833 ⟨(Nat.le_of_ble_eq_true rfl), (Nat.le_of_ble_eq_true rfl)⟩ hl.1 (Nat.le_of_ble_eq_true rfl) d_M_first_165 ⟨(Nat.le_of_ble_eq_true rfl), (Nat.le_of_ble_eq_true rfl)⟩ hK ap ok hS hA hw (by omega) (fun H locs hw hS _ => ?_)
      have hL1 := sName_le (q_M_first_153 bi d a b f ((8 : Int32) + (f_M_part bi 2 3)) ((8 : Int32) + (f_M_part bi 7 3)) (u_M_first_60 bi d a b f) (u_M_first_90 bi d a b f)) st
      refine lv_aload_n hx hb d_M_first_168 rfl (lv_at hl 4 rfl) ?_
      refine lv_iload_n hx hb d_M_first_169 rfl (lv_at hl 3 rfl) ?_
      refine call_M_register S inC m_846 ⟨(Nat.le_of_ble_eq_true rfl), (Nat.le_of_ble_eq_true rfl)⟩ hl.1 (Nat.le_of_ble_eq_true rfl) d_M_first_170 ⟨(Nat.le_of_ble_eq_true rfl), (Nat.le_of_ble_eq_true rfl)⟩ hK ap ok hS hA hw (lo_in _ _) (by omega) (fun H locs hw hS _ => ?_)
      have hL2 := sReg_le ((8 : Int32) + (f_M_part bi 2 3)) (sName (q_M_first_153 bi d a b f ((8 : Int32) + (f_M_part bi 2 3)) ((8 : Int32) + (f_M_part bi 7 3)) (u_M_first_60 bi d a b f) (u_M_first_90 bi d a b f)) st)
      refine lv_aload_n hx hb d_M_first_173 rfl (lv_at hl 4 rfl) ?_
      refine lv_iload hx hb d_M_first_174 (lv_at hl 0 rfl) ?_
      refine lv_iload_n hx hb d_M_first_176 rfl (lv_at hl 2 rfl) ?_
      refine call_M_memory S inC m_901 ⟨(Nat.le_of_ble_eq_true rfl), (Nat.le_of_ble_eq_true rfl)⟩ hl.1 (Nat.le_of_ble_eq_true rfl) d_M_first_177 ⟨(Nat.le_of_ble_eq_true rfl), (Nat.le_of_ble_eq_true rfl)⟩ hK ap ok hS hA hw (lo_in _ _) (by omega) (fun H locs hw hS _ => ?_)
      have hL3 := gl_M_memory bi d a b f (u_M_first_90 bi d a b f) ((8 : Int32) + (f_M_part bi 7 3)) (sReg ((8 : Int32) + (f_M_part bi 2 3)) (sName (q_M_first_153 bi d a b f ((8 : Int32) + (f_M_part bi 2 3)) ((8 : Int32) + (f_M_part bi 7 3)) (u_M_first_60 bi d a b f) (u_M_first_90 bi d a b f)) st))
      exact W.vret hx hb hr (fun t ht hW => ⟨⟨(), rfl, trivial, ⟨_, _, _, _, ok, mwd_at ht (mwd_eq (by rw [g_M_first, if_neg c_1, if_pos c_2]) hw)⟩⟩, hS.F ht⟩) hS.2.2 d_M_first_180
    · refine lv_aload_n hx hb d_M_first_138 rfl (lv_at hl 4 rfl) ?_
      obtain ⟨rg, ft, h1, h2, hP⟩ := id hw
      refine va_get (D := (dC, dI)) (ci := 2) (v := .int f) (C := R_M) (T := F_M) (N := 14) hx hb hT i_M hown hK hP 0 rfl rfl 11 (by decide) (hT _ m_764) (fun _ h9 => h9) rfl d_M_first_139 ?_
      refine lv_bipush (v := 6) hx hb d_M_first_142 (by decide) ?_
      refine lv_icmp_ne (tgt := 180) hx hb d_M_first_144 (by decide) (fun c_3 => ?_) (fun c_3 => ?_)
      · exact W.vret hx hb hr (fun t ht hW => ⟨⟨(), rfl, trivial, ⟨_, _, _, _, ok, mwd_at ht (mwd_eq (by rw [g_M_first, if_neg c_1, if_neg c_2, if_neg c_3]) hw)⟩⟩, hS.F ht⟩) hS.2.2 d_M_first_180
      · refine lv_aload_n hx hb d_M_first_147 rfl (lv_at hl 4 rfl) ?_
        refine lv_aload_n hx hb d_M_first_148 rfl (lv_at hl 4 rfl) ?_
        obtain ⟨rg, ft, h1, h2, hP⟩ := id hw
        refine va_get (D := (dC, dI)) (ci := 2) (v := .int f) (C := R_M) (T := F_M) (N := 14) hx hb hT i_M hown hK hP 0 rfl rfl 11 (by decide) (hT _ m_764) (fun _ h9 => h9) rfl d_M_first_149 ?_
        refine lv_iconst (v := 2) hx hb d_M_first_152 (by decide) ?_
        refine rg_M_first_153 S inC hT (Nat.le_of_ble_eq_true rfl) (Nat.le_of_ble_eq_true rfl) ⟨(Nat.le_of_ble_eq_true rfl), (Nat.le_of_ble_eq_true rfl)⟩ hK hw hl ?_
        refine call_M_name S inC m_833 ⟨(Nat.le_of_ble_eq_true rfl), (Nat.le_of_ble_eq_true rfl)⟩ hl.1 (Nat.le_of_ble_eq_true rfl) d_M_first_165 ⟨(Nat.le_of_ble_eq_true rfl), (Nat.le_of_ble_eq_true rfl)⟩ hK ap ok hS hA hw (by omega) (fun H locs hw hS _ => ?_)
        have hL4 := sName_le (q_M_first_153 bi d a b f ((8 : Int32) + (f_M_part bi 2 3)) ((8 : Int32) + (f_M_part bi 7 3)) (u_M_first_60 bi d a b f) (u_M_first_90 bi d a b f)) st
        refine lv_aload_n hx hb d_M_first_168 rfl (lv_at hl 4 rfl) ?_
        refine lv_iload_n hx hb d_M_first_169 rfl (lv_at hl 3 rfl) ?_
        refine call_M_register S inC m_846 ⟨(Nat.le_of_ble_eq_true rfl), (Nat.le_of_ble_eq_true rfl)⟩ hl.1 (Nat.le_of_ble_eq_true rfl) d_M_first_170 ⟨(Nat.le_of_ble_eq_true rfl), (Nat.le_of_ble_eq_true rfl)⟩ hK ap ok hS hA hw (lo_in _ _) (by omega) (fun H locs hw hS _ => ?_)
        have hL5 := sReg_le ((8 : Int32) + (f_M_part bi 2 3)) (sName (q_M_first_153 bi d a b f ((8 : Int32) + (f_M_part bi 2 3)) ((8 : Int32) + (f_M_part bi 7 3)) (u_M_first_60 bi d a b f) (u_M_first_90 bi d a b f)) st)
        refine lv_aload_n hx hb d_M_first_173 rfl (lv_at hl 4 rfl) ?_
        refine lv_iload hx hb d_M_first_174 (lv_at hl 0 rfl) ?_
        refine lv_iload_n hx hb d_M_first_176 rfl (lv_at hl 2 rfl) ?_
        refine call_M_memory S inC m_901 ⟨(Nat.le_of_ble_eq_true rfl), (Nat.le_of_ble_eq_true rfl)⟩ hl.1 (Nat.le_of_ble_eq_true rfl) d_M_first_177 ⟨(Nat.le_of_ble_eq_true rfl), (Nat.le_of_ble_eq_true rfl)⟩ hK ap ok hS hA hw (lo_in _ _) (by omega) (fun H locs hw hS _ => ?_)
        have hL6 := gl_M_memory bi d a b f (u_M_first_90 bi d a b f) ((8 : Int32) + (f_M_part bi 7 3)) (sReg ((8 : Int32) + (f_M_part bi 2 3)) (sName (q_M_first_153 bi d a b f ((8 : Int32) + (f_M_part bi 2 3)) ((8 : Int32) + (f_M_part bi 7 3)) (u_M_first_60 bi d a b f) (u_M_first_90 bi d a b f)) st))
        exact W.vret hx hb hr (fun t ht hW => ⟨⟨(), rfl, trivial, ⟨_, _, _, _, ok, mwd_at ht (mwd_eq (by rw [g_M_first, if_neg c_1, if_neg c_2, if_pos c_3]) hw)⟩⟩, hS.F ht⟩) hS.2.2 d_M_first_180
  · refine lv_iload_n hx hb d_M_first_99 rfl (lv_at hl 1 rfl) ?_
    refine lv_if_le (tgt := 130) hx hb d_M_first_100 (by decide) (fun c_4 => ?_) (fun c_4 => ?_)
    · refine lv_aload_n hx hb d_M_first_130 rfl (lv_at hl 4 rfl) ?_
      obtain ⟨rg, ft, h1, h2, hP⟩ := id hw
      refine va_get (D := (dC, dI)) (ci := 2) (v := .int f) (C := R_M) (T := F_M) (N := 14) hx hb hT i_M hown hK hP 0 rfl rfl 11 (by decide) (hT _ m_764) (fun _ h9 => h9) rfl d_M_first_131 ?_
      refine lv_iconst (v := 2) hx hb d_M_first_134 (by decide) ?_
      refine lv_icmp_eq (tgt := 147) hx hb d_M_first_135 (by decide) (fun c_5 => ?_) (fun c_5 => ?_)
      · refine lv_aload_n hx hb d_M_first_147 rfl (lv_at hl 4 rfl) ?_
        refine lv_aload_n hx hb d_M_first_148 rfl (lv_at hl 4 rfl) ?_
        obtain ⟨rg, ft, h1, h2, hP⟩ := id hw
        refine va_get (D := (dC, dI)) (ci := 2) (v := .int f) (C := R_M) (T := F_M) (N := 14) hx hb hT i_M hown hK hP 0 rfl rfl 11 (by decide) (hT _ m_764) (fun _ h9 => h9) rfl d_M_first_149 ?_
        refine lv_iconst (v := 2) hx hb d_M_first_152 (by decide) ?_
        refine rg_M_first_153 S inC hT (Nat.le_of_ble_eq_true rfl) (Nat.le_of_ble_eq_true rfl) ⟨(Nat.le_of_ble_eq_true rfl), (Nat.le_of_ble_eq_true rfl)⟩ hK hw hl ?_
        refine call_M_name S inC m_833 ⟨(Nat.le_of_ble_eq_true rfl), (Nat.le_of_ble_eq_true rfl)⟩ hl.1 (Nat.le_of_ble_eq_true rfl) d_M_first_165 ⟨(Nat.le_of_ble_eq_true rfl), (Nat.le_of_ble_eq_true rfl)⟩ hK ap ok hS hA hw (by omega) (fun H locs hw hS _ => ?_)
        have hL7 := sName_le (q_M_first_153 bi d a b f ((8 : Int32) + (f_M_part bi 2 3)) ((8 : Int32) + (f_M_part bi 7 3)) (u_M_first_60 bi d a b f) (u_M_first_90 bi d a b f)) st
        refine lv_aload_n hx hb d_M_first_168 rfl (lv_at hl 4 rfl) ?_
        refine lv_iload_n hx hb d_M_first_169 rfl (lv_at hl 3 rfl) ?_
        refine call_M_register S inC m_846 ⟨(Nat.le_of_ble_eq_true rfl), (Nat.le_of_ble_eq_true rfl)⟩ hl.1 (Nat.le_of_ble_eq_true rfl) d_M_first_170 ⟨(Nat.le_of_ble_eq_true rfl), (Nat.le_of_ble_eq_true rfl)⟩ hK ap ok hS hA hw (lo_in _ _) (by omega) (fun H locs hw hS _ => ?_)
        have hL8 := sReg_le ((8 : Int32) + (f_M_part bi 2 3)) (sName (q_M_first_153 bi d a b f ((8 : Int32) + (f_M_part bi 2 3)) ((8 : Int32) + (f_M_part bi 7 3)) (u_M_first_60 bi d a b f) (u_M_first_90 bi d a b f)) st)
        refine lv_aload_n hx hb d_M_first_173 rfl (lv_at hl 4 rfl) ?_
        refine lv_iload hx hb d_M_first_174 (lv_at hl 0 rfl) ?_
        refine lv_iload_n hx hb d_M_first_176 rfl (lv_at hl 2 rfl) ?_
        refine call_M_memory S inC m_901 ⟨(Nat.le_of_ble_eq_true rfl), (Nat.le_of_ble_eq_true rfl)⟩ hl.1 (Nat.le_of_ble_eq_true rfl) d_M_first_177 ⟨(Nat.le_of_ble_eq_true rfl), (Nat.le_of_ble_eq_true rfl)⟩ hK ap ok hS hA hw (lo_in _ _) (by omega) (fun H locs hw hS _ => ?_)
        have hL9 := gl_M_memory bi d a b f (u_M_first_90 bi d a b f) ((8 : Int32) + (f_M_part bi 7 3)) (sReg ((8 : Int32) + (f_M_part bi 2 3)) (sName (q_M_first_153 bi d a b f ((8 : Int32) + (f_M_part bi 2 3)) ((8 : Int32) + (f_M_part bi 7 3)) (u_M_first_60 bi d a b f) (u_M_first_90 bi d a b f)) st))
        exact W.vret hx hb hr (fun t ht hW => ⟨⟨(), rfl, trivial, ⟨_, _, _, _, ok, mwd_at ht (mwd_eq (by rw [g_M_first, if_pos c_1, if_pos c_4, if_pos c_5]) hw)⟩⟩, hS.F ht⟩) hS.2.2 d_M_first_180
      · refine lv_aload_n hx hb d_M_first_138 rfl (lv_at hl 4 rfl) ?_
        obtain ⟨rg, ft, h1, h2, hP⟩ := id hw
        refine va_get (D := (dC, dI)) (ci := 2) (v := .int f) (C := R_M) (T := F_M) (N := 14) hx hb hT i_M hown hK hP 0 rfl rfl 11 (by decide) (hT _ m_764) (fun _ h9 => h9) rfl d_M_first_139 ?_
        refine lv_bipush (v := 6) hx hb d_M_first_142 (by decide) ?_
        refine lv_icmp_ne (tgt := 180) hx hb d_M_first_144 (by decide) (fun c_6 => ?_) (fun c_6 => ?_)
        · exact W.vret hx hb hr (fun t ht hW => ⟨⟨(), rfl, trivial, ⟨_, _, _, _, ok, mwd_at ht (mwd_eq (by rw [g_M_first, if_pos c_1, if_pos c_4, if_neg c_5, if_neg c_6]) hw)⟩⟩, hS.F ht⟩) hS.2.2 d_M_first_180
        · refine lv_aload_n hx hb d_M_first_147 rfl (lv_at hl 4 rfl) ?_
          refine lv_aload_n hx hb d_M_first_148 rfl (lv_at hl 4 rfl) ?_
          obtain ⟨rg, ft, h1, h2, hP⟩ := id hw
          refine va_get (D := (dC, dI)) (ci := 2) (v := .int f) (C := R_M) (T := F_M) (N := 14) hx hb hT i_M hown hK hP 0 rfl rfl 11 (by decide) (hT _ m_764) (fun _ h9 => h9) rfl d_M_first_149 ?_
          refine lv_iconst (v := 2) hx hb d_M_first_152 (by decide) ?_
          refine rg_M_first_153 S inC hT (Nat.le_of_ble_eq_true rfl) (Nat.le_of_ble_eq_true rfl) ⟨(Nat.le_of_ble_eq_true rfl), (Nat.le_of_ble_eq_true rfl)⟩ hK hw hl ?_
          refine call_M_name S inC m_833 ⟨(Nat.le_of_ble_eq_true rfl), (Nat.le_of_ble_eq_true rfl)⟩ hl.1 (Nat.le_of_ble_eq_true rfl) d_M_first_165 ⟨(Nat.le_of_ble_eq_true rfl), (Nat.le_of_ble_eq_true rfl)⟩ hK ap ok hS hA hw (by omega) (fun H locs hw hS _ => ?_)
          have hL10 := sName_le (q_M_first_153 bi d a b f ((8 : Int32) + (f_M_part bi 2 3)) ((8 : Int32) + (f_M_part bi 7 3)) (u_M_first_60 bi d a b f) (u_M_first_90 bi d a b f)) st
          refine lv_aload_n hx hb d_M_first_168 rfl (lv_at hl 4 rfl) ?_
          refine lv_iload_n hx hb d_M_first_169 rfl (lv_at hl 3 rfl) ?_
          refine call_M_register S inC m_846 ⟨(Nat.le_of_ble_eq_true rfl), (Nat.le_of_ble_eq_true rfl)⟩ hl.1 (Nat.le_of_ble_eq_true rfl) d_M_first_170 ⟨(Nat.le_of_ble_eq_true rfl), (Nat.le_of_ble_eq_true rfl)⟩ hK ap ok hS hA hw (lo_in _ _) (by omega) (fun H locs hw hS _ => ?_)
          have hL11 := sReg_le ((8 : Int32) + (f_M_part bi 2 3)) (sName (q_M_first_153 bi d a b f ((8 : Int32) + (f_M_part bi 2 3)) ((8 : Int32) + (f_M_part bi 7 3)) (u_M_first_60 bi d a b f) (u_M_first_90 bi d a b f)) st)
          refine lv_aload_n hx hb d_M_first_173 rfl (lv_at hl 4 rfl) ?_
          refine lv_iload hx hb d_M_first_174 (lv_at hl 0 rfl) ?_
          refine lv_iload_n hx hb d_M_first_176 rfl (lv_at hl 2 rfl) ?_
          refine call_M_memory S inC m_901 ⟨(Nat.le_of_ble_eq_true rfl), (Nat.le_of_ble_eq_true rfl)⟩ hl.1 (Nat.le_of_ble_eq_true rfl) d_M_first_177 ⟨(Nat.le_of_ble_eq_true rfl), (Nat.le_of_ble_eq_true rfl)⟩ hK ap ok hS hA hw (lo_in _ _) (by omega) (fun H locs hw hS _ => ?_)
          have hL12 := gl_M_memory bi d a b f (u_M_first_90 bi d a b f) ((8 : Int32) + (f_M_part bi 7 3)) (sReg ((8 : Int32) + (f_M_part bi 2 3)) (sName (q_M_first_153 bi d a b f ((8 : Int32) + (f_M_part bi 2 3)) ((8 : Int32) + (f_M_part bi 7 3)) (u_M_first_60 bi d a b f) (u_M_first_90 bi d a b f)) st))
          exact W.vret hx hb hr (fun t ht hW => ⟨⟨(), rfl, trivial, ⟨_, _, _, _, ok, mwd_at ht (mwd_eq (by rw [g_M_first, if_pos c_1, if_pos c_4, if_neg c_5, if_pos c_6]) hw)⟩⟩, hS.F ht⟩) hS.2.2 d_M_first_180
    · refine lv_aload_n hx hb d_M_first_103 rfl (lv_at hl 4 rfl) ?_
      refine lv_ldc2 (v := 8301375893052403299) hx hb hown (hT _ m_972) d_M_first_104 ?_
      refine call_M_name S inC m_833 ⟨(Nat.le_of_ble_eq_true rfl), (Nat.le_of_ble_eq_true rfl)⟩ hl.1 (Nat.le_of_ble_eq_true rfl) d_M_first_107 ⟨(Nat.le_of_ble_eq_true rfl), (Nat.le_of_ble_eq_true rfl)⟩ hK ap ok hS hA hw (by omega) (fun H locs hw hS _ => ?_)
      have hL13 := sName_le 8301375893052403299 st
      refine lv_aload_n hx hb d_M_first_110 rfl (lv_at hl 4 rfl) ?_
      refine lv_ldc2 (v := 28272) hx hb hown (hT _ m_973) d_M_first_111 ?_
      refine call_M_say S inC m_837 ⟨(Nat.le_of_ble_eq_true rfl), (Nat.le_of_ble_eq_true rfl)⟩ hl.1 (Nat.le_of_ble_eq_true rfl) d_M_first_114 ⟨(Nat.le_of_ble_eq_true rfl), (Nat.le_of_ble_eq_true rfl)⟩ hK ap ok hS hA hw (by omega) (fun H locs hw hS _ => ?_)
      have hL14 := sSay_le 28272 (sName 8301375893052403299 st)
      refine lv_aload_n hx hb d_M_first_117 rfl (lv_at hl 4 rfl) ?_
      refine lv_iload_n hx hb d_M_first_118 rfl (lv_at hl 3 rfl) ?_
      refine call_M_register S inC m_846 ⟨(Nat.le_of_ble_eq_true rfl), (Nat.le_of_ble_eq_true rfl)⟩ hl.1 (Nat.le_of_ble_eq_true rfl) d_M_first_119 ⟨(Nat.le_of_ble_eq_true rfl), (Nat.le_of_ble_eq_true rfl)⟩ hK ap ok hS hA hw (lo_in _ _) (by omega) (fun H locs hw hS _ => ?_)
      have hL15 := sReg_le ((8 : Int32) + (f_M_part bi 2 3)) (sSay 28272 (sName 8301375893052403299 st))
      refine lv_aload_n hx hb d_M_first_122 rfl (lv_at hl 4 rfl) ?_
      refine lv_iload_n hx hb d_M_first_123 rfl (lv_at hl 1 rfl) ?_
      refine call_M_immediate S inC m_877 ⟨(Nat.le_of_ble_eq_true rfl), (Nat.le_of_ble_eq_true rfl)⟩ hl.1 (Nat.le_of_ble_eq_true rfl) d_M_first_124 ⟨(Nat.le_of_ble_eq_true rfl), (Nat.le_of_ble_eq_true rfl)⟩ hK ap ok hS hA hw (by omega) (fun H locs hw hS _ => ?_)
      have hL16 := gl_M_immediate bi d a b f (u_M_first_60 bi d a b f) (sReg ((8 : Int32) + (f_M_part bi 2 3)) (sSay 28272 (sName 8301375893052403299 st)))
      refine lv_goto (tgt := 180) hx hb d_M_first_127 (by decide) ?_
      exact W.vret hx hb hr (fun t ht hW => ⟨⟨(), rfl, trivial, ⟨_, _, _, _, ok, mwd_at ht (mwd_eq (by rw [g_M_first, if_pos c_1, if_neg c_4]) hw)⟩⟩, hS.F ht⟩) hS.2.2 d_M_first_180
theorem call_M_first {p : Program} {l : Launch} {e : Env} {R : Room} {s : State} {m : MethodId} {args : Array Value} {below : List Frame} {meth : Method} {c : Code} {H : Heap} {locs : List Loc} {cells slots : Nat} {Q : State → Prop} {cc : ByteArray} {pc nL idx : Nat} {ls : Array Slot} {rest : List Value} {Ts : List Cond} {own : String} {A0 : Nat → Prop} {H0 : Heap} {dC : Nat → ClassId} {dI : Nat → Nat → Nat} {cI cC : ClassId} {m0 mt ms mr mk : Nat} {th yb bi d a b f : Int32} {str fk : Nat → Int32} {st : MT}  (S : CallFix p m c cc nL s args Ts own) (hTs : ∀ w ∈ WT, w ∈ Ts) (hlk : Cond.methodLink own idx y_M_first ∈ WT) (hR : 5 + 1 ≤ R.frames ∧ 8 + (5 + 11) + 111 ≤ R.locals) (hsz : ls.size = nL) (hrm : (rest.map fun v => v.category).sum ≤ 8) (hdg : decode cc pc = .ok (.invokevirtual idx, 3)) (hc : cells ≤ R.cells ∧ slots ≤ R.slots) (hK : rK dC dI cI cC s) (ap : apM m0 mt ms mr mk) (ok : mOk d a b) (hS : va_S A0 H0 H locs) (hA : ∀ q, aM m0 mt ms mr mk q → A0 q) (hw : mwd dC dI cI cC m0 mt ms mr mk th yb bi d a b f str fk st H) (hlen : st.2.2.length + 41 ≤ 64) (kk : ∀ (H1 : Heap) (locs1 : List Loc), mwe dC dI cI cC m0 mt ms mr mk th yb bi str fk (g_M_first bi d a b f  st) H1 → va_S A0 H0 H1 locs1 → (H.size ≤ H1.size ∧ ∀ q : Nat, q < H.size → ¬ aM m0 mt ms mr mk q → H1[q]? = H[q]?) → W p l e R s m args below meth c H1 locs1 cells slots Q (F0 m (pc + 3) ls (rest))) : W p l e R s m args below meth c H locs cells slots Q (F0 m pc ls (.ref m0 :: rest)) :=
  va_callv (va_runV (As := []) (rest := rest) S (c_M_first l dC dI cI cC m0 mt ms mr mk th yb bi d a b f str fk st ) (cwV 0 S.2.2.2.2 (gV hTs hlk m_970 m_39 m_52 m_971) rfl rfl rfl (by decide +kernel) hR) ⟨fun a U g mk q => ⟨q.1, ⟨q.2.1.blind, q.2.2⟩⟩, mwd.recv hK hw, fun U hU hW => ⟨rfl, ⟨mU.at hK ap ok hw hU hW, hlen⟩⟩⟩ rfl rfl hsz rfl (lv_room hrm) hdg hc) hS (fun q _ h => hA q h) hA (fun u t H1 locs1 ht hvm hp hB hz hk hS1 => kk H1 locs1 (by rw [← ht]; exact hB) hS1 ⟨hz, hk⟩)

def q_M_second_38 (bi d a b f : Int32) : Int64 :=
  if f = 0 then
    115879901736547
  else
    1768697443
set_option maxRecDepth 100000 in
set_option maxHeartbeats 4000000 in
theorem rg_M_second_38 {p : Program} {l : Launch} {e : Env} {R : Room} {s : State} {m : MethodId} {args : Array Value} {below : List Frame} {meth : Method} {c : Code} {cells slots : Nat} {Q : State → Prop} {Ts : List Cond} {dC : Nat → ClassId} {dI : Nat → Nat → Nat} {cI cC : ClassId} {m0 mt ms mr mk : Nat} {th yb bi d a b f : Int32} {str fk : Nat → Int32} {st : MT} {H : Heap} {locs : List Loc} {ls : Array Slot} (S : CallFix p m c b_M_second 1 s args Ts R_M) (hTs : ∀ w ∈ WT, w ∈ Ts) (hT : ∀ w ∈ WT, w.before args s = true) (hfr : 1 ≤ R.frames) (hlo : 1 ≤ R.locals) (hc : cells ≤ R.cells ∧ slots ≤ R.slots) (hK : rK dC dI cI cC s) (hw : mwd dC dI cI cC m0 mt ms mr mk th yb bi d a b f str fk st H) (hl : lv_has ls 1 [(0, .ref m0)]) (kk : W p l e R s m args below meth c H locs cells slots Q (F0 m 50 ls (.long (q_M_second_38 bi d a b f) :: [.ref m0]))) : W p l e R s m args below meth c H locs cells slots Q (F0 m 38 ls (.int f :: [.ref m0])) := by
  have hx := S.1
  have hb := S.2.1
  have hown := S.2.2.2.1
  refine lv_if_ne (tgt := 47) hx hb d_M_second_38 (by decide) (fun c_1 => ?_) (fun c_1 => ?_)
  · refine lv_ldc2 (v := 1768697443) hx hb hown (hT _ m_982) d_M_second_47 ?_
    rw [q_M_second_38, if_neg c_1] at kk
    exact kk
  · refine lv_ldc2 (v := 115879901736547) hx hb hown (hT _ m_981) d_M_second_41 ?_
    refine lv_goto (tgt := 50) hx hb d_M_second_44 (by decide) ?_
    rw [q_M_second_38, if_pos c_1] at kk
    exact kk
def q_M_second_94 (bi d a b f : Int32) : Int64 :=
  if f = 1 then
    465490816611
  else
    6958691
set_option maxRecDepth 100000 in
set_option maxHeartbeats 4000000 in
theorem rg_M_second_94 {p : Program} {l : Launch} {e : Env} {R : Room} {s : State} {m : MethodId} {args : Array Value} {below : List Frame} {meth : Method} {c : Code} {cells slots : Nat} {Q : State → Prop} {Ts : List Cond} {dC : Nat → ClassId} {dI : Nat → Nat → Nat} {cI cC : ClassId} {m0 mt ms mr mk : Nat} {th yb bi d a b f : Int32} {str fk : Nat → Int32} {st : MT} {H : Heap} {locs : List Loc} {ls : Array Slot} (S : CallFix p m c b_M_second 1 s args Ts R_M) (hTs : ∀ w ∈ WT, w ∈ Ts) (hT : ∀ w ∈ WT, w.before args s = true) (hfr : 1 ≤ R.frames) (hlo : 1 ≤ R.locals) (hc : cells ≤ R.cells ∧ slots ≤ R.slots) (hK : rK dC dI cI cC s) (hw : mwd dC dI cI cC m0 mt ms mr mk th yb bi d a b f str fk st H) (hl : lv_has ls 1 [(0, .ref m0)]) (kk : W p l e R s m args below meth c H locs cells slots Q (F0 m 106 ls (.long (q_M_second_94 bi d a b f) :: [.ref m0]))) : W p l e R s m args below meth c H locs cells slots Q (F0 m 94 ls (.int 1 :: .int f :: [.ref m0])) := by
  have hx := S.1
  have hb := S.2.1
  have hown := S.2.2.2.1
  refine lv_icmp_ne (tgt := 103) hx hb d_M_second_94 (by decide) (fun c_1 => ?_) (fun c_1 => ?_)
  · refine lv_ldc2 (v := 6958691) hx hb hown (hT _ m_988) d_M_second_103 ?_
    rw [q_M_second_94, if_neg c_1] at kk
    exact kk
  · refine lv_ldc2 (v := 465490816611) hx hb hown (hT _ m_987) d_M_second_97 ?_
    refine lv_goto (tgt := 106) hx hb d_M_second_100 (by decide) ?_
    rw [q_M_second_94, if_pos c_1] at kk
    exact kk
def q_M_second_156 (bi d a b f : Int32) : Int64 :=
  if f = 6 then
    134627450826339
  else
    134576062213731
set_option maxRecDepth 100000 in
set_option maxHeartbeats 4000000 in
theorem rg_M_second_156 {p : Program} {l : Launch} {e : Env} {R : Room} {s : State} {m : MethodId} {args : Array Value} {below : List Frame} {meth : Method} {c : Code} {cells slots : Nat} {Q : State → Prop} {Ts : List Cond} {dC : Nat → ClassId} {dI : Nat → Nat → Nat} {cI cC : ClassId} {m0 mt ms mr mk : Nat} {th yb bi d a b f : Int32} {str fk : Nat → Int32} {st : MT} {H : Heap} {locs : List Loc} {ls : Array Slot} (S : CallFix p m c b_M_second 1 s args Ts R_M) (hTs : ∀ w ∈ WT, w ∈ Ts) (hT : ∀ w ∈ WT, w.before args s = true) (hfr : 1 ≤ R.frames) (hlo : 1 ≤ R.locals) (hc : cells ≤ R.cells ∧ slots ≤ R.slots) (hK : rK dC dI cI cC s) (hw : mwd dC dI cI cC m0 mt ms mr mk th yb bi d a b f str fk st H) (hl : lv_has ls 1 [(0, .ref m0)]) (kk : W p l e R s m args below meth c H locs cells slots Q (F0 m 168 ls (.long (q_M_second_156 bi d a b f) :: [.ref m0]))) : W p l e R s m args below meth c H locs cells slots Q (F0 m 156 ls (.int 6 :: .int f :: [.ref m0])) := by
  have hx := S.1
  have hb := S.2.1
  have hown := S.2.2.2.1
  refine lv_icmp_ne (tgt := 165) hx hb d_M_second_156 (by decide) (fun c_1 => ?_) (fun c_1 => ?_)
  · refine lv_ldc2 (v := 134576062213731) hx hb hown (hT _ m_1012) d_M_second_165 ?_
    rw [q_M_second_156, if_neg c_1] at kk
    exact kk
  · refine lv_ldc2 (v := 134627450826339) hx hb hown (hT _ m_1011) d_M_second_159 ?_
    refine lv_goto (tgt := 168) hx hb d_M_second_162 (by decide) ?_
    rw [q_M_second_156, if_pos c_1] at kk
    exact kk
def g_M_second (bi d a b f : Int32)  (st : MT) : MT :=
  if bi = 1 then
    sName 482905828963 st
  else
    if f = 0 then
      g_M_immediate bi d a b f (f_M_six bi) (sReg d (sName (q_M_second_38 bi d a b f) st))
    else
      if f = 2 then
        g_M_immediate bi d a b f (f_M_six bi) (sReg d (sName (q_M_second_38 bi d a b f) st))
      else
        if f = 1 then
          g_M_jump bi d a b f (q_M_second_94 bi d a b f) st
        else
          if f = 5 then
            g_M_jump bi d a b f (q_M_second_94 bi d a b f) st
          else
            if f = 3 then
              g_M_upper bi d a b f st
            else
              if f = 4 then
                g_M_reckon bi d a b f (f_M_part bi 10 2) st
              else
                g_M_target bi d a b f ((((((f_M_part bi 3 2) <<< ((1 : Int32) &&& 31)) ||| ((f_M_part bi 10 2) <<< ((3 : Int32) &&& 31))) ||| ((f_M_part bi 2 1) <<< ((5 : Int32) &&& 31))) ||| ((f_M_part bi 5 2) <<< ((6 : Int32) &&& 31))) ||| ((-(f_M_part bi 12 1)) <<< ((8 : Int32) &&& 31))) (sReg ((8 : Int32) + (f_M_part bi 7 3)) (sName (q_M_second_156 bi d a b f) st))
set_option maxRecDepth 20000 in
theorem gl_M_second (bi d a b f : Int32)  (st : MT) : (g_M_second bi d a b f  st).2.2.length ≤ st.2.2.length + 33 := by
  unfold g_M_second
  exact (it_len _ (by have h0 := sName_le 482905828963 st; omega) (it_len _ (by have h0 := sName_le (q_M_second_38 bi d a b f) st; have h1 := sReg_le d (sName (q_M_second_38 bi d a b f) st); have h2 := gl_M_immediate bi d a b f (f_M_six bi) (sReg d (sName (q_M_second_38 bi d a b f) st)); omega) (it_len _ (by have h0 := sName_le (q_M_second_38 bi d a b f) st; have h1 := sReg_le d (sName (q_M_second_38 bi d a b f) st); have h2 := gl_M_immediate bi d a b f (f_M_six bi) (sReg d (sName (q_M_second_38 bi d a b f) st)); omega) (it_len _ (by have h0 := gl_M_jump bi d a b f (q_M_second_94 bi d a b f) st; omega) (it_len _ (by have h0 := gl_M_jump bi d a b f (q_M_second_94 bi d a b f) st; omega) (it_len _ (by have h0 := gl_M_upper bi d a b f st; omega) (it_len _ (by have h0 := gl_M_reckon bi d a b f (f_M_part bi 10 2) st; omega) (by have h0 := sName_le (q_M_second_156 bi d a b f) st; have h1 := sReg_le ((8 : Int32) + (f_M_part bi 7 3)) (sName (q_M_second_156 bi d a b f) st); have h2 := gl_M_target bi d a b f ((((((f_M_part bi 3 2) <<< ((1 : Int32) &&& 31)) ||| ((f_M_part bi 10 2) <<< ((3 : Int32) &&& 31))) ||| ((f_M_part bi 2 1) <<< ((5 : Int32) &&& 31))) ||| ((f_M_part bi 5 2) <<< ((6 : Int32) &&& 31))) ||| ((-(f_M_part bi 12 1)) <<< ((8 : Int32) &&& 31))) (sReg ((8 : Int32) + (f_M_part bi 7 3)) (sName (q_M_second_156 bi d a b f) st)); omega))))))))
set_option maxRecDepth 100000 in
set_option maxHeartbeats 4000000 in
theorem c_M_second (l : Launch) (dC : Nat → ClassId) (dI : Nat → Nat → Nat) (cI cC : ClassId) (m0 mt ms mr mk : Nat) (th yb bi d a b f : Int32) (str fk : Nat → Int32) (st : MT)  : Met l y_M_second (Cond.code y_M_second b_M_second 1 none :: WT) ({ frames := 5, cells := 0, slots := 0, locals := 113 }) (va_Pc [.ref m0] (fun U => mU dC dI cI cC m0 mt ms mr mk th yb bi d a b f str fk st U ∧ st.2.2.length + 33 ≤ 64)) (va_Qv (fun _ : Unit => True) (fun _ t => mwe dC dI cI cC m0 mt ms mr mk th yb bi str fk (g_M_second bi d a b f  st) t.heap) (aM m0 mt ms mr mk)) 0 0 (aM m0 mt ms mr mk) := by
  refine va_MetF (cc := b_M_second) (maxL := 1) (ret := none) (by decide +kernel) rfl ?_
  intro p e s m args below meth c s₁ B hml hv
  obtain ⟨rfl, ⟨hK, ap, ok, hw⟩, hlen⟩ := hv
  have hx := B.exec
  have hb := B.bytes
  have hr := B.returns
  have hts := atoms_spec (ws := (Cond.code y_M_second b_M_second 1 none :: WT)) B.pre
  have hT : ∀ w ∈ WT, w.before _ s = true := fun w h => hts w (inC w h)
  have hown : s.vm.findClass R_M = some m.cls := findClass_of_methodNamed B.named
  have hlocks := B.notSynchronized
  have hS : va_S (aM m0 mt ms mr mk) s.heap s.heap [] := va_S.rf
  have S : CallFix p m c b_M_second 1 s _ (Cond.code y_M_second b_M_second 1 none :: WT) R_M := ⟨hx, hb, hml, hown, hts⟩
  have hl := lv_entry ([.ref m0]) (n := 1) (Nat.le_of_ble_eq_true rfl)
  rw [lg_entry_eq]
  generalize (lg_sl ([.ref m0]) ++ List.replicate (1 - (lg_sl ([.ref m0])).length) Slot.unset).toArray = ls at hl ⊢
  have hl : lv_has ls 1 [(0, .ref m0)] := hl
  have hA : ∀ q, aM m0 mt ms mr mk q → aM m0 mt ms mr mk q := fun _ h => h
  refine lv_aload_n hx hb d_M_second_0 rfl (lv_at hl 0 rfl) ?_
  obtain ⟨rg, ft, h1, h2, hP⟩ := id hw
  refine va_get (D := (dC, dI)) (ci := 2) (v := .int bi) (C := R_M) (T := F_M) (N := 14) hx hb hT i_M hown hK hP 0 rfl rfl 7 (by decide) (hT _ m_760) (fun _ h9 => h9) rfl d_M_second_1 ?_
  refine lv_iconst (v := 1) hx hb d_M_second_4 (by decide) ?_
  refine lv_icmp_ne (tgt := 18) hx hb d_M_second_5 (by decide) (fun c_1 => ?_) (fun c_1 => ?_)
  · refine lv_aload_n hx hb d_M_second_18 rfl (lv_at hl 0 rfl) ?_
    obtain ⟨rg, ft, h1, h2, hP⟩ := id hw
    refine va_get (D := (dC, dI)) (ci := 2) (v := .int f) (C := R_M) (T := F_M) (N := 14) hx hb hT i_M hown hK hP 0 rfl rfl 11 (by decide) (hT _ m_764) (fun _ h9 => h9) rfl d_M_second_19 ?_
    refine lv_if_eq (tgt := 33) hx hb d_M_second_22 (by decide) (fun c_2 => ?_) (fun c_2 => ?_)
    · refine lv_aload_n hx hb d_M_second_33 rfl (lv_at hl 0 rfl) ?_
      refine lv_aload_n hx hb d_M_second_34 rfl (lv_at hl 0 rfl) ?_
      obtain ⟨rg, ft, h1, h2, hP⟩ := id hw
      refine va_get (D := (dC, dI)) (ci := 2) (v := .int f) (C := R_M) (T := F_M) (N := 14) hx hb hT i_M hown hK hP 0 rfl rfl 11 (by decide) (hT _ m_764) (fun _ h9 => h9) rfl d_M_second_35 ?_
      refine rg_M_second_38 S inC hT (Nat.le_of_ble_eq_true rfl) (Nat.le_of_ble_eq_true rfl) ⟨(Nat.le_of_ble_eq_true rfl), (Nat.le_of_ble_eq_true rfl)⟩ hK hw hl ?_
      refine call_M_name S inC m_833 ⟨(Nat.le_of_ble_eq_true rfl), (Nat.le_of_ble_eq_true rfl)⟩ hl.1 (Nat.le_of_ble_eq_true rfl) d_M_second_50 ⟨(Nat.le_of_ble_eq_true rfl), (Nat.le_of_ble_eq_true rfl)⟩ hK ap ok hS hA hw (by omega) (fun H locs hw hS _ => ?_)
      have hL1 := sName_le (q_M_second_38 bi d a b f) st
      refine lv_aload_n hx hb d_M_second_53 rfl (lv_at hl 0 rfl) ?_
      refine lv_aload_n hx hb d_M_second_54 rfl (lv_at hl 0 rfl) ?_
      obtain ⟨rg, ft, h1, h2, hP⟩ := id hw
      refine va_get (D := (dC, dI)) (ci := 2) (v := .int d) (C := R_M) (T := F_M) (N := 14) hx hb hT i_M hown hK hP 0 rfl rfl 8 (by decide) (hT _ m_761) (fun _ h9 => h9) rfl d_M_second_55 ?_
      refine call_M_register S inC m_846 ⟨(Nat.le_of_ble_eq_true rfl), (Nat.le_of_ble_eq_true rfl)⟩ hl.1 (Nat.le_of_ble_eq_true rfl) d_M_second_58 ⟨(Nat.le_of_ble_eq_true rfl), (Nat.le_of_ble_eq_true rfl)⟩ hK ap ok hS hA hw ok.1 (by omega) (fun H locs hw hS _ => ?_)
      have hL2 := sReg_le d (sName (q_M_second_38 bi d a b f) st)
      refine lv_aload_n hx hb d_M_second_61 rfl (lv_at hl 0 rfl) ?_
      refine lv_aload_n hx hb d_M_second_62 rfl (lv_at hl 0 rfl) ?_
      refine call_M_six S inC m_983 ⟨(Nat.le_of_ble_eq_true rfl), (Nat.le_of_ble_eq_true rfl)⟩ hl.1 (Nat.le_of_ble_eq_true rfl) d_M_second_63 ⟨(Nat.le_of_ble_eq_true rfl), (Nat.le_of_ble_eq_true rfl)⟩ hK hw ?_
      refine call_M_immediate S inC m_877 ⟨(Nat.le_of_ble_eq_true rfl), (Nat.le_of_ble_eq_true rfl)⟩ hl.1 (Nat.le_of_ble_eq_true rfl) d_M_second_66 ⟨(Nat.le_of_ble_eq_true rfl), (Nat.le_of_ble_eq_true rfl)⟩ hK ap ok hS hA hw (by omega) (fun H locs hw hS _ => ?_)
      have hL3 := gl_M_immediate bi d a b f (f_M_six bi) (sReg d (sName (q_M_second_38 bi d a b f) st))
      refine lv_goto (tgt := 238) hx hb d_M_second_69 (by decide) ?_
      exact W.vret hx hb hr (fun t ht hW => ⟨⟨(), rfl, trivial, ⟨_, _, _, _, ok, mwd_at ht (mwd_eq (by rw [g_M_second, if_neg c_1, if_pos c_2]) hw)⟩⟩, hS.F ht⟩) hS.2.2 d_M_second_238
    · refine lv_aload_n hx hb d_M_second_25 rfl (lv_at hl 0 rfl) ?_
      obtain ⟨rg, ft, h1, h2, hP⟩ := id hw
      refine va_get (D := (dC, dI)) (ci := 2) (v := .int f) (C := R_M) (T := F_M) (N := 14) hx hb hT i_M hown hK hP 0 rfl rfl 11 (by decide) (hT _ m_764) (fun _ h9 => h9) rfl d_M_second_26 ?_
      refine lv_iconst (v := 2) hx hb d_M_second_29 (by decide) ?_
      refine lv_icmp_ne (tgt := 72) hx hb d_M_second_30 (by decide) (fun c_3 => ?_) (fun c_3 => ?_)
      · refine lv_aload_n hx hb d_M_second_72 rfl (lv_at hl 0 rfl) ?_
        obtain ⟨rg, ft, h1, h2, hP⟩ := id hw
        refine va_get (D := (dC, dI)) (ci := 2) (v := .int f) (C := R_M) (T := F_M) (N := 14) hx hb hT i_M hown hK hP 0 rfl rfl 11 (by decide) (hT _ m_764) (fun _ h9 => h9) rfl d_M_second_73 ?_
        refine lv_iconst (v := 1) hx hb d_M_second_76 (by decide) ?_
        refine lv_icmp_eq (tgt := 88) hx hb d_M_second_77 (by decide) (fun c_4 => ?_) (fun c_4 => ?_)
        · refine lv_aload_n hx hb d_M_second_88 rfl (lv_at hl 0 rfl) ?_
          refine lv_aload_n hx hb d_M_second_89 rfl (lv_at hl 0 rfl) ?_
          obtain ⟨rg, ft, h1, h2, hP⟩ := id hw
          refine va_get (D := (dC, dI)) (ci := 2) (v := .int f) (C := R_M) (T := F_M) (N := 14) hx hb hT i_M hown hK hP 0 rfl rfl 11 (by decide) (hT _ m_764) (fun _ h9 => h9) rfl d_M_second_90 ?_
          refine lv_iconst (v := 1) hx hb d_M_second_93 (by decide) ?_
          refine rg_M_second_94 S inC hT (Nat.le_of_ble_eq_true rfl) (Nat.le_of_ble_eq_true rfl) ⟨(Nat.le_of_ble_eq_true rfl), (Nat.le_of_ble_eq_true rfl)⟩ hK hw hl ?_
          refine call_M_jump S inC m_989 ⟨(Nat.le_of_ble_eq_true rfl), (Nat.le_of_ble_eq_true rfl)⟩ hl.1 (Nat.le_of_ble_eq_true rfl) d_M_second_106 ⟨(Nat.le_of_ble_eq_true rfl), (Nat.le_of_ble_eq_true rfl)⟩ hK ap ok hS hA hw (by omega) (fun H locs hw hS _ => ?_)
          have hL4 := gl_M_jump bi d a b f (q_M_second_94 bi d a b f) st
          refine lv_goto (tgt := 238) hx hb d_M_second_109 (by decide) ?_
          exact W.vret hx hb hr (fun t ht hW => ⟨⟨(), rfl, trivial, ⟨_, _, _, _, ok, mwd_at ht (mwd_eq (by rw [g_M_second, if_neg c_1, if_neg c_2, if_neg c_3, if_pos c_4]) hw)⟩⟩, hS.F ht⟩) hS.2.2 d_M_second_238
        · refine lv_aload_n hx hb d_M_second_80 rfl (lv_at hl 0 rfl) ?_
          obtain ⟨rg, ft, h1, h2, hP⟩ := id hw
          refine va_get (D := (dC, dI)) (ci := 2) (v := .int f) (C := R_M) (T := F_M) (N := 14) hx hb hT i_M hown hK hP 0 rfl rfl 11 (by decide) (hT _ m_764) (fun _ h9 => h9) rfl d_M_second_81 ?_
          refine lv_iconst (v := 5) hx hb d_M_second_84 (by decide) ?_
          refine lv_icmp_ne (tgt := 112) hx hb d_M_second_85 (by decide) (fun c_5 => ?_) (fun c_5 => ?_)
          · refine lv_aload_n hx hb d_M_second_112 rfl (lv_at hl 0 rfl) ?_
            obtain ⟨rg, ft, h1, h2, hP⟩ := id hw
            refine va_get (D := (dC, dI)) (ci := 2) (v := .int f) (C := R_M) (T := F_M) (N := 14) hx hb hT i_M hown hK hP 0 rfl rfl 11 (by decide) (hT _ m_764) (fun _ h9 => h9) rfl d_M_second_113 ?_
            refine lv_iconst (v := 3) hx hb d_M_second_116 (by decide) ?_
            refine lv_icmp_ne (tgt := 127) hx hb d_M_second_117 (by decide) (fun c_6 => ?_) (fun c_6 => ?_)
            · refine lv_aload_n hx hb d_M_second_127 rfl (lv_at hl 0 rfl) ?_
              obtain ⟨rg, ft, h1, h2, hP⟩ := id hw
              refine va_get (D := (dC, dI)) (ci := 2) (v := .int f) (C := R_M) (T := F_M) (N := 14) hx hb hT i_M hown hK hP 0 rfl rfl 11 (by decide) (hT _ m_764) (fun _ h9 => h9) rfl d_M_second_128 ?_
              refine lv_iconst (v := 4) hx hb d_M_second_131 (by decide) ?_
              refine lv_icmp_ne (tgt := 149) hx hb d_M_second_132 (by decide) (fun c_7 => ?_) (fun c_7 => ?_)
              · refine lv_aload_n hx hb d_M_second_149 rfl (lv_at hl 0 rfl) ?_
                refine lv_aload_n hx hb d_M_second_150 rfl (lv_at hl 0 rfl) ?_
                obtain ⟨rg, ft, h1, h2, hP⟩ := id hw
                refine va_get (D := (dC, dI)) (ci := 2) (v := .int f) (C := R_M) (T := F_M) (N := 14) hx hb hT i_M hown hK hP 0 rfl rfl 11 (by decide) (hT _ m_764) (fun _ h9 => h9) rfl d_M_second_151 ?_
                refine lv_bipush (v := 6) hx hb d_M_second_154 (by decide) ?_
                refine rg_M_second_156 S inC hT (Nat.le_of_ble_eq_true rfl) (Nat.le_of_ble_eq_true rfl) ⟨(Nat.le_of_ble_eq_true rfl), (Nat.le_of_ble_eq_true rfl)⟩ hK hw hl ?_
                refine call_M_name S inC m_833 ⟨(Nat.le_of_ble_eq_true rfl), (Nat.le_of_ble_eq_true rfl)⟩ hl.1 (Nat.le_of_ble_eq_true rfl) d_M_second_168 ⟨(Nat.le_of_ble_eq_true rfl), (Nat.le_of_ble_eq_true rfl)⟩ hK ap ok hS hA hw (by omega) (fun H locs hw hS _ => ?_)
                have hL5 := sName_le (q_M_second_156 bi d a b f) st
                refine lv_aload_n hx hb d_M_second_171 rfl (lv_at hl 0 rfl) ?_
                refine lv_bipush (v := 8) hx hb d_M_second_172 (by decide) ?_
                refine lv_aload_n hx hb d_M_second_174 rfl (lv_at hl 0 rfl) ?_
                refine lv_bipush (v := 7) hx hb d_M_second_175 (by decide) ?_
                refine lv_iconst (v := 3) hx hb d_M_second_177 (by decide) ?_
                refine call_M_part S inC m_809 ⟨(Nat.le_of_ble_eq_true rfl), (Nat.le_of_ble_eq_true rfl)⟩ hl.1 (Nat.le_of_ble_eq_true rfl) d_M_second_178 ⟨(Nat.le_of_ble_eq_true rfl), (Nat.le_of_ble_eq_true rfl)⟩ hK hw ?_
                refine lv_iadd hx hb d_M_second_181 ?_
                refine call_M_register S inC m_846 ⟨(Nat.le_of_ble_eq_true rfl), (Nat.le_of_ble_eq_true rfl)⟩ hl.1 (Nat.le_of_ble_eq_true rfl) d_M_second_182 ⟨(Nat.le_of_ble_eq_true rfl), (Nat.le_of_ble_eq_true rfl)⟩ hK ap ok hS hA hw (lo_in _ _) (by omega) (fun H locs hw hS _ => ?_)
                have hL6 := sReg_le ((8 : Int32) + (f_M_part bi 7 3)) (sName (q_M_second_156 bi d a b f) st)
                refine lv_aload_n hx hb d_M_second_185 rfl (lv_at hl 0 rfl) ?_
                refine lv_aload_n hx hb d_M_second_186 rfl (lv_at hl 0 rfl) ?_
                refine lv_iconst (v := 3) hx hb d_M_second_187 (by decide) ?_
                refine lv_iconst (v := 2) hx hb d_M_second_188 (by decide) ?_
                refine call_M_part S inC m_809 ⟨(Nat.le_of_ble_eq_true rfl), (Nat.le_of_ble_eq_true rfl)⟩ hl.1 (Nat.le_of_ble_eq_true rfl) d_M_second_189 ⟨(Nat.le_of_ble_eq_true rfl), (Nat.le_of_ble_eq_true rfl)⟩ hK hw ?_
                refine lv_iconst (v := 1) hx hb d_M_second_192 (by decide) ?_
                refine lv_ishl hx hb d_M_second_193 ?_
                refine lv_aload_n hx hb d_M_second_194 rfl (lv_at hl 0 rfl) ?_
                refine lv_bipush (v := 10) hx hb d_M_second_195 (by decide) ?_
                refine lv_iconst (v := 2) hx hb d_M_second_197 (by decide) ?_
                refine call_M_part S inC m_809 ⟨(Nat.le_of_ble_eq_true rfl), (Nat.le_of_ble_eq_true rfl)⟩ hl.1 (Nat.le_of_ble_eq_true rfl) d_M_second_198 ⟨(Nat.le_of_ble_eq_true rfl), (Nat.le_of_ble_eq_true rfl)⟩ hK hw ?_
                refine lv_iconst (v := 3) hx hb d_M_second_201 (by decide) ?_
                refine lv_ishl hx hb d_M_second_202 ?_
                refine lv_ior hx hb d_M_second_203 ?_
                refine lv_aload_n hx hb d_M_second_204 rfl (lv_at hl 0 rfl) ?_
                refine lv_iconst (v := 2) hx hb d_M_second_205 (by decide) ?_
                refine lv_iconst (v := 1) hx hb d_M_second_206 (by decide) ?_
                refine call_M_part S inC m_809 ⟨(Nat.le_of_ble_eq_true rfl), (Nat.le_of_ble_eq_true rfl)⟩ hl.1 (Nat.le_of_ble_eq_true rfl) d_M_second_207 ⟨(Nat.le_of_ble_eq_true rfl), (Nat.le_of_ble_eq_true rfl)⟩ hK hw ?_
                refine lv_iconst (v := 5) hx hb d_M_second_210 (by decide) ?_
                refine lv_ishl hx hb d_M_second_211 ?_
                refine lv_ior hx hb d_M_second_212 ?_
                refine lv_aload_n hx hb d_M_second_213 rfl (lv_at hl 0 rfl) ?_
                refine lv_iconst (v := 5) hx hb d_M_second_214 (by decide) ?_
                refine lv_iconst (v := 2) hx hb d_M_second_215 (by decide) ?_
                refine call_M_part S inC m_809 ⟨(Nat.le_of_ble_eq_true rfl), (Nat.le_of_ble_eq_true rfl)⟩ hl.1 (Nat.le_of_ble_eq_true rfl) d_M_second_216 ⟨(Nat.le_of_ble_eq_true rfl), (Nat.le_of_ble_eq_true rfl)⟩ hK hw ?_
                refine lv_bipush (v := 6) hx hb d_M_second_219 (by decide) ?_
                refine lv_ishl hx hb d_M_second_221 ?_
                refine lv_ior hx hb d_M_second_222 ?_
                refine lv_aload_n hx hb d_M_second_223 rfl (lv_at hl 0 rfl) ?_
                refine lv_bipush (v := 12) hx hb d_M_second_224 (by decide) ?_
                refine lv_iconst (v := 1) hx hb d_M_second_226 (by decide) ?_
                refine call_M_part S inC m_809 ⟨(Nat.le_of_ble_eq_true rfl), (Nat.le_of_ble_eq_true rfl)⟩ hl.1 (Nat.le_of_ble_eq_true rfl) d_M_second_227 ⟨(Nat.le_of_ble_eq_true rfl), (Nat.le_of_ble_eq_true rfl)⟩ hK hw ?_
                refine lv_ineg hx hb d_M_second_230 ?_
                refine lv_bipush (v := 8) hx hb d_M_second_231 (by decide) ?_
                refine lv_ishl hx hb d_M_second_233 ?_
                refine lv_ior hx hb d_M_second_234 ?_
                refine call_M_target S inC m_926 ⟨(Nat.le_of_ble_eq_true rfl), (Nat.le_of_ble_eq_true rfl)⟩ hl.1 (Nat.le_of_ble_eq_true rfl) d_M_second_235 ⟨(Nat.le_of_ble_eq_true rfl), (Nat.le_of_ble_eq_true rfl)⟩ hK ap ok hS hA hw (by omega) (fun H locs hw hS _ => ?_)
                have hL7 := gl_M_target bi d a b f ((((((f_M_part bi 3 2) <<< ((1 : Int32) &&& 31)) ||| ((f_M_part bi 10 2) <<< ((3 : Int32) &&& 31))) ||| ((f_M_part bi 2 1) <<< ((5 : Int32) &&& 31))) ||| ((f_M_part bi 5 2) <<< ((6 : Int32) &&& 31))) ||| ((-(f_M_part bi 12 1)) <<< ((8 : Int32) &&& 31))) (sReg ((8 : Int32) + (f_M_part bi 7 3)) (sName (q_M_second_156 bi d a b f) st))
                exact W.vret hx hb hr (fun t ht hW => ⟨⟨(), rfl, trivial, ⟨_, _, _, _, ok, mwd_at ht (mwd_eq (by rw [g_M_second, if_neg c_1, if_neg c_2, if_neg c_3, if_neg c_4, if_neg c_5, if_neg c_6, if_neg c_7]) hw)⟩⟩, hS.F ht⟩) hS.2.2 d_M_second_238
              · refine lv_aload_n hx hb d_M_second_135 rfl (lv_at hl 0 rfl) ?_
                refine lv_aload_n hx hb d_M_second_136 rfl (lv_at hl 0 rfl) ?_
                refine lv_bipush (v := 10) hx hb d_M_second_137 (by decide) ?_
                refine lv_iconst (v := 2) hx hb d_M_second_139 (by decide) ?_
                refine call_M_part S inC m_809 ⟨(Nat.le_of_ble_eq_true rfl), (Nat.le_of_ble_eq_true rfl)⟩ hl.1 (Nat.le_of_ble_eq_true rfl) d_M_second_140 ⟨(Nat.le_of_ble_eq_true rfl), (Nat.le_of_ble_eq_true rfl)⟩ hK hw ?_
                refine call_M_reckon S inC m_1000 ⟨(Nat.le_of_ble_eq_true rfl), (Nat.le_of_ble_eq_true rfl)⟩ hl.1 (Nat.le_of_ble_eq_true rfl) d_M_second_143 ⟨(Nat.le_of_ble_eq_true rfl), (Nat.le_of_ble_eq_true rfl)⟩ hK ap ok hS hA hw (by omega) (fun H locs hw hS _ => ?_)
                have hL8 := gl_M_reckon bi d a b f (f_M_part bi 10 2) st
                refine lv_goto (tgt := 238) hx hb d_M_second_146 (by decide) ?_
                exact W.vret hx hb hr (fun t ht hW => ⟨⟨(), rfl, trivial, ⟨_, _, _, _, ok, mwd_at ht (mwd_eq (by rw [g_M_second, if_neg c_1, if_neg c_2, if_neg c_3, if_neg c_4, if_neg c_5, if_neg c_6, if_pos c_7]) hw)⟩⟩, hS.F ht⟩) hS.2.2 d_M_second_238
            · refine lv_aload_n hx hb d_M_second_120 rfl (lv_at hl 0 rfl) ?_
              refine call_M_upper S inC m_993 ⟨(Nat.le_of_ble_eq_true rfl), (Nat.le_of_ble_eq_true rfl)⟩ hl.1 (Nat.le_of_ble_eq_true rfl) d_M_second_121 ⟨(Nat.le_of_ble_eq_true rfl), (Nat.le_of_ble_eq_true rfl)⟩ hK ap ok hS hA hw (by omega) (fun H locs hw hS _ => ?_)
              have hL9 := gl_M_upper bi d a b f st
              refine lv_goto (tgt := 238) hx hb d_M_second_124 (by decide) ?_
              exact W.vret hx hb hr (fun t ht hW => ⟨⟨(), rfl, trivial, ⟨_, _, _, _, ok, mwd_at ht (mwd_eq (by rw [g_M_second, if_neg c_1, if_neg c_2, if_neg c_3, if_neg c_4, if_neg c_5, if_pos c_6]) hw)⟩⟩, hS.F ht⟩) hS.2.2 d_M_second_238
          · refine lv_aload_n hx hb d_M_second_88 rfl (lv_at hl 0 rfl) ?_
            refine lv_aload_n hx hb d_M_second_89 rfl (lv_at hl 0 rfl) ?_
            obtain ⟨rg, ft, h1, h2, hP⟩ := id hw
            refine va_get (D := (dC, dI)) (ci := 2) (v := .int f) (C := R_M) (T := F_M) (N := 14) hx hb hT i_M hown hK hP 0 rfl rfl 11 (by decide) (hT _ m_764) (fun _ h9 => h9) rfl d_M_second_90 ?_
            refine lv_iconst (v := 1) hx hb d_M_second_93 (by decide) ?_
            refine rg_M_second_94 S inC hT (Nat.le_of_ble_eq_true rfl) (Nat.le_of_ble_eq_true rfl) ⟨(Nat.le_of_ble_eq_true rfl), (Nat.le_of_ble_eq_true rfl)⟩ hK hw hl ?_
            refine call_M_jump S inC m_989 ⟨(Nat.le_of_ble_eq_true rfl), (Nat.le_of_ble_eq_true rfl)⟩ hl.1 (Nat.le_of_ble_eq_true rfl) d_M_second_106 ⟨(Nat.le_of_ble_eq_true rfl), (Nat.le_of_ble_eq_true rfl)⟩ hK ap ok hS hA hw (by omega) (fun H locs hw hS _ => ?_)
            have hL10 := gl_M_jump bi d a b f (q_M_second_94 bi d a b f) st
            refine lv_goto (tgt := 238) hx hb d_M_second_109 (by decide) ?_
            exact W.vret hx hb hr (fun t ht hW => ⟨⟨(), rfl, trivial, ⟨_, _, _, _, ok, mwd_at ht (mwd_eq (by rw [g_M_second, if_neg c_1, if_neg c_2, if_neg c_3, if_neg c_4, if_pos c_5]) hw)⟩⟩, hS.F ht⟩) hS.2.2 d_M_second_238
      · refine lv_aload_n hx hb d_M_second_33 rfl (lv_at hl 0 rfl) ?_
        refine lv_aload_n hx hb d_M_second_34 rfl (lv_at hl 0 rfl) ?_
        obtain ⟨rg, ft, h1, h2, hP⟩ := id hw
        refine va_get (D := (dC, dI)) (ci := 2) (v := .int f) (C := R_M) (T := F_M) (N := 14) hx hb hT i_M hown hK hP 0 rfl rfl 11 (by decide) (hT _ m_764) (fun _ h9 => h9) rfl d_M_second_35 ?_
        refine rg_M_second_38 S inC hT (Nat.le_of_ble_eq_true rfl) (Nat.le_of_ble_eq_true rfl) ⟨(Nat.le_of_ble_eq_true rfl), (Nat.le_of_ble_eq_true rfl)⟩ hK hw hl ?_
        refine call_M_name S inC m_833 ⟨(Nat.le_of_ble_eq_true rfl), (Nat.le_of_ble_eq_true rfl)⟩ hl.1 (Nat.le_of_ble_eq_true rfl) d_M_second_50 ⟨(Nat.le_of_ble_eq_true rfl), (Nat.le_of_ble_eq_true rfl)⟩ hK ap ok hS hA hw (by omega) (fun H locs hw hS _ => ?_)
        have hL11 := sName_le (q_M_second_38 bi d a b f) st
        refine lv_aload_n hx hb d_M_second_53 rfl (lv_at hl 0 rfl) ?_
        refine lv_aload_n hx hb d_M_second_54 rfl (lv_at hl 0 rfl) ?_
        obtain ⟨rg, ft, h1, h2, hP⟩ := id hw
        refine va_get (D := (dC, dI)) (ci := 2) (v := .int d) (C := R_M) (T := F_M) (N := 14) hx hb hT i_M hown hK hP 0 rfl rfl 8 (by decide) (hT _ m_761) (fun _ h9 => h9) rfl d_M_second_55 ?_
        refine call_M_register S inC m_846 ⟨(Nat.le_of_ble_eq_true rfl), (Nat.le_of_ble_eq_true rfl)⟩ hl.1 (Nat.le_of_ble_eq_true rfl) d_M_second_58 ⟨(Nat.le_of_ble_eq_true rfl), (Nat.le_of_ble_eq_true rfl)⟩ hK ap ok hS hA hw ok.1 (by omega) (fun H locs hw hS _ => ?_)
        have hL12 := sReg_le d (sName (q_M_second_38 bi d a b f) st)
        refine lv_aload_n hx hb d_M_second_61 rfl (lv_at hl 0 rfl) ?_
        refine lv_aload_n hx hb d_M_second_62 rfl (lv_at hl 0 rfl) ?_
        refine call_M_six S inC m_983 ⟨(Nat.le_of_ble_eq_true rfl), (Nat.le_of_ble_eq_true rfl)⟩ hl.1 (Nat.le_of_ble_eq_true rfl) d_M_second_63 ⟨(Nat.le_of_ble_eq_true rfl), (Nat.le_of_ble_eq_true rfl)⟩ hK hw ?_
        refine call_M_immediate S inC m_877 ⟨(Nat.le_of_ble_eq_true rfl), (Nat.le_of_ble_eq_true rfl)⟩ hl.1 (Nat.le_of_ble_eq_true rfl) d_M_second_66 ⟨(Nat.le_of_ble_eq_true rfl), (Nat.le_of_ble_eq_true rfl)⟩ hK ap ok hS hA hw (by omega) (fun H locs hw hS _ => ?_)
        have hL13 := gl_M_immediate bi d a b f (f_M_six bi) (sReg d (sName (q_M_second_38 bi d a b f) st))
        refine lv_goto (tgt := 238) hx hb d_M_second_69 (by decide) ?_
        exact W.vret hx hb hr (fun t ht hW => ⟨⟨(), rfl, trivial, ⟨_, _, _, _, ok, mwd_at ht (mwd_eq (by rw [g_M_second, if_neg c_1, if_neg c_2, if_pos c_3]) hw)⟩⟩, hS.F ht⟩) hS.2.2 d_M_second_238
  · refine lv_aload_n hx hb d_M_second_8 rfl (lv_at hl 0 rfl) ?_
    refine lv_ldc2 (v := 482905828963) hx hb hown (hT _ m_980) d_M_second_9 ?_
    refine call_M_name S inC m_833 ⟨(Nat.le_of_ble_eq_true rfl), (Nat.le_of_ble_eq_true rfl)⟩ hl.1 (Nat.le_of_ble_eq_true rfl) d_M_second_12 ⟨(Nat.le_of_ble_eq_true rfl), (Nat.le_of_ble_eq_true rfl)⟩ hK ap ok hS hA hw (by omega) (fun H locs hw hS _ => ?_)
    have hL14 := sName_le 482905828963 st
    refine lv_goto (tgt := 238) hx hb d_M_second_15 (by decide) ?_
    exact W.vret hx hb hr (fun t ht hW => ⟨⟨(), rfl, trivial, ⟨_, _, _, _, ok, mwd_at ht (mwd_eq (by rw [g_M_second, if_pos c_1]) hw)⟩⟩, hS.F ht⟩) hS.2.2 d_M_second_238
theorem call_M_second {p : Program} {l : Launch} {e : Env} {R : Room} {s : State} {m : MethodId} {args : Array Value} {below : List Frame} {meth : Method} {c : Code} {H : Heap} {locs : List Loc} {cells slots : Nat} {Q : State → Prop} {cc : ByteArray} {pc nL idx : Nat} {ls : Array Slot} {rest : List Value} {Ts : List Cond} {own : String} {A0 : Nat → Prop} {H0 : Heap} {dC : Nat → ClassId} {dI : Nat → Nat → Nat} {cI cC : ClassId} {m0 mt ms mr mk : Nat} {th yb bi d a b f : Int32} {str fk : Nat → Int32} {st : MT}  (S : CallFix p m c cc nL s args Ts own) (hTs : ∀ w ∈ WT, w ∈ Ts) (hlk : Cond.methodLink own idx y_M_second ∈ WT) (hR : 5 + 1 ≤ R.frames ∧ 8 + (1 + 11) + 113 ≤ R.locals) (hsz : ls.size = nL) (hrm : (rest.map fun v => v.category).sum ≤ 8) (hdg : decode cc pc = .ok (.invokevirtual idx, 3)) (hc : cells ≤ R.cells ∧ slots ≤ R.slots) (hK : rK dC dI cI cC s) (ap : apM m0 mt ms mr mk) (ok : mOk d a b) (hS : va_S A0 H0 H locs) (hA : ∀ q, aM m0 mt ms mr mk q → A0 q) (hw : mwd dC dI cI cC m0 mt ms mr mk th yb bi d a b f str fk st H) (hlen : st.2.2.length + 33 ≤ 64) (kk : ∀ (H1 : Heap) (locs1 : List Loc), mwe dC dI cI cC m0 mt ms mr mk th yb bi str fk (g_M_second bi d a b f  st) H1 → va_S A0 H0 H1 locs1 → (H.size ≤ H1.size ∧ ∀ q : Nat, q < H.size → ¬ aM m0 mt ms mr mk q → H1[q]? = H[q]?) → W p l e R s m args below meth c H1 locs1 cells slots Q (F0 m (pc + 3) ls (rest))) : W p l e R s m args below meth c H locs cells slots Q (F0 m pc ls (.ref m0 :: rest)) :=
  va_callv (va_runV (As := []) (rest := rest) S (c_M_second l dC dI cI cC m0 mt ms mr mk th yb bi d a b f str fk st ) (cwV 0 S.2.2.2.2 (gV hTs hlk m_978 m_40 m_52 m_979) rfl rfl rfl (by decide +kernel) hR) ⟨fun a U g mk q => ⟨q.1, ⟨q.2.1.blind, q.2.2⟩⟩, mwd.recv hK hw, fun U hU hW => ⟨rfl, ⟨mU.at hK ap ok hw hU hW, hlen⟩⟩⟩ rfl rfl hsz rfl (lv_room hrm) hdg hc) hS (fun q _ h => hA q h) hA (fun u t H1 locs1 ht hvm hp hB hz hk hS1 => kk H1 locs1 (by rw [← ht]; exact hB) hS1 ⟨hz, hk⟩)

def q_M_third_8 (bi d a b f : Int32) : Int32 :=
  if (f_M_part bi 12 1) = 1 then
    1
  else
    0
set_option maxRecDepth 100000 in
set_option maxHeartbeats 4000000 in
theorem rg_M_third_8 {p : Program} {l : Launch} {e : Env} {R : Room} {s : State} {m : MethodId} {args : Array Value} {below : List Frame} {meth : Method} {c : Code} {cells slots : Nat} {Q : State → Prop} {Ts : List Cond} {dC : Nat → ClassId} {dI : Nat → Nat → Nat} {cI cC : ClassId} {m0 mt ms mr mk : Nat} {th yb bi d a b f : Int32} {str fk : Nat → Int32} {st : MT} {H : Heap} {locs : List Loc} {ls : Array Slot} (S : CallFix p m c b_M_third 2 s args Ts R_M) (hTs : ∀ w ∈ WT, w ∈ Ts) (hT : ∀ w ∈ WT, w.before args s = true) (hfr : 1 ≤ R.frames) (hlo : 1 ≤ R.locals) (hc : cells ≤ R.cells ∧ slots ≤ R.slots) (hK : rK dC dI cI cC s) (hw : mwd dC dI cI cC m0 mt ms mr mk th yb bi d a b f str fk st H) (hl : lv_has ls 2 [(0, .ref m0)]) (kk : W p l e R s m args below meth c H locs cells slots Q (F0 m 16 ls (.int (q_M_third_8 bi d a b f) :: []))) : W p l e R s m args below meth c H locs cells slots Q (F0 m 8 ls (.int 1 :: .int (f_M_part bi 12 1) :: [])) := by
  have hx := S.1
  have hb := S.2.1
  have hown := S.2.2.2.1
  refine lv_icmp_ne (tgt := 15) hx hb d_M_third_8 (by decide) (fun c_1 => ?_) (fun c_1 => ?_)
  · refine lv_iconst (v := 0) hx hb d_M_third_15 (by decide) ?_
    rw [q_M_third_8, if_neg c_1] at kk
    exact kk
  · refine lv_iconst (v := 1) hx hb d_M_third_11 (by decide) ?_
    refine lv_goto (tgt := 16) hx hb d_M_third_12 (by decide) ?_
    rw [q_M_third_8, if_pos c_1] at kk
    exact kk
def q_M_third_248 (bi d a b f y1 : Int32) : Int64 :=
  if y1 = 0 then
    1919561315
  else
    125809816383075
set_option maxRecDepth 100000 in
set_option maxHeartbeats 4000000 in
theorem rg_M_third_248 {p : Program} {l : Launch} {e : Env} {R : Room} {s : State} {m : MethodId} {args : Array Value} {below : List Frame} {meth : Method} {c : Code} {cells slots : Nat} {Q : State → Prop} {Ts : List Cond} {dC : Nat → ClassId} {dI : Nat → Nat → Nat} {cI cC : ClassId} {m0 mt ms mr mk : Nat} {th yb bi d a b f : Int32} {str fk : Nat → Int32} {st : MT} {H : Heap} {locs : List Loc} {ls : Array Slot} {y1 : Int32} (S : CallFix p m c b_M_third 2 s args Ts R_M) (hTs : ∀ w ∈ WT, w ∈ Ts) (hT : ∀ w ∈ WT, w.before args s = true) (hfr : 1 ≤ R.frames) (hlo : 1 ≤ R.locals) (hc : cells ≤ R.cells ∧ slots ≤ R.slots) (hK : rK dC dI cI cC s) (hw : mwd dC dI cI cC m0 mt ms mr mk th yb bi d a b f str fk st H) (hl : lv_has ls 2 [(1, .int y1), (0, .ref m0)]) (kk : W p l e R s m args below meth c H locs cells slots Q (F0 m 260 ls (.long (q_M_third_248 bi d a b f y1) :: [.ref m0]))) : W p l e R s m args below meth c H locs cells slots Q (F0 m 248 ls (.int y1 :: [.ref m0])) := by
  have hx := S.1
  have hb := S.2.1
  have hown := S.2.2.2.1
  refine lv_if_eq (tgt := 257) hx hb d_M_third_248 (by decide) (fun c_1 => ?_) (fun c_1 => ?_)
  · refine lv_ldc2 (v := 1919561315) hx hb hown (hT _ m_1023) d_M_third_257 ?_
    rw [q_M_third_248, if_pos c_1] at kk
    exact kk
  · refine lv_ldc2 (v := 125809816383075) hx hb hown (hT _ m_1022) d_M_third_251 ?_
    refine lv_goto (tgt := 260) hx hb d_M_third_254 (by decide) ?_
    rw [q_M_third_248, if_neg c_1] at kk
    exact kk
def q_M_third_197 (bi d a b f y1 : Int32) : Int64 :=
  if y1 = 0 then
    1986866787
  else
    431180820067
set_option maxRecDepth 100000 in
set_option maxHeartbeats 4000000 in
theorem rg_M_third_197 {p : Program} {l : Launch} {e : Env} {R : Room} {s : State} {m : MethodId} {args : Array Value} {below : List Frame} {meth : Method} {c : Code} {cells slots : Nat} {Q : State → Prop} {Ts : List Cond} {dC : Nat → ClassId} {dI : Nat → Nat → Nat} {cI cC : ClassId} {m0 mt ms mr mk : Nat} {th yb bi d a b f : Int32} {str fk : Nat → Int32} {st : MT} {H : Heap} {locs : List Loc} {ls : Array Slot} {y1 : Int32} (S : CallFix p m c b_M_third 2 s args Ts R_M) (hTs : ∀ w ∈ WT, w ∈ Ts) (hT : ∀ w ∈ WT, w.before args s = true) (hfr : 1 ≤ R.frames) (hlo : 1 ≤ R.locals) (hc : cells ≤ R.cells ∧ slots ≤ R.slots) (hK : rK dC dI cI cC s) (hw : mwd dC dI cI cC m0 mt ms mr mk th yb bi d a b f str fk st H) (hl : lv_has ls 2 [(1, .int y1), (0, .ref m0)]) (kk : W p l e R s m args below meth c H locs cells slots Q (F0 m 209 ls (.long (q_M_third_197 bi d a b f y1) :: [.ref m0]))) : W p l e R s m args below meth c H locs cells slots Q (F0 m 197 ls (.int y1 :: [.ref m0])) := by
  have hx := S.1
  have hb := S.2.1
  have hown := S.2.2.2.1
  refine lv_if_eq (tgt := 206) hx hb d_M_third_197 (by decide) (fun c_1 => ?_) (fun c_1 => ?_)
  · refine lv_ldc2 (v := 1986866787) hx hb hown (hT _ m_1021) d_M_third_206 ?_
    rw [q_M_third_197, if_pos c_1] at kk
    exact kk
  · refine lv_ldc2 (v := 431180820067) hx hb hown (hT _ m_1020) d_M_third_200 ?_
    refine lv_goto (tgt := 209) hx hb d_M_third_203 (by decide) ?_
    rw [q_M_third_197, if_neg c_1] at kk
    exact kk
def g_M_third (bi d a b f : Int32)  (st : MT) : MT :=
  if f = 0 then
    if (q_M_third_8 bi d a b f) = 0 then
      g_M_immediate bi d a (f_M_part bi 2 5) f (f_M_part bi 2 5) (sReg d (sName 115914396872291 st))
    else
      if f = 2 then
        if d = 0 then
          if f = 6 then
            g_M_immediate bi d a (f_M_part bi 2 5) f (((f_M_part bi 9 4) <<< ((2 : Int32) &&& 31)) ||| ((f_M_part bi 7 2) <<< ((6 : Int32) &&& 31))) (sReg (f_M_part bi 2 5) (sName 123641227587171 st))
          else
            if f = 4 then
              if (f_M_part bi 2 5) = 0 then
                if f = 4 then
                  if d = 0 then
                    if f = 4 then
                      if (q_M_third_8 bi d a b f) = 0 then
                        st
                      else
                        sName 7737577176750698083 st
                    else
                      st
                  else
                    sReg d (sName (q_M_third_248 bi d a (f_M_part bi 2 5) f (q_M_third_8 bi d a b f)) st)
                else
                  if f = 4 then
                    if (q_M_third_8 bi d a b f) = 0 then
                      st
                    else
                      sName 7737577176750698083 st
                  else
                    st
              else
                sReg (f_M_part bi 2 5) (sReg d (sName (q_M_third_197 bi d a (f_M_part bi 2 5) f (q_M_third_8 bi d a b f)) st))
            else
              if f = 4 then
                if d = 0 then
                  if f = 4 then
                    if (q_M_third_8 bi d a b f) = 0 then
                      st
                    else
                      sName 7737577176750698083 st
                  else
                    st
                else
                  sReg d (sName (q_M_third_248 bi d a (f_M_part bi 2 5) f (q_M_third_8 bi d a b f)) st)
              else
                if f = 4 then
                  if (q_M_third_8 bi d a b f) = 0 then
                    st
                  else
                    sName 7737577176750698083 st
                else
                  st
        else
          g_M_immediate bi d a (f_M_part bi 2 5) f ((((f_M_part bi 12 1) <<< ((5 : Int32) &&& 31)) ||| ((f_M_part bi 4 3) <<< ((2 : Int32) &&& 31))) ||| ((f_M_part bi 2 2) <<< ((6 : Int32) &&& 31))) (sReg d (sName 123641227128419 st))
      else
        if f = 6 then
          g_M_immediate bi d a (f_M_part bi 2 5) f (((f_M_part bi 9 4) <<< ((2 : Int32) &&& 31)) ||| ((f_M_part bi 7 2) <<< ((6 : Int32) &&& 31))) (sReg (f_M_part bi 2 5) (sName 123641227587171 st))
        else
          if f = 4 then
            if (f_M_part bi 2 5) = 0 then
              if f = 4 then
                if d = 0 then
                  if f = 4 then
                    if (q_M_third_8 bi d a b f) = 0 then
                      st
                    else
                      sName 7737577176750698083 st
                  else
                    st
                else
                  sReg d (sName (q_M_third_248 bi d a (f_M_part bi 2 5) f (q_M_third_8 bi d a b f)) st)
              else
                if f = 4 then
                  if (q_M_third_8 bi d a b f) = 0 then
                    st
                  else
                    sName 7737577176750698083 st
                else
                  st
            else
              sReg (f_M_part bi 2 5) (sReg d (sName (q_M_third_197 bi d a (f_M_part bi 2 5) f (q_M_third_8 bi d a b f)) st))
          else
            if f = 4 then
              if d = 0 then
                if f = 4 then
                  if (q_M_third_8 bi d a b f) = 0 then
                    st
                  else
                    sName 7737577176750698083 st
                else
                  st
              else
                sReg d (sName (q_M_third_248 bi d a (f_M_part bi 2 5) f (q_M_third_8 bi d a b f)) st)
            else
              if f = 4 then
                if (q_M_third_8 bi d a b f) = 0 then
                  st
                else
                  sName 7737577176750698083 st
              else
                st
  else
    if f = 2 then
      if d = 0 then
        if f = 6 then
          g_M_immediate bi d a (f_M_part bi 2 5) f (((f_M_part bi 9 4) <<< ((2 : Int32) &&& 31)) ||| ((f_M_part bi 7 2) <<< ((6 : Int32) &&& 31))) (sReg (f_M_part bi 2 5) (sName 123641227587171 st))
        else
          if f = 4 then
            if (f_M_part bi 2 5) = 0 then
              if f = 4 then
                if d = 0 then
                  if f = 4 then
                    if (q_M_third_8 bi d a b f) = 0 then
                      st
                    else
                      sName 7737577176750698083 st
                  else
                    st
                else
                  sReg d (sName (q_M_third_248 bi d a (f_M_part bi 2 5) f (q_M_third_8 bi d a b f)) st)
              else
                if f = 4 then
                  if (q_M_third_8 bi d a b f) = 0 then
                    st
                  else
                    sName 7737577176750698083 st
                else
                  st
            else
              sReg (f_M_part bi 2 5) (sReg d (sName (q_M_third_197 bi d a (f_M_part bi 2 5) f (q_M_third_8 bi d a b f)) st))
          else
            if f = 4 then
              if d = 0 then
                if f = 4 then
                  if (q_M_third_8 bi d a b f) = 0 then
                    st
                  else
                    sName 7737577176750698083 st
                else
                  st
              else
                sReg d (sName (q_M_third_248 bi d a (f_M_part bi 2 5) f (q_M_third_8 bi d a b f)) st)
            else
              if f = 4 then
                if (q_M_third_8 bi d a b f) = 0 then
                  st
                else
                  sName 7737577176750698083 st
              else
                st
      else
        g_M_immediate bi d a (f_M_part bi 2 5) f ((((f_M_part bi 12 1) <<< ((5 : Int32) &&& 31)) ||| ((f_M_part bi 4 3) <<< ((2 : Int32) &&& 31))) ||| ((f_M_part bi 2 2) <<< ((6 : Int32) &&& 31))) (sReg d (sName 123641227128419 st))
    else
      if f = 6 then
        g_M_immediate bi d a (f_M_part bi 2 5) f (((f_M_part bi 9 4) <<< ((2 : Int32) &&& 31)) ||| ((f_M_part bi 7 2) <<< ((6 : Int32) &&& 31))) (sReg (f_M_part bi 2 5) (sName 123641227587171 st))
      else
        if f = 4 then
          if (f_M_part bi 2 5) = 0 then
            if f = 4 then
              if d = 0 then
                if f = 4 then
                  if (q_M_third_8 bi d a b f) = 0 then
                    st
                  else
                    sName 7737577176750698083 st
                else
                  st
              else
                sReg d (sName (q_M_third_248 bi d a (f_M_part bi 2 5) f (q_M_third_8 bi d a b f)) st)
            else
              if f = 4 then
                if (q_M_third_8 bi d a b f) = 0 then
                  st
                else
                  sName 7737577176750698083 st
              else
                st
          else
            sReg (f_M_part bi 2 5) (sReg d (sName (q_M_third_197 bi d a (f_M_part bi 2 5) f (q_M_third_8 bi d a b f)) st))
        else
          if f = 4 then
            if d = 0 then
              if f = 4 then
                if (q_M_third_8 bi d a b f) = 0 then
                  st
                else
                  sName 7737577176750698083 st
              else
                st
            else
              sReg d (sName (q_M_third_248 bi d a (f_M_part bi 2 5) f (q_M_third_8 bi d a b f)) st)
          else
            if f = 4 then
              if (q_M_third_8 bi d a b f) = 0 then
                st
              else
                sName 7737577176750698083 st
            else
              st
set_option maxRecDepth 20000 in
theorem gl_M_third (bi d a b f : Int32)  (st : MT) : (g_M_third bi d a b f  st).2.2.length ≤ st.2.2.length + 31 := by
  unfold g_M_third
  exact (it_len _ (it_len _ (by have h0 := sName_le 115914396872291 st; have h1 := sReg_le d (sName 115914396872291 st); have h2 := gl_M_immediate bi d a (f_M_part bi 2 5) f (f_M_part bi 2 5) (sReg d (sName 115914396872291 st)); omega) (it_len _ (it_len _ (it_len _ (by have h0 := sName_le 123641227587171 st; have h1 := sReg_le (f_M_part bi 2 5) (sName 123641227587171 st); have h2 := gl_M_immediate bi d a (f_M_part bi 2 5) f (((f_M_part bi 9 4) <<< ((2 : Int32) &&& 31)) ||| ((f_M_part bi 7 2) <<< ((6 : Int32) &&& 31))) (sReg (f_M_part bi 2 5) (sName 123641227587171 st)); omega) (it_len _ (it_len _ (it_len _ (it_len _ (it_len _ (it_len _ (by omega) (by have h0 := sName_le 7737577176750698083 st; omega)) (by omega)) (by have h0 := sName_le (q_M_third_248 bi d a (f_M_part bi 2 5) f (q_M_third_8 bi d a b f)) st; have h1 := sReg_le d (sName (q_M_third_248 bi d a (f_M_part bi 2 5) f (q_M_third_8 bi d a b f)) st); omega)) (it_len _ (it_len _ (by omega) (by have h0 := sName_le 7737577176750698083 st; omega)) (by omega))) (by have h0 := sName_le (q_M_third_197 bi d a (f_M_part bi 2 5) f (q_M_third_8 bi d a b f)) st; have h1 := sReg_le d (sName (q_M_third_197 bi d a (f_M_part bi 2 5) f (q_M_third_8 bi d a b f)) st); have h2 := sReg_le (f_M_part bi 2 5) (sReg d (sName (q_M_third_197 bi d a (f_M_part bi 2 5) f (q_M_third_8 bi d a b f)) st)); omega)) (it_len _ (it_len _ (it_len _ (it_len _ (by omega) (by have h0 := sName_le 7737577176750698083 st; omega)) (by omega)) (by have h0 := sName_le (q_M_third_248 bi d a (f_M_part bi 2 5) f (q_M_third_8 bi d a b f)) st; have h1 := sReg_le d (sName (q_M_third_248 bi d a (f_M_part bi 2 5) f (q_M_third_8 bi d a b f)) st); omega)) (it_len _ (it_len _ (by omega) (by have h0 := sName_le 7737577176750698083 st; omega)) (by omega))))) (by have h0 := sName_le 123641227128419 st; have h1 := sReg_le d (sName 123641227128419 st); have h2 := gl_M_immediate bi d a (f_M_part bi 2 5) f ((((f_M_part bi 12 1) <<< ((5 : Int32) &&& 31)) ||| ((f_M_part bi 4 3) <<< ((2 : Int32) &&& 31))) ||| ((f_M_part bi 2 2) <<< ((6 : Int32) &&& 31))) (sReg d (sName 123641227128419 st)); omega)) (it_len _ (by have h0 := sName_le 123641227587171 st; have h1 := sReg_le (f_M_part bi 2 5) (sName 123641227587171 st); have h2 := gl_M_immediate bi d a (f_M_part bi 2 5) f (((f_M_part bi 9 4) <<< ((2 : Int32) &&& 31)) ||| ((f_M_part bi 7 2) <<< ((6 : Int32) &&& 31))) (sReg (f_M_part bi 2 5) (sName 123641227587171 st)); omega) (it_len _ (it_len _ (it_len _ (it_len _ (it_len _ (it_len _ (by omega) (by have h0 := sName_le 7737577176750698083 st; omega)) (by omega)) (by have h0 := sName_le (q_M_third_248 bi d a (f_M_part bi 2 5) f (q_M_third_8 bi d a b f)) st; have h1 := sReg_le d (sName (q_M_third_248 bi d a (f_M_part bi 2 5) f (q_M_third_8 bi d a b f)) st); omega)) (it_len _ (it_len _ (by omega) (by have h0 := sName_le 7737577176750698083 st; omega)) (by omega))) (by have h0 := sName_le (q_M_third_197 bi d a (f_M_part bi 2 5) f (q_M_third_8 bi d a b f)) st; have h1 := sReg_le d (sName (q_M_third_197 bi d a (f_M_part bi 2 5) f (q_M_third_8 bi d a b f)) st); have h2 := sReg_le (f_M_part bi 2 5) (sReg d (sName (q_M_third_197 bi d a (f_M_part bi 2 5) f (q_M_third_8 bi d a b f)) st)); omega)) (it_len _ (it_len _ (it_len _ (it_len _ (by omega) (by have h0 := sName_le 7737577176750698083 st; omega)) (by omega)) (by have h0 := sName_le (q_M_third_248 bi d a (f_M_part bi 2 5) f (q_M_third_8 bi d a b f)) st; have h1 := sReg_le d (sName (q_M_third_248 bi d a (f_M_part bi 2 5) f (q_M_third_8 bi d a b f)) st); omega)) (it_len _ (it_len _ (by omega) (by have h0 := sName_le 7737577176750698083 st; omega)) (by omega))))))) (it_len _ (it_len _ (it_len _ (by have h0 := sName_le 123641227587171 st; have h1 := sReg_le (f_M_part bi 2 5) (sName 123641227587171 st); have h2 := gl_M_immediate bi d a (f_M_part bi 2 5) f (((f_M_part bi 9 4) <<< ((2 : Int32) &&& 31)) ||| ((f_M_part bi 7 2) <<< ((6 : Int32) &&& 31))) (sReg (f_M_part bi 2 5) (sName 123641227587171 st)); omega) (it_len _ (it_len _ (it_len _ (it_len _ (it_len _ (it_len _ (by omega) (by have h0 := sName_le 7737577176750698083 st; omega)) (by omega)) (by have h0 := sName_le (q_M_third_248 bi d a (f_M_part bi 2 5) f (q_M_third_8 bi d a b f)) st; have h1 := sReg_le d (sName (q_M_third_248 bi d a (f_M_part bi 2 5) f (q_M_third_8 bi d a b f)) st); omega)) (it_len _ (it_len _ (by omega) (by have h0 := sName_le 7737577176750698083 st; omega)) (by omega))) (by have h0 := sName_le (q_M_third_197 bi d a (f_M_part bi 2 5) f (q_M_third_8 bi d a b f)) st; have h1 := sReg_le d (sName (q_M_third_197 bi d a (f_M_part bi 2 5) f (q_M_third_8 bi d a b f)) st); have h2 := sReg_le (f_M_part bi 2 5) (sReg d (sName (q_M_third_197 bi d a (f_M_part bi 2 5) f (q_M_third_8 bi d a b f)) st)); omega)) (it_len _ (it_len _ (it_len _ (it_len _ (by omega) (by have h0 := sName_le 7737577176750698083 st; omega)) (by omega)) (by have h0 := sName_le (q_M_third_248 bi d a (f_M_part bi 2 5) f (q_M_third_8 bi d a b f)) st; have h1 := sReg_le d (sName (q_M_third_248 bi d a (f_M_part bi 2 5) f (q_M_third_8 bi d a b f)) st); omega)) (it_len _ (it_len _ (by omega) (by have h0 := sName_le 7737577176750698083 st; omega)) (by omega))))) (by have h0 := sName_le 123641227128419 st; have h1 := sReg_le d (sName 123641227128419 st); have h2 := gl_M_immediate bi d a (f_M_part bi 2 5) f ((((f_M_part bi 12 1) <<< ((5 : Int32) &&& 31)) ||| ((f_M_part bi 4 3) <<< ((2 : Int32) &&& 31))) ||| ((f_M_part bi 2 2) <<< ((6 : Int32) &&& 31))) (sReg d (sName 123641227128419 st)); omega)) (it_len _ (by have h0 := sName_le 123641227587171 st; have h1 := sReg_le (f_M_part bi 2 5) (sName 123641227587171 st); have h2 := gl_M_immediate bi d a (f_M_part bi 2 5) f (((f_M_part bi 9 4) <<< ((2 : Int32) &&& 31)) ||| ((f_M_part bi 7 2) <<< ((6 : Int32) &&& 31))) (sReg (f_M_part bi 2 5) (sName 123641227587171 st)); omega) (it_len _ (it_len _ (it_len _ (it_len _ (it_len _ (it_len _ (by omega) (by have h0 := sName_le 7737577176750698083 st; omega)) (by omega)) (by have h0 := sName_le (q_M_third_248 bi d a (f_M_part bi 2 5) f (q_M_third_8 bi d a b f)) st; have h1 := sReg_le d (sName (q_M_third_248 bi d a (f_M_part bi 2 5) f (q_M_third_8 bi d a b f)) st); omega)) (it_len _ (it_len _ (by omega) (by have h0 := sName_le 7737577176750698083 st; omega)) (by omega))) (by have h0 := sName_le (q_M_third_197 bi d a (f_M_part bi 2 5) f (q_M_third_8 bi d a b f)) st; have h1 := sReg_le d (sName (q_M_third_197 bi d a (f_M_part bi 2 5) f (q_M_third_8 bi d a b f)) st); have h2 := sReg_le (f_M_part bi 2 5) (sReg d (sName (q_M_third_197 bi d a (f_M_part bi 2 5) f (q_M_third_8 bi d a b f)) st)); omega)) (it_len _ (it_len _ (it_len _ (it_len _ (by omega) (by have h0 := sName_le 7737577176750698083 st; omega)) (by omega)) (by have h0 := sName_le (q_M_third_248 bi d a (f_M_part bi 2 5) f (q_M_third_8 bi d a b f)) st; have h1 := sReg_le d (sName (q_M_third_248 bi d a (f_M_part bi 2 5) f (q_M_third_8 bi d a b f)) st); omega)) (it_len _ (it_len _ (by omega) (by have h0 := sName_le 7737577176750698083 st; omega)) (by omega)))))))
set_option maxRecDepth 100000 in
set_option maxHeartbeats 4000000 in
theorem c_M_third (l : Launch) (dC : Nat → ClassId) (dI : Nat → Nat → Nat) (cI cC : ClassId) (m0 mt ms mr mk : Nat) (th yb bi d a b f : Int32) (str fk : Nat → Int32) (st : MT)  : Met l y_M_third (Cond.code y_M_third b_M_third 2 none :: WT) ({ frames := 4, cells := 0, slots := 0, locals := 89 }) (va_Pc [.ref m0] (fun U => mU dC dI cI cC m0 mt ms mr mk th yb bi d a b f str fk st U ∧ st.2.2.length + 31 ≤ 64)) (va_Qv (fun _ : Unit => True) (fun _ t => mwe dC dI cI cC m0 mt ms mr mk th yb bi str fk (g_M_third bi d a b f  st) t.heap) (aM m0 mt ms mr mk)) 0 0 (aM m0 mt ms mr mk) := by
  refine va_MetF (cc := b_M_third) (maxL := 2) (ret := none) (by decide +kernel) rfl ?_
  intro p e s m args below meth c s₁ B hml hv
  obtain ⟨rfl, ⟨hK, ap, ok, hw⟩, hlen⟩ := hv
  have hx := B.exec
  have hb := B.bytes
  have hr := B.returns
  have hts := atoms_spec (ws := (Cond.code y_M_third b_M_third 2 none :: WT)) B.pre
  have hT : ∀ w ∈ WT, w.before _ s = true := fun w h => hts w (inC w h)
  have hown : s.vm.findClass R_M = some m.cls := findClass_of_methodNamed B.named
  have hlocks := B.notSynchronized
  have hS : va_S (aM m0 mt ms mr mk) s.heap s.heap [] := va_S.rf
  have S : CallFix p m c b_M_third 2 s _ (Cond.code y_M_third b_M_third 2 none :: WT) R_M := ⟨hx, hb, hml, hown, hts⟩
  have hl := lv_entry ([.ref m0]) (n := 2) (Nat.le_of_ble_eq_true rfl)
  rw [lg_entry_eq]
  generalize (lg_sl ([.ref m0]) ++ List.replicate (2 - (lg_sl ([.ref m0])).length) Slot.unset).toArray = ls at hl ⊢
  have hl : lv_has ls 2 [(0, .ref m0)] := hl
  have hA : ∀ q, aM m0 mt ms mr mk q → aM m0 mt ms mr mk q := fun _ h => h
  refine lv_aload_n hx hb d_M_third_0 rfl (lv_at hl 0 rfl) ?_
  refine lv_bipush (v := 12) hx hb d_M_third_1 (by decide) ?_
  refine lv_iconst (v := 1) hx hb d_M_third_3 (by decide) ?_
  refine call_M_part S inC m_809 ⟨(Nat.le_of_ble_eq_true rfl), (Nat.le_of_ble_eq_true rfl)⟩ hl.1 (Nat.le_of_ble_eq_true rfl) d_M_third_4 ⟨(Nat.le_of_ble_eq_true rfl), (Nat.le_of_ble_eq_true rfl)⟩ hK hw ?_
  refine lv_iconst (v := 1) hx hb d_M_third_7 (by decide) ?_
  refine rg_M_third_8 S inC hT (Nat.le_of_ble_eq_true rfl) (Nat.le_of_ble_eq_true rfl) ⟨(Nat.le_of_ble_eq_true rfl), (Nat.le_of_ble_eq_true rfl)⟩ hK hw hl ?_
  refine lv_istore_n (lv' := [(1, .int (q_M_third_8 bi d a b f)), (0, .ref m0)]) hx hb d_M_third_16 rfl hl (by decide) rfl (fun ls hl => ?_)
  refine lv_aload_n hx hb d_M_third_17 rfl (lv_at hl 1 rfl) ?_
  refine lv_aload_n hx hb d_M_third_18 rfl (lv_at hl 1 rfl) ?_
  refine lv_iconst (v := 2) hx hb d_M_third_19 (by decide) ?_
  refine lv_iconst (v := 5) hx hb d_M_third_20 (by decide) ?_
  refine call_M_part S inC m_809 ⟨(Nat.le_of_ble_eq_true rfl), (Nat.le_of_ble_eq_true rfl)⟩ hl.1 (Nat.le_of_ble_eq_true rfl) d_M_third_21 ⟨(Nat.le_of_ble_eq_true rfl), (Nat.le_of_ble_eq_true rfl)⟩ hK hw ?_
  obtain ⟨rg, ft, h1, h2, hP⟩ := hw
  have hD := wM_D ap hA (cI := cI) (cC := cC) (th := th) (yb := yb) (bi := bi) (d := d) (a := a) (b := b) (f := f) (op := (st).1) (ln := (st).2.1) (sz := nI (st).2.2.length) (str := str) (rg := rg) (ft := ft) (fk := fk)
  refine va_put (D := (dC, dI)) (ci := 2) (v := .int (f_M_part bi 2 5)) (ty := .int) (C := R_M) (T := F_M) (N := 14) hx hb hT i_M ft_M ft_M_ok n_M hown hK hP hD hS 0 rfl rfl 10 (by decide) (hT _ m_763) (fun _ h9 => h9) rfl (by decide +kernel) rfl rfl (Nat.le_of_ble_eq_true rfl) d_M_third_24 (fun H locs hP hD hS => ?_)
  have hw : mwd dC dI cI cC m0 mt ms mr mk th yb bi d a (f_M_part bi 2 5) f str fk st H := ⟨rg, ft, h1, h2, hP⟩
  have ok : mOk d a (f_M_part bi 2 5) := ⟨ok.1, ok.2.1, p5_in _ _⟩
  refine lv_aload_n hx hb d_M_third_27 rfl (lv_at hl 1 rfl) ?_
  obtain ⟨rg, ft, h1, h2, hP⟩ := id hw
  refine va_get (D := (dC, dI)) (ci := 2) (v := .int f) (C := R_M) (T := F_M) (N := 14) hx hb hT i_M hown hK hP 0 rfl rfl 11 (by decide) (hT _ m_764) (fun _ h9 => h9) rfl d_M_third_28 ?_
  refine lv_if_ne (tgt := 64) hx hb d_M_third_31 (by decide) (fun c_1 => ?_) (fun c_1 => ?_)
  · refine lv_aload_n hx hb d_M_third_64 rfl (lv_at hl 1 rfl) ?_
    obtain ⟨rg, ft, h1, h2, hP⟩ := id hw
    refine va_get (D := (dC, dI)) (ci := 2) (v := .int f) (C := R_M) (T := F_M) (N := 14) hx hb hT i_M hown hK hP 0 rfl rfl 11 (by decide) (hT _ m_764) (fun _ h9 => h9) rfl d_M_third_65 ?_
    refine lv_iconst (v := 2) hx hb d_M_third_68 (by decide) ?_
    refine lv_icmp_ne (tgt := 129) hx hb d_M_third_69 (by decide) (fun c_2 => ?_) (fun c_2 => ?_)
    · refine lv_aload_n hx hb d_M_third_129 rfl (lv_at hl 1 rfl) ?_
      obtain ⟨rg, ft, h1, h2, hP⟩ := id hw
      refine va_get (D := (dC, dI)) (ci := 2) (v := .int f) (C := R_M) (T := F_M) (N := 14) hx hb hT i_M hown hK hP 0 rfl rfl 11 (by decide) (hT _ m_764) (fun _ h9 => h9) rfl d_M_third_130 ?_
      refine lv_bipush (v := 6) hx hb d_M_third_133 (by decide) ?_
      refine lv_icmp_ne (tgt := 180) hx hb d_M_third_135 (by decide) (fun c_3 => ?_) (fun c_3 => ?_)
      · refine lv_aload_n hx hb d_M_third_180 rfl (lv_at hl 1 rfl) ?_
        obtain ⟨rg, ft, h1, h2, hP⟩ := id hw
        refine va_get (D := (dC, dI)) (ci := 2) (v := .int f) (C := R_M) (T := F_M) (N := 14) hx hb hT i_M hown hK hP 0 rfl rfl 11 (by decide) (hT _ m_764) (fun _ h9 => h9) rfl d_M_third_181 ?_
        refine lv_iconst (v := 4) hx hb d_M_third_184 (by decide) ?_
        refine lv_icmp_ne (tgt := 231) hx hb d_M_third_185 (by decide) (fun c_4 => ?_) (fun c_4 => ?_)
        · refine lv_aload_n hx hb d_M_third_231 rfl (lv_at hl 1 rfl) ?_
          obtain ⟨rg, ft, h1, h2, hP⟩ := id hw
          refine va_get (D := (dC, dI)) (ci := 2) (v := .int f) (C := R_M) (T := F_M) (N := 14) hx hb hT i_M hown hK hP 0 rfl rfl 11 (by decide) (hT _ m_764) (fun _ h9 => h9) rfl d_M_third_232 ?_
          refine lv_iconst (v := 4) hx hb d_M_third_235 (by decide) ?_
          refine lv_icmp_ne (tgt := 274) hx hb d_M_third_236 (by decide) (fun c_5 => ?_) (fun c_5 => ?_)
          · refine lv_aload_n hx hb d_M_third_274 rfl (lv_at hl 1 rfl) ?_
            obtain ⟨rg, ft, h1, h2, hP⟩ := id hw
            refine va_get (D := (dC, dI)) (ci := 2) (v := .int f) (C := R_M) (T := F_M) (N := 14) hx hb hT i_M hown hK hP 0 rfl rfl 11 (by decide) (hT _ m_764) (fun _ h9 => h9) rfl d_M_third_275 ?_
            refine lv_iconst (v := 4) hx hb d_M_third_278 (by decide) ?_
            refine lv_icmp_ne (tgt := 293) hx hb d_M_third_279 (by decide) (fun c_6 => ?_) (fun c_6 => ?_)
            · exact W.vret hx hb hr (fun t ht hW => ⟨⟨(), rfl, trivial, ⟨_, _, _, _, ok, mwd_at ht (mwd_eq (by rw [g_M_third, if_neg c_1, if_neg c_2, if_neg c_3, if_neg c_4, if_neg c_5, if_neg c_6]) hw)⟩⟩, hS.F ht⟩) hS.2.2 d_M_third_293
            · refine lv_iload_n hx hb d_M_third_282 rfl (lv_at hl 0 rfl) ?_
              refine lv_if_eq (tgt := 293) hx hb d_M_third_283 (by decide) (fun c_7 => ?_) (fun c_7 => ?_)
              · exact W.vret hx hb hr (fun t ht hW => ⟨⟨(), rfl, trivial, ⟨_, _, _, _, ok, mwd_at ht (mwd_eq (by rw [g_M_third, if_neg c_1, if_neg c_2, if_neg c_3, if_neg c_4, if_neg c_5, if_pos c_6, if_pos c_7]) hw)⟩⟩, hS.F ht⟩) hS.2.2 d_M_third_293
              · refine lv_aload_n hx hb d_M_third_286 rfl (lv_at hl 1 rfl) ?_
                refine lv_ldc2 (v := 7737577176750698083) hx hb hown (hT _ m_1024) d_M_third_287 ?_
                refine call_M_name S inC m_833 ⟨(Nat.le_of_ble_eq_true rfl), (Nat.le_of_ble_eq_true rfl)⟩ hl.1 (Nat.le_of_ble_eq_true rfl) d_M_third_290 ⟨(Nat.le_of_ble_eq_true rfl), (Nat.le_of_ble_eq_true rfl)⟩ hK ap ok hS hA hw (by omega) (fun H locs hw hS _ => ?_)
                have hL1 := sName_le 7737577176750698083 st
                exact W.vret hx hb hr (fun t ht hW => ⟨⟨(), rfl, trivial, ⟨_, _, _, _, ok, mwd_at ht (mwd_eq (by rw [g_M_third, if_neg c_1, if_neg c_2, if_neg c_3, if_neg c_4, if_neg c_5, if_pos c_6, if_neg c_7]) hw)⟩⟩, hS.F ht⟩) hS.2.2 d_M_third_293
          · refine lv_aload_n hx hb d_M_third_239 rfl (lv_at hl 1 rfl) ?_
            obtain ⟨rg, ft, h1, h2, hP⟩ := id hw
            refine va_get (D := (dC, dI)) (ci := 2) (v := .int d) (C := R_M) (T := F_M) (N := 14) hx hb hT i_M hown hK hP 0 rfl rfl 8 (by decide) (hT _ m_761) (fun _ h9 => h9) rfl d_M_third_240 ?_
            refine lv_if_eq (tgt := 274) hx hb d_M_third_243 (by decide) (fun c_8 => ?_) (fun c_8 => ?_)
            · refine lv_aload_n hx hb d_M_third_274 rfl (lv_at hl 1 rfl) ?_
              obtain ⟨rg, ft, h1, h2, hP⟩ := id hw
              refine va_get (D := (dC, dI)) (ci := 2) (v := .int f) (C := R_M) (T := F_M) (N := 14) hx hb hT i_M hown hK hP 0 rfl rfl 11 (by decide) (hT _ m_764) (fun _ h9 => h9) rfl d_M_third_275 ?_
              refine lv_iconst (v := 4) hx hb d_M_third_278 (by decide) ?_
              refine lv_icmp_ne (tgt := 293) hx hb d_M_third_279 (by decide) (fun c_9 => ?_) (fun c_9 => ?_)
              · exact W.vret hx hb hr (fun t ht hW => ⟨⟨(), rfl, trivial, ⟨_, _, _, _, ok, mwd_at ht (mwd_eq (by rw [g_M_third, if_neg c_1, if_neg c_2, if_neg c_3, if_neg c_4, if_pos c_5, if_pos c_8, if_neg c_9]) hw)⟩⟩, hS.F ht⟩) hS.2.2 d_M_third_293
              · refine lv_iload_n hx hb d_M_third_282 rfl (lv_at hl 0 rfl) ?_
                refine lv_if_eq (tgt := 293) hx hb d_M_third_283 (by decide) (fun c_10 => ?_) (fun c_10 => ?_)
                · exact W.vret hx hb hr (fun t ht hW => ⟨⟨(), rfl, trivial, ⟨_, _, _, _, ok, mwd_at ht (mwd_eq (by rw [g_M_third, if_neg c_1, if_neg c_2, if_neg c_3, if_neg c_4, if_pos c_5, if_pos c_8, if_pos c_9, if_pos c_10]) hw)⟩⟩, hS.F ht⟩) hS.2.2 d_M_third_293
                · refine lv_aload_n hx hb d_M_third_286 rfl (lv_at hl 1 rfl) ?_
                  refine lv_ldc2 (v := 7737577176750698083) hx hb hown (hT _ m_1024) d_M_third_287 ?_
                  refine call_M_name S inC m_833 ⟨(Nat.le_of_ble_eq_true rfl), (Nat.le_of_ble_eq_true rfl)⟩ hl.1 (Nat.le_of_ble_eq_true rfl) d_M_third_290 ⟨(Nat.le_of_ble_eq_true rfl), (Nat.le_of_ble_eq_true rfl)⟩ hK ap ok hS hA hw (by omega) (fun H locs hw hS _ => ?_)
                  have hL2 := sName_le 7737577176750698083 st
                  exact W.vret hx hb hr (fun t ht hW => ⟨⟨(), rfl, trivial, ⟨_, _, _, _, ok, mwd_at ht (mwd_eq (by rw [g_M_third, if_neg c_1, if_neg c_2, if_neg c_3, if_neg c_4, if_pos c_5, if_pos c_8, if_pos c_9, if_neg c_10]) hw)⟩⟩, hS.F ht⟩) hS.2.2 d_M_third_293
            · refine lv_aload_n hx hb d_M_third_246 rfl (lv_at hl 1 rfl) ?_
              refine lv_iload_n hx hb d_M_third_247 rfl (lv_at hl 0 rfl) ?_
              refine rg_M_third_248 S inC hT (Nat.le_of_ble_eq_true rfl) (Nat.le_of_ble_eq_true rfl) ⟨(Nat.le_of_ble_eq_true rfl), (Nat.le_of_ble_eq_true rfl)⟩ hK hw hl ?_
              refine call_M_name S inC m_833 ⟨(Nat.le_of_ble_eq_true rfl), (Nat.le_of_ble_eq_true rfl)⟩ hl.1 (Nat.le_of_ble_eq_true rfl) d_M_third_260 ⟨(Nat.le_of_ble_eq_true rfl), (Nat.le_of_ble_eq_true rfl)⟩ hK ap ok hS hA hw (by omega) (fun H locs hw hS _ => ?_)
              have hL3 := sName_le (q_M_third_248 bi d a (f_M_part bi 2 5) f (q_M_third_8 bi d a b f)) st
              refine lv_aload_n hx hb d_M_third_263 rfl (lv_at hl 1 rfl) ?_
              refine lv_aload_n hx hb d_M_third_264 rfl (lv_at hl 1 rfl) ?_
              obtain ⟨rg, ft, h1, h2, hP⟩ := id hw
              refine va_get (D := (dC, dI)) (ci := 2) (v := .int d) (C := R_M) (T := F_M) (N := 14) hx hb hT i_M hown hK hP 0 rfl rfl 8 (by decide) (hT _ m_761) (fun _ h9 => h9) rfl d_M_third_265 ?_
              refine call_M_register S inC m_846 ⟨(Nat.le_of_ble_eq_true rfl), (Nat.le_of_ble_eq_true rfl)⟩ hl.1 (Nat.le_of_ble_eq_true rfl) d_M_third_268 ⟨(Nat.le_of_ble_eq_true rfl), (Nat.le_of_ble_eq_true rfl)⟩ hK ap ok hS hA hw ok.1 (by omega) (fun H locs hw hS _ => ?_)
              have hL4 := sReg_le d (sName (q_M_third_248 bi d a (f_M_part bi 2 5) f (q_M_third_8 bi d a b f)) st)
              refine lv_goto (tgt := 293) hx hb d_M_third_271 (by decide) ?_
              exact W.vret hx hb hr (fun t ht hW => ⟨⟨(), rfl, trivial, ⟨_, _, _, _, ok, mwd_at ht (mwd_eq (by rw [g_M_third, if_neg c_1, if_neg c_2, if_neg c_3, if_neg c_4, if_pos c_5, if_neg c_8]) hw)⟩⟩, hS.F ht⟩) hS.2.2 d_M_third_293
        · refine lv_aload_n hx hb d_M_third_188 rfl (lv_at hl 1 rfl) ?_
          obtain ⟨rg, ft, h1, h2, hP⟩ := id hw
          refine va_get (D := (dC, dI)) (ci := 2) (v := .int (f_M_part bi 2 5)) (C := R_M) (T := F_M) (N := 14) hx hb hT i_M hown hK hP 0 rfl rfl 10 (by decide) (hT _ m_763) (fun _ h9 => h9) rfl d_M_third_189 ?_
          refine lv_if_eq (tgt := 231) hx hb d_M_third_192 (by decide) (fun c_11 => ?_) (fun c_11 => ?_)
          · refine lv_aload_n hx hb d_M_third_231 rfl (lv_at hl 1 rfl) ?_
            obtain ⟨rg, ft, h1, h2, hP⟩ := id hw
            refine va_get (D := (dC, dI)) (ci := 2) (v := .int f) (C := R_M) (T := F_M) (N := 14) hx hb hT i_M hown hK hP 0 rfl rfl 11 (by decide) (hT _ m_764) (fun _ h9 => h9) rfl d_M_third_232 ?_
            refine lv_iconst (v := 4) hx hb d_M_third_235 (by decide) ?_
            refine lv_icmp_ne (tgt := 274) hx hb d_M_third_236 (by decide) (fun c_12 => ?_) (fun c_12 => ?_)
            · refine lv_aload_n hx hb d_M_third_274 rfl (lv_at hl 1 rfl) ?_
              obtain ⟨rg, ft, h1, h2, hP⟩ := id hw
              refine va_get (D := (dC, dI)) (ci := 2) (v := .int f) (C := R_M) (T := F_M) (N := 14) hx hb hT i_M hown hK hP 0 rfl rfl 11 (by decide) (hT _ m_764) (fun _ h9 => h9) rfl d_M_third_275 ?_
              refine lv_iconst (v := 4) hx hb d_M_third_278 (by decide) ?_
              refine lv_icmp_ne (tgt := 293) hx hb d_M_third_279 (by decide) (fun c_13 => ?_) (fun c_13 => ?_)
              · exact W.vret hx hb hr (fun t ht hW => ⟨⟨(), rfl, trivial, ⟨_, _, _, _, ok, mwd_at ht (mwd_eq (by rw [g_M_third, if_neg c_1, if_neg c_2, if_neg c_3, if_pos c_4, if_pos c_11, if_neg c_12, if_neg c_13]) hw)⟩⟩, hS.F ht⟩) hS.2.2 d_M_third_293
              · refine lv_iload_n hx hb d_M_third_282 rfl (lv_at hl 0 rfl) ?_
                refine lv_if_eq (tgt := 293) hx hb d_M_third_283 (by decide) (fun c_14 => ?_) (fun c_14 => ?_)
                · exact W.vret hx hb hr (fun t ht hW => ⟨⟨(), rfl, trivial, ⟨_, _, _, _, ok, mwd_at ht (mwd_eq (by rw [g_M_third, if_neg c_1, if_neg c_2, if_neg c_3, if_pos c_4, if_pos c_11, if_neg c_12, if_pos c_13, if_pos c_14]) hw)⟩⟩, hS.F ht⟩) hS.2.2 d_M_third_293
                · refine lv_aload_n hx hb d_M_third_286 rfl (lv_at hl 1 rfl) ?_
                  refine lv_ldc2 (v := 7737577176750698083) hx hb hown (hT _ m_1024) d_M_third_287 ?_
                  refine call_M_name S inC m_833 ⟨(Nat.le_of_ble_eq_true rfl), (Nat.le_of_ble_eq_true rfl)⟩ hl.1 (Nat.le_of_ble_eq_true rfl) d_M_third_290 ⟨(Nat.le_of_ble_eq_true rfl), (Nat.le_of_ble_eq_true rfl)⟩ hK ap ok hS hA hw (by omega) (fun H locs hw hS _ => ?_)
                  have hL5 := sName_le 7737577176750698083 st
                  exact W.vret hx hb hr (fun t ht hW => ⟨⟨(), rfl, trivial, ⟨_, _, _, _, ok, mwd_at ht (mwd_eq (by rw [g_M_third, if_neg c_1, if_neg c_2, if_neg c_3, if_pos c_4, if_pos c_11, if_neg c_12, if_pos c_13, if_neg c_14]) hw)⟩⟩, hS.F ht⟩) hS.2.2 d_M_third_293
            · refine lv_aload_n hx hb d_M_third_239 rfl (lv_at hl 1 rfl) ?_
              obtain ⟨rg, ft, h1, h2, hP⟩ := id hw
              refine va_get (D := (dC, dI)) (ci := 2) (v := .int d) (C := R_M) (T := F_M) (N := 14) hx hb hT i_M hown hK hP 0 rfl rfl 8 (by decide) (hT _ m_761) (fun _ h9 => h9) rfl d_M_third_240 ?_
              refine lv_if_eq (tgt := 274) hx hb d_M_third_243 (by decide) (fun c_15 => ?_) (fun c_15 => ?_)
              · refine lv_aload_n hx hb d_M_third_274 rfl (lv_at hl 1 rfl) ?_
                obtain ⟨rg, ft, h1, h2, hP⟩ := id hw
                refine va_get (D := (dC, dI)) (ci := 2) (v := .int f) (C := R_M) (T := F_M) (N := 14) hx hb hT i_M hown hK hP 0 rfl rfl 11 (by decide) (hT _ m_764) (fun _ h9 => h9) rfl d_M_third_275 ?_
                refine lv_iconst (v := 4) hx hb d_M_third_278 (by decide) ?_
                refine lv_icmp_ne (tgt := 293) hx hb d_M_third_279 (by decide) (fun c_16 => ?_) (fun c_16 => ?_)
                · exact W.vret hx hb hr (fun t ht hW => ⟨⟨(), rfl, trivial, ⟨_, _, _, _, ok, mwd_at ht (mwd_eq (by rw [g_M_third, if_neg c_1, if_neg c_2, if_neg c_3, if_pos c_4, if_pos c_11, if_pos c_12, if_pos c_15, if_neg c_16]) hw)⟩⟩, hS.F ht⟩) hS.2.2 d_M_third_293
                · refine lv_iload_n hx hb d_M_third_282 rfl (lv_at hl 0 rfl) ?_
                  refine lv_if_eq (tgt := 293) hx hb d_M_third_283 (by decide) (fun c_17 => ?_) (fun c_17 => ?_)
                  · exact W.vret hx hb hr (fun t ht hW => ⟨⟨(), rfl, trivial, ⟨_, _, _, _, ok, mwd_at ht (mwd_eq (by rw [g_M_third, if_neg c_1, if_neg c_2, if_neg c_3, if_pos c_4, if_pos c_11, if_pos c_12, if_pos c_15, if_pos c_16, if_pos c_17]) hw)⟩⟩, hS.F ht⟩) hS.2.2 d_M_third_293
                  · refine lv_aload_n hx hb d_M_third_286 rfl (lv_at hl 1 rfl) ?_
                    refine lv_ldc2 (v := 7737577176750698083) hx hb hown (hT _ m_1024) d_M_third_287 ?_
                    refine call_M_name S inC m_833 ⟨(Nat.le_of_ble_eq_true rfl), (Nat.le_of_ble_eq_true rfl)⟩ hl.1 (Nat.le_of_ble_eq_true rfl) d_M_third_290 ⟨(Nat.le_of_ble_eq_true rfl), (Nat.le_of_ble_eq_true rfl)⟩ hK ap ok hS hA hw (by omega) (fun H locs hw hS _ => ?_)
                    have hL6 := sName_le 7737577176750698083 st
                    exact W.vret hx hb hr (fun t ht hW => ⟨⟨(), rfl, trivial, ⟨_, _, _, _, ok, mwd_at ht (mwd_eq (by rw [g_M_third, if_neg c_1, if_neg c_2, if_neg c_3, if_pos c_4, if_pos c_11, if_pos c_12, if_pos c_15, if_pos c_16, if_neg c_17]) hw)⟩⟩, hS.F ht⟩) hS.2.2 d_M_third_293
              · refine lv_aload_n hx hb d_M_third_246 rfl (lv_at hl 1 rfl) ?_
                refine lv_iload_n hx hb d_M_third_247 rfl (lv_at hl 0 rfl) ?_
                refine rg_M_third_248 S inC hT (Nat.le_of_ble_eq_true rfl) (Nat.le_of_ble_eq_true rfl) ⟨(Nat.le_of_ble_eq_true rfl), (Nat.le_of_ble_eq_true rfl)⟩ hK hw hl ?_
                refine call_M_name S inC m_833 ⟨(Nat.le_of_ble_eq_true rfl), (Nat.le_of_ble_eq_true rfl)⟩ hl.1 (Nat.le_of_ble_eq_true rfl) d_M_third_260 ⟨(Nat.le_of_ble_eq_true rfl), (Nat.le_of_ble_eq_true rfl)⟩ hK ap ok hS hA hw (by omega) (fun H locs hw hS _ => ?_)
                have hL7 := sName_le (q_M_third_248 bi d a (f_M_part bi 2 5) f (q_M_third_8 bi d a b f)) st
                refine lv_aload_n hx hb d_M_third_263 rfl (lv_at hl 1 rfl) ?_
                refine lv_aload_n hx hb d_M_third_264 rfl (lv_at hl 1 rfl) ?_
                obtain ⟨rg, ft, h1, h2, hP⟩ := id hw
                refine va_get (D := (dC, dI)) (ci := 2) (v := .int d) (C := R_M) (T := F_M) (N := 14) hx hb hT i_M hown hK hP 0 rfl rfl 8 (by decide) (hT _ m_761) (fun _ h9 => h9) rfl d_M_third_265 ?_
                refine call_M_register S inC m_846 ⟨(Nat.le_of_ble_eq_true rfl), (Nat.le_of_ble_eq_true rfl)⟩ hl.1 (Nat.le_of_ble_eq_true rfl) d_M_third_268 ⟨(Nat.le_of_ble_eq_true rfl), (Nat.le_of_ble_eq_true rfl)⟩ hK ap ok hS hA hw ok.1 (by omega) (fun H locs hw hS _ => ?_)
                have hL8 := sReg_le d (sName (q_M_third_248 bi d a (f_M_part bi 2 5) f (q_M_third_8 bi d a b f)) st)
                refine lv_goto (tgt := 293) hx hb d_M_third_271 (by decide) ?_
                exact W.vret hx hb hr (fun t ht hW => ⟨⟨(), rfl, trivial, ⟨_, _, _, _, ok, mwd_at ht (mwd_eq (by rw [g_M_third, if_neg c_1, if_neg c_2, if_neg c_3, if_pos c_4, if_pos c_11, if_pos c_12, if_neg c_15]) hw)⟩⟩, hS.F ht⟩) hS.2.2 d_M_third_293
          · refine lv_aload_n hx hb d_M_third_195 rfl (lv_at hl 1 rfl) ?_
            refine lv_iload_n hx hb d_M_third_196 rfl (lv_at hl 0 rfl) ?_
            refine rg_M_third_197 S inC hT (Nat.le_of_ble_eq_true rfl) (Nat.le_of_ble_eq_true rfl) ⟨(Nat.le_of_ble_eq_true rfl), (Nat.le_of_ble_eq_true rfl)⟩ hK hw hl ?_
            refine call_M_name S inC m_833 ⟨(Nat.le_of_ble_eq_true rfl), (Nat.le_of_ble_eq_true rfl)⟩ hl.1 (Nat.le_of_ble_eq_true rfl) d_M_third_209 ⟨(Nat.le_of_ble_eq_true rfl), (Nat.le_of_ble_eq_true rfl)⟩ hK ap ok hS hA hw (by omega) (fun H locs hw hS _ => ?_)
            have hL9 := sName_le (q_M_third_197 bi d a (f_M_part bi 2 5) f (q_M_third_8 bi d a b f)) st
            refine lv_aload_n hx hb d_M_third_212 rfl (lv_at hl 1 rfl) ?_
            refine lv_aload_n hx hb d_M_third_213 rfl (lv_at hl 1 rfl) ?_
            obtain ⟨rg, ft, h1, h2, hP⟩ := id hw
            refine va_get (D := (dC, dI)) (ci := 2) (v := .int d) (C := R_M) (T := F_M) (N := 14) hx hb hT i_M hown hK hP 0 rfl rfl 8 (by decide) (hT _ m_761) (fun _ h9 => h9) rfl d_M_third_214 ?_
            refine call_M_register S inC m_846 ⟨(Nat.le_of_ble_eq_true rfl), (Nat.le_of_ble_eq_true rfl)⟩ hl.1 (Nat.le_of_ble_eq_true rfl) d_M_third_217 ⟨(Nat.le_of_ble_eq_true rfl), (Nat.le_of_ble_eq_true rfl)⟩ hK ap ok hS hA hw ok.1 (by omega) (fun H locs hw hS _ => ?_)
            have hL10 := sReg_le d (sName (q_M_third_197 bi d a (f_M_part bi 2 5) f (q_M_third_8 bi d a b f)) st)
            refine lv_aload_n hx hb d_M_third_220 rfl (lv_at hl 1 rfl) ?_
            refine lv_aload_n hx hb d_M_third_221 rfl (lv_at hl 1 rfl) ?_
            obtain ⟨rg, ft, h1, h2, hP⟩ := id hw
            refine va_get (D := (dC, dI)) (ci := 2) (v := .int (f_M_part bi 2 5)) (C := R_M) (T := F_M) (N := 14) hx hb hT i_M hown hK hP 0 rfl rfl 10 (by decide) (hT _ m_763) (fun _ h9 => h9) rfl d_M_third_222 ?_
            refine call_M_register S inC m_846 ⟨(Nat.le_of_ble_eq_true rfl), (Nat.le_of_ble_eq_true rfl)⟩ hl.1 (Nat.le_of_ble_eq_true rfl) d_M_third_225 ⟨(Nat.le_of_ble_eq_true rfl), (Nat.le_of_ble_eq_true rfl)⟩ hK ap ok hS hA hw (p5_in _ _) (by omega) (fun H locs hw hS _ => ?_)
            have hL11 := sReg_le (f_M_part bi 2 5) (sReg d (sName (q_M_third_197 bi d a (f_M_part bi 2 5) f (q_M_third_8 bi d a b f)) st))
            refine lv_goto (tgt := 293) hx hb d_M_third_228 (by decide) ?_
            exact W.vret hx hb hr (fun t ht hW => ⟨⟨(), rfl, trivial, ⟨_, _, _, _, ok, mwd_at ht (mwd_eq (by rw [g_M_third, if_neg c_1, if_neg c_2, if_neg c_3, if_pos c_4, if_neg c_11]) hw)⟩⟩, hS.F ht⟩) hS.2.2 d_M_third_293
      · refine lv_aload_n hx hb d_M_third_138 rfl (lv_at hl 1 rfl) ?_
        refine lv_ldc2 (v := 123641227587171) hx hb hown (hT _ m_1019) d_M_third_139 ?_
        refine call_M_name S inC m_833 ⟨(Nat.le_of_ble_eq_true rfl), (Nat.le_of_ble_eq_true rfl)⟩ hl.1 (Nat.le_of_ble_eq_true rfl) d_M_third_142 ⟨(Nat.le_of_ble_eq_true rfl), (Nat.le_of_ble_eq_true rfl)⟩ hK ap ok hS hA hw (by omega) (fun H locs hw hS _ => ?_)
        have hL12 := sName_le 123641227587171 st
        refine lv_aload_n hx hb d_M_third_145 rfl (lv_at hl 1 rfl) ?_
        refine lv_aload_n hx hb d_M_third_146 rfl (lv_at hl 1 rfl) ?_
        obtain ⟨rg, ft, h1, h2, hP⟩ := id hw
        refine va_get (D := (dC, dI)) (ci := 2) (v := .int (f_M_part bi 2 5)) (C := R_M) (T := F_M) (N := 14) hx hb hT i_M hown hK hP 0 rfl rfl 10 (by decide) (hT _ m_763) (fun _ h9 => h9) rfl d_M_third_147 ?_
        refine call_M_register S inC m_846 ⟨(Nat.le_of_ble_eq_true rfl), (Nat.le_of_ble_eq_true rfl)⟩ hl.1 (Nat.le_of_ble_eq_true rfl) d_M_third_150 ⟨(Nat.le_of_ble_eq_true rfl), (Nat.le_of_ble_eq_true rfl)⟩ hK ap ok hS hA hw (p5_in _ _) (by omega) (fun H locs hw hS _ => ?_)
        have hL13 := sReg_le (f_M_part bi 2 5) (sName 123641227587171 st)
        refine lv_aload_n hx hb d_M_third_153 rfl (lv_at hl 1 rfl) ?_
        refine lv_aload_n hx hb d_M_third_154 rfl (lv_at hl 1 rfl) ?_
        refine lv_bipush (v := 9) hx hb d_M_third_155 (by decide) ?_
        refine lv_iconst (v := 4) hx hb d_M_third_157 (by decide) ?_
        refine call_M_part S inC m_809 ⟨(Nat.le_of_ble_eq_true rfl), (Nat.le_of_ble_eq_true rfl)⟩ hl.1 (Nat.le_of_ble_eq_true rfl) d_M_third_158 ⟨(Nat.le_of_ble_eq_true rfl), (Nat.le_of_ble_eq_true rfl)⟩ hK hw ?_
        refine lv_iconst (v := 2) hx hb d_M_third_161 (by decide) ?_
        refine lv_ishl hx hb d_M_third_162 ?_
        refine lv_aload_n hx hb d_M_third_163 rfl (lv_at hl 1 rfl) ?_
        refine lv_bipush (v := 7) hx hb d_M_third_164 (by decide) ?_
        refine lv_iconst (v := 2) hx hb d_M_third_166 (by decide) ?_
        refine call_M_part S inC m_809 ⟨(Nat.le_of_ble_eq_true rfl), (Nat.le_of_ble_eq_true rfl)⟩ hl.1 (Nat.le_of_ble_eq_true rfl) d_M_third_167 ⟨(Nat.le_of_ble_eq_true rfl), (Nat.le_of_ble_eq_true rfl)⟩ hK hw ?_
        refine lv_bipush (v := 6) hx hb d_M_third_170 (by decide) ?_
        refine lv_ishl hx hb d_M_third_172 ?_
        refine lv_ior hx hb d_M_third_173 ?_
        refine call_M_immediate S inC m_877 ⟨(Nat.le_of_ble_eq_true rfl), (Nat.le_of_ble_eq_true rfl)⟩ hl.1 (Nat.le_of_ble_eq_true rfl) d_M_third_174 ⟨(Nat.le_of_ble_eq_true rfl), (Nat.le_of_ble_eq_true rfl)⟩ hK ap ok hS hA hw (by omega) (fun H locs hw hS _ => ?_)
        have hL14 := gl_M_immediate bi d a (f_M_part bi 2 5) f (((f_M_part bi 9 4) <<< ((2 : Int32) &&& 31)) ||| ((f_M_part bi 7 2) <<< ((6 : Int32) &&& 31))) (sReg (f_M_part bi 2 5) (sName 123641227587171 st))
        refine lv_goto (tgt := 293) hx hb d_M_third_177 (by decide) ?_
        exact W.vret hx hb hr (fun t ht hW => ⟨⟨(), rfl, trivial, ⟨_, _, _, _, ok, mwd_at ht (mwd_eq (by rw [g_M_third, if_neg c_1, if_neg c_2, if_pos c_3]) hw)⟩⟩, hS.F ht⟩) hS.2.2 d_M_third_293
    · refine lv_aload_n hx hb d_M_third_72 rfl (lv_at hl 1 rfl) ?_
      obtain ⟨rg, ft, h1, h2, hP⟩ := id hw
      refine va_get (D := (dC, dI)) (ci := 2) (v := .int d) (C := R_M) (T := F_M) (N := 14) hx hb hT i_M hown hK hP 0 rfl rfl 8 (by decide) (hT _ m_761) (fun _ h9 => h9) rfl d_M_third_73 ?_
      refine lv_if_eq (tgt := 129) hx hb d_M_third_76 (by decide) (fun c_18 => ?_) (fun c_18 => ?_)
      · refine lv_aload_n hx hb d_M_third_129 rfl (lv_at hl 1 rfl) ?_
        obtain ⟨rg, ft, h1, h2, hP⟩ := id hw
        refine va_get (D := (dC, dI)) (ci := 2) (v := .int f) (C := R_M) (T := F_M) (N := 14) hx hb hT i_M hown hK hP 0 rfl rfl 11 (by decide) (hT _ m_764) (fun _ h9 => h9) rfl d_M_third_130 ?_
        refine lv_bipush (v := 6) hx hb d_M_third_133 (by decide) ?_
        refine lv_icmp_ne (tgt := 180) hx hb d_M_third_135 (by decide) (fun c_19 => ?_) (fun c_19 => ?_)
        · refine lv_aload_n hx hb d_M_third_180 rfl (lv_at hl 1 rfl) ?_
          obtain ⟨rg, ft, h1, h2, hP⟩ := id hw
          refine va_get (D := (dC, dI)) (ci := 2) (v := .int f) (C := R_M) (T := F_M) (N := 14) hx hb hT i_M hown hK hP 0 rfl rfl 11 (by decide) (hT _ m_764) (fun _ h9 => h9) rfl d_M_third_181 ?_
          refine lv_iconst (v := 4) hx hb d_M_third_184 (by decide) ?_
          refine lv_icmp_ne (tgt := 231) hx hb d_M_third_185 (by decide) (fun c_20 => ?_) (fun c_20 => ?_)
          · refine lv_aload_n hx hb d_M_third_231 rfl (lv_at hl 1 rfl) ?_
            obtain ⟨rg, ft, h1, h2, hP⟩ := id hw
            refine va_get (D := (dC, dI)) (ci := 2) (v := .int f) (C := R_M) (T := F_M) (N := 14) hx hb hT i_M hown hK hP 0 rfl rfl 11 (by decide) (hT _ m_764) (fun _ h9 => h9) rfl d_M_third_232 ?_
            refine lv_iconst (v := 4) hx hb d_M_third_235 (by decide) ?_
            refine lv_icmp_ne (tgt := 274) hx hb d_M_third_236 (by decide) (fun c_21 => ?_) (fun c_21 => ?_)
            · refine lv_aload_n hx hb d_M_third_274 rfl (lv_at hl 1 rfl) ?_
              obtain ⟨rg, ft, h1, h2, hP⟩ := id hw
              refine va_get (D := (dC, dI)) (ci := 2) (v := .int f) (C := R_M) (T := F_M) (N := 14) hx hb hT i_M hown hK hP 0 rfl rfl 11 (by decide) (hT _ m_764) (fun _ h9 => h9) rfl d_M_third_275 ?_
              refine lv_iconst (v := 4) hx hb d_M_third_278 (by decide) ?_
              refine lv_icmp_ne (tgt := 293) hx hb d_M_third_279 (by decide) (fun c_22 => ?_) (fun c_22 => ?_)
              · exact W.vret hx hb hr (fun t ht hW => ⟨⟨(), rfl, trivial, ⟨_, _, _, _, ok, mwd_at ht (mwd_eq (by rw [g_M_third, if_neg c_1, if_pos c_2, if_pos c_18, if_neg c_19, if_neg c_20, if_neg c_21, if_neg c_22]) hw)⟩⟩, hS.F ht⟩) hS.2.2 d_M_third_293
              · refine lv_iload_n hx hb d_M_third_282 rfl (lv_at hl 0 rfl) ?_
                refine lv_if_eq (tgt := 293) hx hb d_M_third_283 (by decide) (fun c_23 => ?_) (fun c_23 => ?_)
                · exact W.vret hx hb hr (fun t ht hW => ⟨⟨(), rfl, trivial, ⟨_, _, _, _, ok, mwd_at ht (mwd_eq (by rw [g_M_third, if_neg c_1, if_pos c_2, if_pos c_18, if_neg c_19, if_neg c_20, if_neg c_21, if_pos c_22, if_pos c_23]) hw)⟩⟩, hS.F ht⟩) hS.2.2 d_M_third_293
                · refine lv_aload_n hx hb d_M_third_286 rfl (lv_at hl 1 rfl) ?_
                  refine lv_ldc2 (v := 7737577176750698083) hx hb hown (hT _ m_1024) d_M_third_287 ?_
                  refine call_M_name S inC m_833 ⟨(Nat.le_of_ble_eq_true rfl), (Nat.le_of_ble_eq_true rfl)⟩ hl.1 (Nat.le_of_ble_eq_true rfl) d_M_third_290 ⟨(Nat.le_of_ble_eq_true rfl), (Nat.le_of_ble_eq_true rfl)⟩ hK ap ok hS hA hw (by omega) (fun H locs hw hS _ => ?_)
                  have hL15 := sName_le 7737577176750698083 st
                  exact W.vret hx hb hr (fun t ht hW => ⟨⟨(), rfl, trivial, ⟨_, _, _, _, ok, mwd_at ht (mwd_eq (by rw [g_M_third, if_neg c_1, if_pos c_2, if_pos c_18, if_neg c_19, if_neg c_20, if_neg c_21, if_pos c_22, if_neg c_23]) hw)⟩⟩, hS.F ht⟩) hS.2.2 d_M_third_293
            · refine lv_aload_n hx hb d_M_third_239 rfl (lv_at hl 1 rfl) ?_
              obtain ⟨rg, ft, h1, h2, hP⟩ := id hw
              refine va_get (D := (dC, dI)) (ci := 2) (v := .int d) (C := R_M) (T := F_M) (N := 14) hx hb hT i_M hown hK hP 0 rfl rfl 8 (by decide) (hT _ m_761) (fun _ h9 => h9) rfl d_M_third_240 ?_
              refine lv_if_eq (tgt := 274) hx hb d_M_third_243 (by decide) (fun c_24 => ?_) (fun c_24 => ?_)
              · refine lv_aload_n hx hb d_M_third_274 rfl (lv_at hl 1 rfl) ?_
                obtain ⟨rg, ft, h1, h2, hP⟩ := id hw
                refine va_get (D := (dC, dI)) (ci := 2) (v := .int f) (C := R_M) (T := F_M) (N := 14) hx hb hT i_M hown hK hP 0 rfl rfl 11 (by decide) (hT _ m_764) (fun _ h9 => h9) rfl d_M_third_275 ?_
                refine lv_iconst (v := 4) hx hb d_M_third_278 (by decide) ?_
                refine lv_icmp_ne (tgt := 293) hx hb d_M_third_279 (by decide) (fun c_25 => ?_) (fun c_25 => ?_)
                · exact W.vret hx hb hr (fun t ht hW => ⟨⟨(), rfl, trivial, ⟨_, _, _, _, ok, mwd_at ht (mwd_eq (by rw [g_M_third, if_neg c_1, if_pos c_2, if_pos c_18, if_neg c_19, if_neg c_20, if_pos c_21, if_pos c_24, if_neg c_25]) hw)⟩⟩, hS.F ht⟩) hS.2.2 d_M_third_293
                · refine lv_iload_n hx hb d_M_third_282 rfl (lv_at hl 0 rfl) ?_
                  refine lv_if_eq (tgt := 293) hx hb d_M_third_283 (by decide) (fun c_26 => ?_) (fun c_26 => ?_)
                  · exact W.vret hx hb hr (fun t ht hW => ⟨⟨(), rfl, trivial, ⟨_, _, _, _, ok, mwd_at ht (mwd_eq (by rw [g_M_third, if_neg c_1, if_pos c_2, if_pos c_18, if_neg c_19, if_neg c_20, if_pos c_21, if_pos c_24, if_pos c_25, if_pos c_26]) hw)⟩⟩, hS.F ht⟩) hS.2.2 d_M_third_293
                  · refine lv_aload_n hx hb d_M_third_286 rfl (lv_at hl 1 rfl) ?_
                    refine lv_ldc2 (v := 7737577176750698083) hx hb hown (hT _ m_1024) d_M_third_287 ?_
                    refine call_M_name S inC m_833 ⟨(Nat.le_of_ble_eq_true rfl), (Nat.le_of_ble_eq_true rfl)⟩ hl.1 (Nat.le_of_ble_eq_true rfl) d_M_third_290 ⟨(Nat.le_of_ble_eq_true rfl), (Nat.le_of_ble_eq_true rfl)⟩ hK ap ok hS hA hw (by omega) (fun H locs hw hS _ => ?_)
                    have hL16 := sName_le 7737577176750698083 st
                    exact W.vret hx hb hr (fun t ht hW => ⟨⟨(), rfl, trivial, ⟨_, _, _, _, ok, mwd_at ht (mwd_eq (by rw [g_M_third, if_neg c_1, if_pos c_2, if_pos c_18, if_neg c_19, if_neg c_20, if_pos c_21, if_pos c_24, if_pos c_25, if_neg c_26]) hw)⟩⟩, hS.F ht⟩) hS.2.2 d_M_third_293
              · refine lv_aload_n hx hb d_M_third_246 rfl (lv_at hl 1 rfl) ?_
                refine lv_iload_n hx hb d_M_third_247 rfl (lv_at hl 0 rfl) ?_
                refine rg_M_third_248 S inC hT (Nat.le_of_ble_eq_true rfl) (Nat.le_of_ble_eq_true rfl) ⟨(Nat.le_of_ble_eq_true rfl), (Nat.le_of_ble_eq_true rfl)⟩ hK hw hl ?_
                refine call_M_name S inC m_833 ⟨(Nat.le_of_ble_eq_true rfl), (Nat.le_of_ble_eq_true rfl)⟩ hl.1 (Nat.le_of_ble_eq_true rfl) d_M_third_260 ⟨(Nat.le_of_ble_eq_true rfl), (Nat.le_of_ble_eq_true rfl)⟩ hK ap ok hS hA hw (by omega) (fun H locs hw hS _ => ?_)
                have hL17 := sName_le (q_M_third_248 bi d a (f_M_part bi 2 5) f (q_M_third_8 bi d a b f)) st
                refine lv_aload_n hx hb d_M_third_263 rfl (lv_at hl 1 rfl) ?_
                refine lv_aload_n hx hb d_M_third_264 rfl (lv_at hl 1 rfl) ?_
                obtain ⟨rg, ft, h1, h2, hP⟩ := id hw
                refine va_get (D := (dC, dI)) (ci := 2) (v := .int d) (C := R_M) (T := F_M) (N := 14) hx hb hT i_M hown hK hP 0 rfl rfl 8 (by decide) (hT _ m_761) (fun _ h9 => h9) rfl d_M_third_265 ?_
                refine call_M_register S inC m_846 ⟨(Nat.le_of_ble_eq_true rfl), (Nat.le_of_ble_eq_true rfl)⟩ hl.1 (Nat.le_of_ble_eq_true rfl) d_M_third_268 ⟨(Nat.le_of_ble_eq_true rfl), (Nat.le_of_ble_eq_true rfl)⟩ hK ap ok hS hA hw ok.1 (by omega) (fun H locs hw hS _ => ?_)
                have hL18 := sReg_le d (sName (q_M_third_248 bi d a (f_M_part bi 2 5) f (q_M_third_8 bi d a b f)) st)
                refine lv_goto (tgt := 293) hx hb d_M_third_271 (by decide) ?_
                exact W.vret hx hb hr (fun t ht hW => ⟨⟨(), rfl, trivial, ⟨_, _, _, _, ok, mwd_at ht (mwd_eq (by rw [g_M_third, if_neg c_1, if_pos c_2, if_pos c_18, if_neg c_19, if_neg c_20, if_pos c_21, if_neg c_24]) hw)⟩⟩, hS.F ht⟩) hS.2.2 d_M_third_293
          · refine lv_aload_n hx hb d_M_third_188 rfl (lv_at hl 1 rfl) ?_
            obtain ⟨rg, ft, h1, h2, hP⟩ := id hw
            refine va_get (D := (dC, dI)) (ci := 2) (v := .int (f_M_part bi 2 5)) (C := R_M) (T := F_M) (N := 14) hx hb hT i_M hown hK hP 0 rfl rfl 10 (by decide) (hT _ m_763) (fun _ h9 => h9) rfl d_M_third_189 ?_
            refine lv_if_eq (tgt := 231) hx hb d_M_third_192 (by decide) (fun c_27 => ?_) (fun c_27 => ?_)
            · refine lv_aload_n hx hb d_M_third_231 rfl (lv_at hl 1 rfl) ?_
              obtain ⟨rg, ft, h1, h2, hP⟩ := id hw
              refine va_get (D := (dC, dI)) (ci := 2) (v := .int f) (C := R_M) (T := F_M) (N := 14) hx hb hT i_M hown hK hP 0 rfl rfl 11 (by decide) (hT _ m_764) (fun _ h9 => h9) rfl d_M_third_232 ?_
              refine lv_iconst (v := 4) hx hb d_M_third_235 (by decide) ?_
              refine lv_icmp_ne (tgt := 274) hx hb d_M_third_236 (by decide) (fun c_28 => ?_) (fun c_28 => ?_)
              · refine lv_aload_n hx hb d_M_third_274 rfl (lv_at hl 1 rfl) ?_
                obtain ⟨rg, ft, h1, h2, hP⟩ := id hw
                refine va_get (D := (dC, dI)) (ci := 2) (v := .int f) (C := R_M) (T := F_M) (N := 14) hx hb hT i_M hown hK hP 0 rfl rfl 11 (by decide) (hT _ m_764) (fun _ h9 => h9) rfl d_M_third_275 ?_
                refine lv_iconst (v := 4) hx hb d_M_third_278 (by decide) ?_
                refine lv_icmp_ne (tgt := 293) hx hb d_M_third_279 (by decide) (fun c_29 => ?_) (fun c_29 => ?_)
                · exact W.vret hx hb hr (fun t ht hW => ⟨⟨(), rfl, trivial, ⟨_, _, _, _, ok, mwd_at ht (mwd_eq (by rw [g_M_third, if_neg c_1, if_pos c_2, if_pos c_18, if_neg c_19, if_pos c_20, if_pos c_27, if_neg c_28, if_neg c_29]) hw)⟩⟩, hS.F ht⟩) hS.2.2 d_M_third_293
                · refine lv_iload_n hx hb d_M_third_282 rfl (lv_at hl 0 rfl) ?_
                  refine lv_if_eq (tgt := 293) hx hb d_M_third_283 (by decide) (fun c_30 => ?_) (fun c_30 => ?_)
                  · exact W.vret hx hb hr (fun t ht hW => ⟨⟨(), rfl, trivial, ⟨_, _, _, _, ok, mwd_at ht (mwd_eq (by rw [g_M_third, if_neg c_1, if_pos c_2, if_pos c_18, if_neg c_19, if_pos c_20, if_pos c_27, if_neg c_28, if_pos c_29, if_pos c_30]) hw)⟩⟩, hS.F ht⟩) hS.2.2 d_M_third_293
                  · refine lv_aload_n hx hb d_M_third_286 rfl (lv_at hl 1 rfl) ?_
                    refine lv_ldc2 (v := 7737577176750698083) hx hb hown (hT _ m_1024) d_M_third_287 ?_
                    refine call_M_name S inC m_833 ⟨(Nat.le_of_ble_eq_true rfl), (Nat.le_of_ble_eq_true rfl)⟩ hl.1 (Nat.le_of_ble_eq_true rfl) d_M_third_290 ⟨(Nat.le_of_ble_eq_true rfl), (Nat.le_of_ble_eq_true rfl)⟩ hK ap ok hS hA hw (by omega) (fun H locs hw hS _ => ?_)
                    have hL19 := sName_le 7737577176750698083 st
                    exact W.vret hx hb hr (fun t ht hW => ⟨⟨(), rfl, trivial, ⟨_, _, _, _, ok, mwd_at ht (mwd_eq (by rw [g_M_third, if_neg c_1, if_pos c_2, if_pos c_18, if_neg c_19, if_pos c_20, if_pos c_27, if_neg c_28, if_pos c_29, if_neg c_30]) hw)⟩⟩, hS.F ht⟩) hS.2.2 d_M_third_293
              · refine lv_aload_n hx hb d_M_third_239 rfl (lv_at hl 1 rfl) ?_
                obtain ⟨rg, ft, h1, h2, hP⟩ := id hw
                refine va_get (D := (dC, dI)) (ci := 2) (v := .int d) (C := R_M) (T := F_M) (N := 14) hx hb hT i_M hown hK hP 0 rfl rfl 8 (by decide) (hT _ m_761) (fun _ h9 => h9) rfl d_M_third_240 ?_
                refine lv_if_eq (tgt := 274) hx hb d_M_third_243 (by decide) (fun c_31 => ?_) (fun c_31 => ?_)
                · refine lv_aload_n hx hb d_M_third_274 rfl (lv_at hl 1 rfl) ?_
                  obtain ⟨rg, ft, h1, h2, hP⟩ := id hw
                  refine va_get (D := (dC, dI)) (ci := 2) (v := .int f) (C := R_M) (T := F_M) (N := 14) hx hb hT i_M hown hK hP 0 rfl rfl 11 (by decide) (hT _ m_764) (fun _ h9 => h9) rfl d_M_third_275 ?_
                  refine lv_iconst (v := 4) hx hb d_M_third_278 (by decide) ?_
                  refine lv_icmp_ne (tgt := 293) hx hb d_M_third_279 (by decide) (fun c_32 => ?_) (fun c_32 => ?_)
                  · exact W.vret hx hb hr (fun t ht hW => ⟨⟨(), rfl, trivial, ⟨_, _, _, _, ok, mwd_at ht (mwd_eq (by rw [g_M_third, if_neg c_1, if_pos c_2, if_pos c_18, if_neg c_19, if_pos c_20, if_pos c_27, if_pos c_28, if_pos c_31, if_neg c_32]) hw)⟩⟩, hS.F ht⟩) hS.2.2 d_M_third_293
                  · refine lv_iload_n hx hb d_M_third_282 rfl (lv_at hl 0 rfl) ?_
                    refine lv_if_eq (tgt := 293) hx hb d_M_third_283 (by decide) (fun c_33 => ?_) (fun c_33 => ?_)
                    · exact W.vret hx hb hr (fun t ht hW => ⟨⟨(), rfl, trivial, ⟨_, _, _, _, ok, mwd_at ht (mwd_eq (by rw [g_M_third, if_neg c_1, if_pos c_2, if_pos c_18, if_neg c_19, if_pos c_20, if_pos c_27, if_pos c_28, if_pos c_31, if_pos c_32, if_pos c_33]) hw)⟩⟩, hS.F ht⟩) hS.2.2 d_M_third_293
                    · refine lv_aload_n hx hb d_M_third_286 rfl (lv_at hl 1 rfl) ?_
                      refine lv_ldc2 (v := 7737577176750698083) hx hb hown (hT _ m_1024) d_M_third_287 ?_
                      refine call_M_name S inC m_833 ⟨(Nat.le_of_ble_eq_true rfl), (Nat.le_of_ble_eq_true rfl)⟩ hl.1 (Nat.le_of_ble_eq_true rfl) d_M_third_290 ⟨(Nat.le_of_ble_eq_true rfl), (Nat.le_of_ble_eq_true rfl)⟩ hK ap ok hS hA hw (by omega) (fun H locs hw hS _ => ?_)
                      have hL20 := sName_le 7737577176750698083 st
                      exact W.vret hx hb hr (fun t ht hW => ⟨⟨(), rfl, trivial, ⟨_, _, _, _, ok, mwd_at ht (mwd_eq (by rw [g_M_third, if_neg c_1, if_pos c_2, if_pos c_18, if_neg c_19, if_pos c_20, if_pos c_27, if_pos c_28, if_pos c_31, if_pos c_32, if_neg c_33]) hw)⟩⟩, hS.F ht⟩) hS.2.2 d_M_third_293
                · refine lv_aload_n hx hb d_M_third_246 rfl (lv_at hl 1 rfl) ?_
                  refine lv_iload_n hx hb d_M_third_247 rfl (lv_at hl 0 rfl) ?_
                  refine rg_M_third_248 S inC hT (Nat.le_of_ble_eq_true rfl) (Nat.le_of_ble_eq_true rfl) ⟨(Nat.le_of_ble_eq_true rfl), (Nat.le_of_ble_eq_true rfl)⟩ hK hw hl ?_
                  refine call_M_name S inC m_833 ⟨(Nat.le_of_ble_eq_true rfl), (Nat.le_of_ble_eq_true rfl)⟩ hl.1 (Nat.le_of_ble_eq_true rfl) d_M_third_260 ⟨(Nat.le_of_ble_eq_true rfl), (Nat.le_of_ble_eq_true rfl)⟩ hK ap ok hS hA hw (by omega) (fun H locs hw hS _ => ?_)
                  have hL21 := sName_le (q_M_third_248 bi d a (f_M_part bi 2 5) f (q_M_third_8 bi d a b f)) st
                  refine lv_aload_n hx hb d_M_third_263 rfl (lv_at hl 1 rfl) ?_
                  refine lv_aload_n hx hb d_M_third_264 rfl (lv_at hl 1 rfl) ?_
                  obtain ⟨rg, ft, h1, h2, hP⟩ := id hw
                  refine va_get (D := (dC, dI)) (ci := 2) (v := .int d) (C := R_M) (T := F_M) (N := 14) hx hb hT i_M hown hK hP 0 rfl rfl 8 (by decide) (hT _ m_761) (fun _ h9 => h9) rfl d_M_third_265 ?_
                  refine call_M_register S inC m_846 ⟨(Nat.le_of_ble_eq_true rfl), (Nat.le_of_ble_eq_true rfl)⟩ hl.1 (Nat.le_of_ble_eq_true rfl) d_M_third_268 ⟨(Nat.le_of_ble_eq_true rfl), (Nat.le_of_ble_eq_true rfl)⟩ hK ap ok hS hA hw ok.1 (by omega) (fun H locs hw hS _ => ?_)
                  have hL22 := sReg_le d (sName (q_M_third_248 bi d a (f_M_part bi 2 5) f (q_M_third_8 bi d a b f)) st)
                  refine lv_goto (tgt := 293) hx hb d_M_third_271 (by decide) ?_
                  exact W.vret hx hb hr (fun t ht hW => ⟨⟨(), rfl, trivial, ⟨_, _, _, _, ok, mwd_at ht (mwd_eq (by rw [g_M_third, if_neg c_1, if_pos c_2, if_pos c_18, if_neg c_19, if_pos c_20, if_pos c_27, if_pos c_28, if_neg c_31]) hw)⟩⟩, hS.F ht⟩) hS.2.2 d_M_third_293
            · refine lv_aload_n hx hb d_M_third_195 rfl (lv_at hl 1 rfl) ?_
              refine lv_iload_n hx hb d_M_third_196 rfl (lv_at hl 0 rfl) ?_
              refine rg_M_third_197 S inC hT (Nat.le_of_ble_eq_true rfl) (Nat.le_of_ble_eq_true rfl) ⟨(Nat.le_of_ble_eq_true rfl), (Nat.le_of_ble_eq_true rfl)⟩ hK hw hl ?_
              refine call_M_name S inC m_833 ⟨(Nat.le_of_ble_eq_true rfl), (Nat.le_of_ble_eq_true rfl)⟩ hl.1 (Nat.le_of_ble_eq_true rfl) d_M_third_209 ⟨(Nat.le_of_ble_eq_true rfl), (Nat.le_of_ble_eq_true rfl)⟩ hK ap ok hS hA hw (by omega) (fun H locs hw hS _ => ?_)
              have hL23 := sName_le (q_M_third_197 bi d a (f_M_part bi 2 5) f (q_M_third_8 bi d a b f)) st
              refine lv_aload_n hx hb d_M_third_212 rfl (lv_at hl 1 rfl) ?_
              refine lv_aload_n hx hb d_M_third_213 rfl (lv_at hl 1 rfl) ?_
              obtain ⟨rg, ft, h1, h2, hP⟩ := id hw
              refine va_get (D := (dC, dI)) (ci := 2) (v := .int d) (C := R_M) (T := F_M) (N := 14) hx hb hT i_M hown hK hP 0 rfl rfl 8 (by decide) (hT _ m_761) (fun _ h9 => h9) rfl d_M_third_214 ?_
              refine call_M_register S inC m_846 ⟨(Nat.le_of_ble_eq_true rfl), (Nat.le_of_ble_eq_true rfl)⟩ hl.1 (Nat.le_of_ble_eq_true rfl) d_M_third_217 ⟨(Nat.le_of_ble_eq_true rfl), (Nat.le_of_ble_eq_true rfl)⟩ hK ap ok hS hA hw ok.1 (by omega) (fun H locs hw hS _ => ?_)
              have hL24 := sReg_le d (sName (q_M_third_197 bi d a (f_M_part bi 2 5) f (q_M_third_8 bi d a b f)) st)
              refine lv_aload_n hx hb d_M_third_220 rfl (lv_at hl 1 rfl) ?_
              refine lv_aload_n hx hb d_M_third_221 rfl (lv_at hl 1 rfl) ?_
              obtain ⟨rg, ft, h1, h2, hP⟩ := id hw
              refine va_get (D := (dC, dI)) (ci := 2) (v := .int (f_M_part bi 2 5)) (C := R_M) (T := F_M) (N := 14) hx hb hT i_M hown hK hP 0 rfl rfl 10 (by decide) (hT _ m_763) (fun _ h9 => h9) rfl d_M_third_222 ?_
              refine call_M_register S inC m_846 ⟨(Nat.le_of_ble_eq_true rfl), (Nat.le_of_ble_eq_true rfl)⟩ hl.1 (Nat.le_of_ble_eq_true rfl) d_M_third_225 ⟨(Nat.le_of_ble_eq_true rfl), (Nat.le_of_ble_eq_true rfl)⟩ hK ap ok hS hA hw (p5_in _ _) (by omega) (fun H locs hw hS _ => ?_)
              have hL25 := sReg_le (f_M_part bi 2 5) (sReg d (sName (q_M_third_197 bi d a (f_M_part bi 2 5) f (q_M_third_8 bi d a b f)) st))
              refine lv_goto (tgt := 293) hx hb d_M_third_228 (by decide) ?_
              exact W.vret hx hb hr (fun t ht hW => ⟨⟨(), rfl, trivial, ⟨_, _, _, _, ok, mwd_at ht (mwd_eq (by rw [g_M_third, if_neg c_1, if_pos c_2, if_pos c_18, if_neg c_19, if_pos c_20, if_neg c_27]) hw)⟩⟩, hS.F ht⟩) hS.2.2 d_M_third_293
        · refine lv_aload_n hx hb d_M_third_138 rfl (lv_at hl 1 rfl) ?_
          refine lv_ldc2 (v := 123641227587171) hx hb hown (hT _ m_1019) d_M_third_139 ?_
          refine call_M_name S inC m_833 ⟨(Nat.le_of_ble_eq_true rfl), (Nat.le_of_ble_eq_true rfl)⟩ hl.1 (Nat.le_of_ble_eq_true rfl) d_M_third_142 ⟨(Nat.le_of_ble_eq_true rfl), (Nat.le_of_ble_eq_true rfl)⟩ hK ap ok hS hA hw (by omega) (fun H locs hw hS _ => ?_)
          have hL26 := sName_le 123641227587171 st
          refine lv_aload_n hx hb d_M_third_145 rfl (lv_at hl 1 rfl) ?_
          refine lv_aload_n hx hb d_M_third_146 rfl (lv_at hl 1 rfl) ?_
          obtain ⟨rg, ft, h1, h2, hP⟩ := id hw
          refine va_get (D := (dC, dI)) (ci := 2) (v := .int (f_M_part bi 2 5)) (C := R_M) (T := F_M) (N := 14) hx hb hT i_M hown hK hP 0 rfl rfl 10 (by decide) (hT _ m_763) (fun _ h9 => h9) rfl d_M_third_147 ?_
          refine call_M_register S inC m_846 ⟨(Nat.le_of_ble_eq_true rfl), (Nat.le_of_ble_eq_true rfl)⟩ hl.1 (Nat.le_of_ble_eq_true rfl) d_M_third_150 ⟨(Nat.le_of_ble_eq_true rfl), (Nat.le_of_ble_eq_true rfl)⟩ hK ap ok hS hA hw (p5_in _ _) (by omega) (fun H locs hw hS _ => ?_)
          have hL27 := sReg_le (f_M_part bi 2 5) (sName 123641227587171 st)
          refine lv_aload_n hx hb d_M_third_153 rfl (lv_at hl 1 rfl) ?_
          refine lv_aload_n hx hb d_M_third_154 rfl (lv_at hl 1 rfl) ?_
          refine lv_bipush (v := 9) hx hb d_M_third_155 (by decide) ?_
          refine lv_iconst (v := 4) hx hb d_M_third_157 (by decide) ?_
          refine call_M_part S inC m_809 ⟨(Nat.le_of_ble_eq_true rfl), (Nat.le_of_ble_eq_true rfl)⟩ hl.1 (Nat.le_of_ble_eq_true rfl) d_M_third_158 ⟨(Nat.le_of_ble_eq_true rfl), (Nat.le_of_ble_eq_true rfl)⟩ hK hw ?_
          refine lv_iconst (v := 2) hx hb d_M_third_161 (by decide) ?_
          refine lv_ishl hx hb d_M_third_162 ?_
          refine lv_aload_n hx hb d_M_third_163 rfl (lv_at hl 1 rfl) ?_
          refine lv_bipush (v := 7) hx hb d_M_third_164 (by decide) ?_
          refine lv_iconst (v := 2) hx hb d_M_third_166 (by decide) ?_
          refine call_M_part S inC m_809 ⟨(Nat.le_of_ble_eq_true rfl), (Nat.le_of_ble_eq_true rfl)⟩ hl.1 (Nat.le_of_ble_eq_true rfl) d_M_third_167 ⟨(Nat.le_of_ble_eq_true rfl), (Nat.le_of_ble_eq_true rfl)⟩ hK hw ?_
          refine lv_bipush (v := 6) hx hb d_M_third_170 (by decide) ?_
          refine lv_ishl hx hb d_M_third_172 ?_
          refine lv_ior hx hb d_M_third_173 ?_
          refine call_M_immediate S inC m_877 ⟨(Nat.le_of_ble_eq_true rfl), (Nat.le_of_ble_eq_true rfl)⟩ hl.1 (Nat.le_of_ble_eq_true rfl) d_M_third_174 ⟨(Nat.le_of_ble_eq_true rfl), (Nat.le_of_ble_eq_true rfl)⟩ hK ap ok hS hA hw (by omega) (fun H locs hw hS _ => ?_)
          have hL28 := gl_M_immediate bi d a (f_M_part bi 2 5) f (((f_M_part bi 9 4) <<< ((2 : Int32) &&& 31)) ||| ((f_M_part bi 7 2) <<< ((6 : Int32) &&& 31))) (sReg (f_M_part bi 2 5) (sName 123641227587171 st))
          refine lv_goto (tgt := 293) hx hb d_M_third_177 (by decide) ?_
          exact W.vret hx hb hr (fun t ht hW => ⟨⟨(), rfl, trivial, ⟨_, _, _, _, ok, mwd_at ht (mwd_eq (by rw [g_M_third, if_neg c_1, if_pos c_2, if_pos c_18, if_pos c_19]) hw)⟩⟩, hS.F ht⟩) hS.2.2 d_M_third_293
      · refine lv_aload_n hx hb d_M_third_79 rfl (lv_at hl 1 rfl) ?_
        refine lv_ldc2 (v := 123641227128419) hx hb hown (hT _ m_1018) d_M_third_80 ?_
        refine call_M_name S inC m_833 ⟨(Nat.le_of_ble_eq_true rfl), (Nat.le_of_ble_eq_true rfl)⟩ hl.1 (Nat.le_of_ble_eq_true rfl) d_M_third_83 ⟨(Nat.le_of_ble_eq_true rfl), (Nat.le_of_ble_eq_true rfl)⟩ hK ap ok hS hA hw (by omega) (fun H locs hw hS _ => ?_)
        have hL29 := sName_le 123641227128419 st
        refine lv_aload_n hx hb d_M_third_86 rfl (lv_at hl 1 rfl) ?_
        refine lv_aload_n hx hb d_M_third_87 rfl (lv_at hl 1 rfl) ?_
        obtain ⟨rg, ft, h1, h2, hP⟩ := id hw
        refine va_get (D := (dC, dI)) (ci := 2) (v := .int d) (C := R_M) (T := F_M) (N := 14) hx hb hT i_M hown hK hP 0 rfl rfl 8 (by decide) (hT _ m_761) (fun _ h9 => h9) rfl d_M_third_88 ?_
        refine call_M_register S inC m_846 ⟨(Nat.le_of_ble_eq_true rfl), (Nat.le_of_ble_eq_true rfl)⟩ hl.1 (Nat.le_of_ble_eq_true rfl) d_M_third_91 ⟨(Nat.le_of_ble_eq_true rfl), (Nat.le_of_ble_eq_true rfl)⟩ hK ap ok hS hA hw ok.1 (by omega) (fun H locs hw hS _ => ?_)
        have hL30 := sReg_le d (sName 123641227128419 st)
        refine lv_aload_n hx hb d_M_third_94 rfl (lv_at hl 1 rfl) ?_
        refine lv_aload_n hx hb d_M_third_95 rfl (lv_at hl 1 rfl) ?_
        refine lv_bipush (v := 12) hx hb d_M_third_96 (by decide) ?_
        refine lv_iconst (v := 1) hx hb d_M_third_98 (by decide) ?_
        refine call_M_part S inC m_809 ⟨(Nat.le_of_ble_eq_true rfl), (Nat.le_of_ble_eq_true rfl)⟩ hl.1 (Nat.le_of_ble_eq_true rfl) d_M_third_99 ⟨(Nat.le_of_ble_eq_true rfl), (Nat.le_of_ble_eq_true rfl)⟩ hK hw ?_
        refine lv_iconst (v := 5) hx hb d_M_third_102 (by decide) ?_
        refine lv_ishl hx hb d_M_third_103 ?_
        refine lv_aload_n hx hb d_M_third_104 rfl (lv_at hl 1 rfl) ?_
        refine lv_iconst (v := 4) hx hb d_M_third_105 (by decide) ?_
        refine lv_iconst (v := 3) hx hb d_M_third_106 (by decide) ?_
        refine call_M_part S inC m_809 ⟨(Nat.le_of_ble_eq_true rfl), (Nat.le_of_ble_eq_true rfl)⟩ hl.1 (Nat.le_of_ble_eq_true rfl) d_M_third_107 ⟨(Nat.le_of_ble_eq_true rfl), (Nat.le_of_ble_eq_true rfl)⟩ hK hw ?_
        refine lv_iconst (v := 2) hx hb d_M_third_110 (by decide) ?_
        refine lv_ishl hx hb d_M_third_111 ?_
        refine lv_ior hx hb d_M_third_112 ?_
        refine lv_aload_n hx hb d_M_third_113 rfl (lv_at hl 1 rfl) ?_
        refine lv_iconst (v := 2) hx hb d_M_third_114 (by decide) ?_
        refine lv_iconst (v := 2) hx hb d_M_third_115 (by decide) ?_
        refine call_M_part S inC m_809 ⟨(Nat.le_of_ble_eq_true rfl), (Nat.le_of_ble_eq_true rfl)⟩ hl.1 (Nat.le_of_ble_eq_true rfl) d_M_third_116 ⟨(Nat.le_of_ble_eq_true rfl), (Nat.le_of_ble_eq_true rfl)⟩ hK hw ?_
        refine lv_bipush (v := 6) hx hb d_M_third_119 (by decide) ?_
        refine lv_ishl hx hb d_M_third_121 ?_
        refine lv_ior hx hb d_M_third_122 ?_
        refine call_M_immediate S inC m_877 ⟨(Nat.le_of_ble_eq_true rfl), (Nat.le_of_ble_eq_true rfl)⟩ hl.1 (Nat.le_of_ble_eq_true rfl) d_M_third_123 ⟨(Nat.le_of_ble_eq_true rfl), (Nat.le_of_ble_eq_true rfl)⟩ hK ap ok hS hA hw (by omega) (fun H locs hw hS _ => ?_)
        have hL31 := gl_M_immediate bi d a (f_M_part bi 2 5) f ((((f_M_part bi 12 1) <<< ((5 : Int32) &&& 31)) ||| ((f_M_part bi 4 3) <<< ((2 : Int32) &&& 31))) ||| ((f_M_part bi 2 2) <<< ((6 : Int32) &&& 31))) (sReg d (sName 123641227128419 st))
        refine lv_goto (tgt := 293) hx hb d_M_third_126 (by decide) ?_
        exact W.vret hx hb hr (fun t ht hW => ⟨⟨(), rfl, trivial, ⟨_, _, _, _, ok, mwd_at ht (mwd_eq (by rw [g_M_third, if_neg c_1, if_pos c_2, if_neg c_18]) hw)⟩⟩, hS.F ht⟩) hS.2.2 d_M_third_293
  · refine lv_iload_n hx hb d_M_third_34 rfl (lv_at hl 0 rfl) ?_
    refine lv_if_ne (tgt := 64) hx hb d_M_third_35 (by decide) (fun c_34 => ?_) (fun c_34 => ?_)
    · refine lv_aload_n hx hb d_M_third_64 rfl (lv_at hl 1 rfl) ?_
      obtain ⟨rg, ft, h1, h2, hP⟩ := id hw
      refine va_get (D := (dC, dI)) (ci := 2) (v := .int f) (C := R_M) (T := F_M) (N := 14) hx hb hT i_M hown hK hP 0 rfl rfl 11 (by decide) (hT _ m_764) (fun _ h9 => h9) rfl d_M_third_65 ?_
      refine lv_iconst (v := 2) hx hb d_M_third_68 (by decide) ?_
      refine lv_icmp_ne (tgt := 129) hx hb d_M_third_69 (by decide) (fun c_35 => ?_) (fun c_35 => ?_)
      · refine lv_aload_n hx hb d_M_third_129 rfl (lv_at hl 1 rfl) ?_
        obtain ⟨rg, ft, h1, h2, hP⟩ := id hw
        refine va_get (D := (dC, dI)) (ci := 2) (v := .int f) (C := R_M) (T := F_M) (N := 14) hx hb hT i_M hown hK hP 0 rfl rfl 11 (by decide) (hT _ m_764) (fun _ h9 => h9) rfl d_M_third_130 ?_
        refine lv_bipush (v := 6) hx hb d_M_third_133 (by decide) ?_
        refine lv_icmp_ne (tgt := 180) hx hb d_M_third_135 (by decide) (fun c_36 => ?_) (fun c_36 => ?_)
        · refine lv_aload_n hx hb d_M_third_180 rfl (lv_at hl 1 rfl) ?_
          obtain ⟨rg, ft, h1, h2, hP⟩ := id hw
          refine va_get (D := (dC, dI)) (ci := 2) (v := .int f) (C := R_M) (T := F_M) (N := 14) hx hb hT i_M hown hK hP 0 rfl rfl 11 (by decide) (hT _ m_764) (fun _ h9 => h9) rfl d_M_third_181 ?_
          refine lv_iconst (v := 4) hx hb d_M_third_184 (by decide) ?_
          refine lv_icmp_ne (tgt := 231) hx hb d_M_third_185 (by decide) (fun c_37 => ?_) (fun c_37 => ?_)
          · refine lv_aload_n hx hb d_M_third_231 rfl (lv_at hl 1 rfl) ?_
            obtain ⟨rg, ft, h1, h2, hP⟩ := id hw
            refine va_get (D := (dC, dI)) (ci := 2) (v := .int f) (C := R_M) (T := F_M) (N := 14) hx hb hT i_M hown hK hP 0 rfl rfl 11 (by decide) (hT _ m_764) (fun _ h9 => h9) rfl d_M_third_232 ?_
            refine lv_iconst (v := 4) hx hb d_M_third_235 (by decide) ?_
            refine lv_icmp_ne (tgt := 274) hx hb d_M_third_236 (by decide) (fun c_38 => ?_) (fun c_38 => ?_)
            · refine lv_aload_n hx hb d_M_third_274 rfl (lv_at hl 1 rfl) ?_
              obtain ⟨rg, ft, h1, h2, hP⟩ := id hw
              refine va_get (D := (dC, dI)) (ci := 2) (v := .int f) (C := R_M) (T := F_M) (N := 14) hx hb hT i_M hown hK hP 0 rfl rfl 11 (by decide) (hT _ m_764) (fun _ h9 => h9) rfl d_M_third_275 ?_
              refine lv_iconst (v := 4) hx hb d_M_third_278 (by decide) ?_
              refine lv_icmp_ne (tgt := 293) hx hb d_M_third_279 (by decide) (fun c_39 => ?_) (fun c_39 => ?_)
              · exact W.vret hx hb hr (fun t ht hW => ⟨⟨(), rfl, trivial, ⟨_, _, _, _, ok, mwd_at ht (mwd_eq (by rw [g_M_third, if_pos c_1, if_neg c_34, if_neg c_35, if_neg c_36, if_neg c_37, if_neg c_38, if_neg c_39]) hw)⟩⟩, hS.F ht⟩) hS.2.2 d_M_third_293
              · refine lv_iload_n hx hb d_M_third_282 rfl (lv_at hl 0 rfl) ?_
                refine lv_if_eq (tgt := 293) hx hb d_M_third_283 (by decide) (fun c_40 => ?_) (fun c_40 => ?_)
                · exact W.vret hx hb hr (fun t ht hW => ⟨⟨(), rfl, trivial, ⟨_, _, _, _, ok, mwd_at ht (mwd_eq (by rw [g_M_third, if_pos c_1, if_neg c_34, if_neg c_35, if_neg c_36, if_neg c_37, if_neg c_38, if_pos c_39, if_pos c_40]) hw)⟩⟩, hS.F ht⟩) hS.2.2 d_M_third_293
                · refine lv_aload_n hx hb d_M_third_286 rfl (lv_at hl 1 rfl) ?_
                  refine lv_ldc2 (v := 7737577176750698083) hx hb hown (hT _ m_1024) d_M_third_287 ?_
                  refine call_M_name S inC m_833 ⟨(Nat.le_of_ble_eq_true rfl), (Nat.le_of_ble_eq_true rfl)⟩ hl.1 (Nat.le_of_ble_eq_true rfl) d_M_third_290 ⟨(Nat.le_of_ble_eq_true rfl), (Nat.le_of_ble_eq_true rfl)⟩ hK ap ok hS hA hw (by omega) (fun H locs hw hS _ => ?_)
                  have hL32 := sName_le 7737577176750698083 st
                  exact W.vret hx hb hr (fun t ht hW => ⟨⟨(), rfl, trivial, ⟨_, _, _, _, ok, mwd_at ht (mwd_eq (by rw [g_M_third, if_pos c_1, if_neg c_34, if_neg c_35, if_neg c_36, if_neg c_37, if_neg c_38, if_pos c_39, if_neg c_40]) hw)⟩⟩, hS.F ht⟩) hS.2.2 d_M_third_293
            · refine lv_aload_n hx hb d_M_third_239 rfl (lv_at hl 1 rfl) ?_
              obtain ⟨rg, ft, h1, h2, hP⟩ := id hw
              refine va_get (D := (dC, dI)) (ci := 2) (v := .int d) (C := R_M) (T := F_M) (N := 14) hx hb hT i_M hown hK hP 0 rfl rfl 8 (by decide) (hT _ m_761) (fun _ h9 => h9) rfl d_M_third_240 ?_
              refine lv_if_eq (tgt := 274) hx hb d_M_third_243 (by decide) (fun c_41 => ?_) (fun c_41 => ?_)
              · refine lv_aload_n hx hb d_M_third_274 rfl (lv_at hl 1 rfl) ?_
                obtain ⟨rg, ft, h1, h2, hP⟩ := id hw
                refine va_get (D := (dC, dI)) (ci := 2) (v := .int f) (C := R_M) (T := F_M) (N := 14) hx hb hT i_M hown hK hP 0 rfl rfl 11 (by decide) (hT _ m_764) (fun _ h9 => h9) rfl d_M_third_275 ?_
                refine lv_iconst (v := 4) hx hb d_M_third_278 (by decide) ?_
                refine lv_icmp_ne (tgt := 293) hx hb d_M_third_279 (by decide) (fun c_42 => ?_) (fun c_42 => ?_)
                · exact W.vret hx hb hr (fun t ht hW => ⟨⟨(), rfl, trivial, ⟨_, _, _, _, ok, mwd_at ht (mwd_eq (by rw [g_M_third, if_pos c_1, if_neg c_34, if_neg c_35, if_neg c_36, if_neg c_37, if_pos c_38, if_pos c_41, if_neg c_42]) hw)⟩⟩, hS.F ht⟩) hS.2.2 d_M_third_293
                · refine lv_iload_n hx hb d_M_third_282 rfl (lv_at hl 0 rfl) ?_
                  refine lv_if_eq (tgt := 293) hx hb d_M_third_283 (by decide) (fun c_43 => ?_) (fun c_43 => ?_)
                  · exact W.vret hx hb hr (fun t ht hW => ⟨⟨(), rfl, trivial, ⟨_, _, _, _, ok, mwd_at ht (mwd_eq (by rw [g_M_third, if_pos c_1, if_neg c_34, if_neg c_35, if_neg c_36, if_neg c_37, if_pos c_38, if_pos c_41, if_pos c_42, if_pos c_43]) hw)⟩⟩, hS.F ht⟩) hS.2.2 d_M_third_293
                  · refine lv_aload_n hx hb d_M_third_286 rfl (lv_at hl 1 rfl) ?_
                    refine lv_ldc2 (v := 7737577176750698083) hx hb hown (hT _ m_1024) d_M_third_287 ?_
                    refine call_M_name S inC m_833 ⟨(Nat.le_of_ble_eq_true rfl), (Nat.le_of_ble_eq_true rfl)⟩ hl.1 (Nat.le_of_ble_eq_true rfl) d_M_third_290 ⟨(Nat.le_of_ble_eq_true rfl), (Nat.le_of_ble_eq_true rfl)⟩ hK ap ok hS hA hw (by omega) (fun H locs hw hS _ => ?_)
                    have hL33 := sName_le 7737577176750698083 st
                    exact W.vret hx hb hr (fun t ht hW => ⟨⟨(), rfl, trivial, ⟨_, _, _, _, ok, mwd_at ht (mwd_eq (by rw [g_M_third, if_pos c_1, if_neg c_34, if_neg c_35, if_neg c_36, if_neg c_37, if_pos c_38, if_pos c_41, if_pos c_42, if_neg c_43]) hw)⟩⟩, hS.F ht⟩) hS.2.2 d_M_third_293
              · refine lv_aload_n hx hb d_M_third_246 rfl (lv_at hl 1 rfl) ?_
                refine lv_iload_n hx hb d_M_third_247 rfl (lv_at hl 0 rfl) ?_
                refine rg_M_third_248 S inC hT (Nat.le_of_ble_eq_true rfl) (Nat.le_of_ble_eq_true rfl) ⟨(Nat.le_of_ble_eq_true rfl), (Nat.le_of_ble_eq_true rfl)⟩ hK hw hl ?_
                refine call_M_name S inC m_833 ⟨(Nat.le_of_ble_eq_true rfl), (Nat.le_of_ble_eq_true rfl)⟩ hl.1 (Nat.le_of_ble_eq_true rfl) d_M_third_260 ⟨(Nat.le_of_ble_eq_true rfl), (Nat.le_of_ble_eq_true rfl)⟩ hK ap ok hS hA hw (by omega) (fun H locs hw hS _ => ?_)
                have hL34 := sName_le (q_M_third_248 bi d a (f_M_part bi 2 5) f (q_M_third_8 bi d a b f)) st
                refine lv_aload_n hx hb d_M_third_263 rfl (lv_at hl 1 rfl) ?_
                refine lv_aload_n hx hb d_M_third_264 rfl (lv_at hl 1 rfl) ?_
                obtain ⟨rg, ft, h1, h2, hP⟩ := id hw
                refine va_get (D := (dC, dI)) (ci := 2) (v := .int d) (C := R_M) (T := F_M) (N := 14) hx hb hT i_M hown hK hP 0 rfl rfl 8 (by decide) (hT _ m_761) (fun _ h9 => h9) rfl d_M_third_265 ?_
                refine call_M_register S inC m_846 ⟨(Nat.le_of_ble_eq_true rfl), (Nat.le_of_ble_eq_true rfl)⟩ hl.1 (Nat.le_of_ble_eq_true rfl) d_M_third_268 ⟨(Nat.le_of_ble_eq_true rfl), (Nat.le_of_ble_eq_true rfl)⟩ hK ap ok hS hA hw ok.1 (by omega) (fun H locs hw hS _ => ?_)
                have hL35 := sReg_le d (sName (q_M_third_248 bi d a (f_M_part bi 2 5) f (q_M_third_8 bi d a b f)) st)
                refine lv_goto (tgt := 293) hx hb d_M_third_271 (by decide) ?_
                exact W.vret hx hb hr (fun t ht hW => ⟨⟨(), rfl, trivial, ⟨_, _, _, _, ok, mwd_at ht (mwd_eq (by rw [g_M_third, if_pos c_1, if_neg c_34, if_neg c_35, if_neg c_36, if_neg c_37, if_pos c_38, if_neg c_41]) hw)⟩⟩, hS.F ht⟩) hS.2.2 d_M_third_293
          · refine lv_aload_n hx hb d_M_third_188 rfl (lv_at hl 1 rfl) ?_
            obtain ⟨rg, ft, h1, h2, hP⟩ := id hw
            refine va_get (D := (dC, dI)) (ci := 2) (v := .int (f_M_part bi 2 5)) (C := R_M) (T := F_M) (N := 14) hx hb hT i_M hown hK hP 0 rfl rfl 10 (by decide) (hT _ m_763) (fun _ h9 => h9) rfl d_M_third_189 ?_
            refine lv_if_eq (tgt := 231) hx hb d_M_third_192 (by decide) (fun c_44 => ?_) (fun c_44 => ?_)
            · refine lv_aload_n hx hb d_M_third_231 rfl (lv_at hl 1 rfl) ?_
              obtain ⟨rg, ft, h1, h2, hP⟩ := id hw
              refine va_get (D := (dC, dI)) (ci := 2) (v := .int f) (C := R_M) (T := F_M) (N := 14) hx hb hT i_M hown hK hP 0 rfl rfl 11 (by decide) (hT _ m_764) (fun _ h9 => h9) rfl d_M_third_232 ?_
              refine lv_iconst (v := 4) hx hb d_M_third_235 (by decide) ?_
              refine lv_icmp_ne (tgt := 274) hx hb d_M_third_236 (by decide) (fun c_45 => ?_) (fun c_45 => ?_)
              · refine lv_aload_n hx hb d_M_third_274 rfl (lv_at hl 1 rfl) ?_
                obtain ⟨rg, ft, h1, h2, hP⟩ := id hw
                refine va_get (D := (dC, dI)) (ci := 2) (v := .int f) (C := R_M) (T := F_M) (N := 14) hx hb hT i_M hown hK hP 0 rfl rfl 11 (by decide) (hT _ m_764) (fun _ h9 => h9) rfl d_M_third_275 ?_
                refine lv_iconst (v := 4) hx hb d_M_third_278 (by decide) ?_
                refine lv_icmp_ne (tgt := 293) hx hb d_M_third_279 (by decide) (fun c_46 => ?_) (fun c_46 => ?_)
                · exact W.vret hx hb hr (fun t ht hW => ⟨⟨(), rfl, trivial, ⟨_, _, _, _, ok, mwd_at ht (mwd_eq (by rw [g_M_third, if_pos c_1, if_neg c_34, if_neg c_35, if_neg c_36, if_pos c_37, if_pos c_44, if_neg c_45, if_neg c_46]) hw)⟩⟩, hS.F ht⟩) hS.2.2 d_M_third_293
                · refine lv_iload_n hx hb d_M_third_282 rfl (lv_at hl 0 rfl) ?_
                  refine lv_if_eq (tgt := 293) hx hb d_M_third_283 (by decide) (fun c_47 => ?_) (fun c_47 => ?_)
                  · exact W.vret hx hb hr (fun t ht hW => ⟨⟨(), rfl, trivial, ⟨_, _, _, _, ok, mwd_at ht (mwd_eq (by rw [g_M_third, if_pos c_1, if_neg c_34, if_neg c_35, if_neg c_36, if_pos c_37, if_pos c_44, if_neg c_45, if_pos c_46, if_pos c_47]) hw)⟩⟩, hS.F ht⟩) hS.2.2 d_M_third_293
                  · refine lv_aload_n hx hb d_M_third_286 rfl (lv_at hl 1 rfl) ?_
                    refine lv_ldc2 (v := 7737577176750698083) hx hb hown (hT _ m_1024) d_M_third_287 ?_
                    refine call_M_name S inC m_833 ⟨(Nat.le_of_ble_eq_true rfl), (Nat.le_of_ble_eq_true rfl)⟩ hl.1 (Nat.le_of_ble_eq_true rfl) d_M_third_290 ⟨(Nat.le_of_ble_eq_true rfl), (Nat.le_of_ble_eq_true rfl)⟩ hK ap ok hS hA hw (by omega) (fun H locs hw hS _ => ?_)
                    have hL36 := sName_le 7737577176750698083 st
                    exact W.vret hx hb hr (fun t ht hW => ⟨⟨(), rfl, trivial, ⟨_, _, _, _, ok, mwd_at ht (mwd_eq (by rw [g_M_third, if_pos c_1, if_neg c_34, if_neg c_35, if_neg c_36, if_pos c_37, if_pos c_44, if_neg c_45, if_pos c_46, if_neg c_47]) hw)⟩⟩, hS.F ht⟩) hS.2.2 d_M_third_293
              · refine lv_aload_n hx hb d_M_third_239 rfl (lv_at hl 1 rfl) ?_
                obtain ⟨rg, ft, h1, h2, hP⟩ := id hw
                refine va_get (D := (dC, dI)) (ci := 2) (v := .int d) (C := R_M) (T := F_M) (N := 14) hx hb hT i_M hown hK hP 0 rfl rfl 8 (by decide) (hT _ m_761) (fun _ h9 => h9) rfl d_M_third_240 ?_
                refine lv_if_eq (tgt := 274) hx hb d_M_third_243 (by decide) (fun c_48 => ?_) (fun c_48 => ?_)
                · refine lv_aload_n hx hb d_M_third_274 rfl (lv_at hl 1 rfl) ?_
                  obtain ⟨rg, ft, h1, h2, hP⟩ := id hw
                  refine va_get (D := (dC, dI)) (ci := 2) (v := .int f) (C := R_M) (T := F_M) (N := 14) hx hb hT i_M hown hK hP 0 rfl rfl 11 (by decide) (hT _ m_764) (fun _ h9 => h9) rfl d_M_third_275 ?_
                  refine lv_iconst (v := 4) hx hb d_M_third_278 (by decide) ?_
                  refine lv_icmp_ne (tgt := 293) hx hb d_M_third_279 (by decide) (fun c_49 => ?_) (fun c_49 => ?_)
                  · exact W.vret hx hb hr (fun t ht hW => ⟨⟨(), rfl, trivial, ⟨_, _, _, _, ok, mwd_at ht (mwd_eq (by rw [g_M_third, if_pos c_1, if_neg c_34, if_neg c_35, if_neg c_36, if_pos c_37, if_pos c_44, if_pos c_45, if_pos c_48, if_neg c_49]) hw)⟩⟩, hS.F ht⟩) hS.2.2 d_M_third_293
                  · refine lv_iload_n hx hb d_M_third_282 rfl (lv_at hl 0 rfl) ?_
                    refine lv_if_eq (tgt := 293) hx hb d_M_third_283 (by decide) (fun c_50 => ?_) (fun c_50 => ?_)
                    · exact W.vret hx hb hr (fun t ht hW => ⟨⟨(), rfl, trivial, ⟨_, _, _, _, ok, mwd_at ht (mwd_eq (by rw [g_M_third, if_pos c_1, if_neg c_34, if_neg c_35, if_neg c_36, if_pos c_37, if_pos c_44, if_pos c_45, if_pos c_48, if_pos c_49, if_pos c_50]) hw)⟩⟩, hS.F ht⟩) hS.2.2 d_M_third_293
                    · refine lv_aload_n hx hb d_M_third_286 rfl (lv_at hl 1 rfl) ?_
                      refine lv_ldc2 (v := 7737577176750698083) hx hb hown (hT _ m_1024) d_M_third_287 ?_
                      refine call_M_name S inC m_833 ⟨(Nat.le_of_ble_eq_true rfl), (Nat.le_of_ble_eq_true rfl)⟩ hl.1 (Nat.le_of_ble_eq_true rfl) d_M_third_290 ⟨(Nat.le_of_ble_eq_true rfl), (Nat.le_of_ble_eq_true rfl)⟩ hK ap ok hS hA hw (by omega) (fun H locs hw hS _ => ?_)
                      have hL37 := sName_le 7737577176750698083 st
                      exact W.vret hx hb hr (fun t ht hW => ⟨⟨(), rfl, trivial, ⟨_, _, _, _, ok, mwd_at ht (mwd_eq (by rw [g_M_third, if_pos c_1, if_neg c_34, if_neg c_35, if_neg c_36, if_pos c_37, if_pos c_44, if_pos c_45, if_pos c_48, if_pos c_49, if_neg c_50]) hw)⟩⟩, hS.F ht⟩) hS.2.2 d_M_third_293
                · refine lv_aload_n hx hb d_M_third_246 rfl (lv_at hl 1 rfl) ?_
                  refine lv_iload_n hx hb d_M_third_247 rfl (lv_at hl 0 rfl) ?_
                  refine rg_M_third_248 S inC hT (Nat.le_of_ble_eq_true rfl) (Nat.le_of_ble_eq_true rfl) ⟨(Nat.le_of_ble_eq_true rfl), (Nat.le_of_ble_eq_true rfl)⟩ hK hw hl ?_
                  refine call_M_name S inC m_833 ⟨(Nat.le_of_ble_eq_true rfl), (Nat.le_of_ble_eq_true rfl)⟩ hl.1 (Nat.le_of_ble_eq_true rfl) d_M_third_260 ⟨(Nat.le_of_ble_eq_true rfl), (Nat.le_of_ble_eq_true rfl)⟩ hK ap ok hS hA hw (by omega) (fun H locs hw hS _ => ?_)
                  have hL38 := sName_le (q_M_third_248 bi d a (f_M_part bi 2 5) f (q_M_third_8 bi d a b f)) st
                  refine lv_aload_n hx hb d_M_third_263 rfl (lv_at hl 1 rfl) ?_
                  refine lv_aload_n hx hb d_M_third_264 rfl (lv_at hl 1 rfl) ?_
                  obtain ⟨rg, ft, h1, h2, hP⟩ := id hw
                  refine va_get (D := (dC, dI)) (ci := 2) (v := .int d) (C := R_M) (T := F_M) (N := 14) hx hb hT i_M hown hK hP 0 rfl rfl 8 (by decide) (hT _ m_761) (fun _ h9 => h9) rfl d_M_third_265 ?_
                  refine call_M_register S inC m_846 ⟨(Nat.le_of_ble_eq_true rfl), (Nat.le_of_ble_eq_true rfl)⟩ hl.1 (Nat.le_of_ble_eq_true rfl) d_M_third_268 ⟨(Nat.le_of_ble_eq_true rfl), (Nat.le_of_ble_eq_true rfl)⟩ hK ap ok hS hA hw ok.1 (by omega) (fun H locs hw hS _ => ?_)
                  have hL39 := sReg_le d (sName (q_M_third_248 bi d a (f_M_part bi 2 5) f (q_M_third_8 bi d a b f)) st)
                  refine lv_goto (tgt := 293) hx hb d_M_third_271 (by decide) ?_
                  exact W.vret hx hb hr (fun t ht hW => ⟨⟨(), rfl, trivial, ⟨_, _, _, _, ok, mwd_at ht (mwd_eq (by rw [g_M_third, if_pos c_1, if_neg c_34, if_neg c_35, if_neg c_36, if_pos c_37, if_pos c_44, if_pos c_45, if_neg c_48]) hw)⟩⟩, hS.F ht⟩) hS.2.2 d_M_third_293
            · refine lv_aload_n hx hb d_M_third_195 rfl (lv_at hl 1 rfl) ?_
              refine lv_iload_n hx hb d_M_third_196 rfl (lv_at hl 0 rfl) ?_
              refine rg_M_third_197 S inC hT (Nat.le_of_ble_eq_true rfl) (Nat.le_of_ble_eq_true rfl) ⟨(Nat.le_of_ble_eq_true rfl), (Nat.le_of_ble_eq_true rfl)⟩ hK hw hl ?_
              refine call_M_name S inC m_833 ⟨(Nat.le_of_ble_eq_true rfl), (Nat.le_of_ble_eq_true rfl)⟩ hl.1 (Nat.le_of_ble_eq_true rfl) d_M_third_209 ⟨(Nat.le_of_ble_eq_true rfl), (Nat.le_of_ble_eq_true rfl)⟩ hK ap ok hS hA hw (by omega) (fun H locs hw hS _ => ?_)
              have hL40 := sName_le (q_M_third_197 bi d a (f_M_part bi 2 5) f (q_M_third_8 bi d a b f)) st
              refine lv_aload_n hx hb d_M_third_212 rfl (lv_at hl 1 rfl) ?_
              refine lv_aload_n hx hb d_M_third_213 rfl (lv_at hl 1 rfl) ?_
              obtain ⟨rg, ft, h1, h2, hP⟩ := id hw
              refine va_get (D := (dC, dI)) (ci := 2) (v := .int d) (C := R_M) (T := F_M) (N := 14) hx hb hT i_M hown hK hP 0 rfl rfl 8 (by decide) (hT _ m_761) (fun _ h9 => h9) rfl d_M_third_214 ?_
              refine call_M_register S inC m_846 ⟨(Nat.le_of_ble_eq_true rfl), (Nat.le_of_ble_eq_true rfl)⟩ hl.1 (Nat.le_of_ble_eq_true rfl) d_M_third_217 ⟨(Nat.le_of_ble_eq_true rfl), (Nat.le_of_ble_eq_true rfl)⟩ hK ap ok hS hA hw ok.1 (by omega) (fun H locs hw hS _ => ?_)
              have hL41 := sReg_le d (sName (q_M_third_197 bi d a (f_M_part bi 2 5) f (q_M_third_8 bi d a b f)) st)
              refine lv_aload_n hx hb d_M_third_220 rfl (lv_at hl 1 rfl) ?_
              refine lv_aload_n hx hb d_M_third_221 rfl (lv_at hl 1 rfl) ?_
              obtain ⟨rg, ft, h1, h2, hP⟩ := id hw
              refine va_get (D := (dC, dI)) (ci := 2) (v := .int (f_M_part bi 2 5)) (C := R_M) (T := F_M) (N := 14) hx hb hT i_M hown hK hP 0 rfl rfl 10 (by decide) (hT _ m_763) (fun _ h9 => h9) rfl d_M_third_222 ?_
              refine call_M_register S inC m_846 ⟨(Nat.le_of_ble_eq_true rfl), (Nat.le_of_ble_eq_true rfl)⟩ hl.1 (Nat.le_of_ble_eq_true rfl) d_M_third_225 ⟨(Nat.le_of_ble_eq_true rfl), (Nat.le_of_ble_eq_true rfl)⟩ hK ap ok hS hA hw (p5_in _ _) (by omega) (fun H locs hw hS _ => ?_)
              have hL42 := sReg_le (f_M_part bi 2 5) (sReg d (sName (q_M_third_197 bi d a (f_M_part bi 2 5) f (q_M_third_8 bi d a b f)) st))
              refine lv_goto (tgt := 293) hx hb d_M_third_228 (by decide) ?_
              exact W.vret hx hb hr (fun t ht hW => ⟨⟨(), rfl, trivial, ⟨_, _, _, _, ok, mwd_at ht (mwd_eq (by rw [g_M_third, if_pos c_1, if_neg c_34, if_neg c_35, if_neg c_36, if_pos c_37, if_neg c_44]) hw)⟩⟩, hS.F ht⟩) hS.2.2 d_M_third_293
        · refine lv_aload_n hx hb d_M_third_138 rfl (lv_at hl 1 rfl) ?_
          refine lv_ldc2 (v := 123641227587171) hx hb hown (hT _ m_1019) d_M_third_139 ?_
          refine call_M_name S inC m_833 ⟨(Nat.le_of_ble_eq_true rfl), (Nat.le_of_ble_eq_true rfl)⟩ hl.1 (Nat.le_of_ble_eq_true rfl) d_M_third_142 ⟨(Nat.le_of_ble_eq_true rfl), (Nat.le_of_ble_eq_true rfl)⟩ hK ap ok hS hA hw (by omega) (fun H locs hw hS _ => ?_)
          have hL43 := sName_le 123641227587171 st
          refine lv_aload_n hx hb d_M_third_145 rfl (lv_at hl 1 rfl) ?_
          refine lv_aload_n hx hb d_M_third_146 rfl (lv_at hl 1 rfl) ?_
          obtain ⟨rg, ft, h1, h2, hP⟩ := id hw
          refine va_get (D := (dC, dI)) (ci := 2) (v := .int (f_M_part bi 2 5)) (C := R_M) (T := F_M) (N := 14) hx hb hT i_M hown hK hP 0 rfl rfl 10 (by decide) (hT _ m_763) (fun _ h9 => h9) rfl d_M_third_147 ?_
          refine call_M_register S inC m_846 ⟨(Nat.le_of_ble_eq_true rfl), (Nat.le_of_ble_eq_true rfl)⟩ hl.1 (Nat.le_of_ble_eq_true rfl) d_M_third_150 ⟨(Nat.le_of_ble_eq_true rfl), (Nat.le_of_ble_eq_true rfl)⟩ hK ap ok hS hA hw (p5_in _ _) (by omega) (fun H locs hw hS _ => ?_)
          have hL44 := sReg_le (f_M_part bi 2 5) (sName 123641227587171 st)
          refine lv_aload_n hx hb d_M_third_153 rfl (lv_at hl 1 rfl) ?_
          refine lv_aload_n hx hb d_M_third_154 rfl (lv_at hl 1 rfl) ?_
          refine lv_bipush (v := 9) hx hb d_M_third_155 (by decide) ?_
          refine lv_iconst (v := 4) hx hb d_M_third_157 (by decide) ?_
          refine call_M_part S inC m_809 ⟨(Nat.le_of_ble_eq_true rfl), (Nat.le_of_ble_eq_true rfl)⟩ hl.1 (Nat.le_of_ble_eq_true rfl) d_M_third_158 ⟨(Nat.le_of_ble_eq_true rfl), (Nat.le_of_ble_eq_true rfl)⟩ hK hw ?_
          refine lv_iconst (v := 2) hx hb d_M_third_161 (by decide) ?_
          refine lv_ishl hx hb d_M_third_162 ?_
          refine lv_aload_n hx hb d_M_third_163 rfl (lv_at hl 1 rfl) ?_
          refine lv_bipush (v := 7) hx hb d_M_third_164 (by decide) ?_
          refine lv_iconst (v := 2) hx hb d_M_third_166 (by decide) ?_
          refine call_M_part S inC m_809 ⟨(Nat.le_of_ble_eq_true rfl), (Nat.le_of_ble_eq_true rfl)⟩ hl.1 (Nat.le_of_ble_eq_true rfl) d_M_third_167 ⟨(Nat.le_of_ble_eq_true rfl), (Nat.le_of_ble_eq_true rfl)⟩ hK hw ?_
          refine lv_bipush (v := 6) hx hb d_M_third_170 (by decide) ?_
          refine lv_ishl hx hb d_M_third_172 ?_
          refine lv_ior hx hb d_M_third_173 ?_
          refine call_M_immediate S inC m_877 ⟨(Nat.le_of_ble_eq_true rfl), (Nat.le_of_ble_eq_true rfl)⟩ hl.1 (Nat.le_of_ble_eq_true rfl) d_M_third_174 ⟨(Nat.le_of_ble_eq_true rfl), (Nat.le_of_ble_eq_true rfl)⟩ hK ap ok hS hA hw (by omega) (fun H locs hw hS _ => ?_)
          have hL45 := gl_M_immediate bi d a (f_M_part bi 2 5) f (((f_M_part bi 9 4) <<< ((2 : Int32) &&& 31)) ||| ((f_M_part bi 7 2) <<< ((6 : Int32) &&& 31))) (sReg (f_M_part bi 2 5) (sName 123641227587171 st))
          refine lv_goto (tgt := 293) hx hb d_M_third_177 (by decide) ?_
          exact W.vret hx hb hr (fun t ht hW => ⟨⟨(), rfl, trivial, ⟨_, _, _, _, ok, mwd_at ht (mwd_eq (by rw [g_M_third, if_pos c_1, if_neg c_34, if_neg c_35, if_pos c_36]) hw)⟩⟩, hS.F ht⟩) hS.2.2 d_M_third_293
      · refine lv_aload_n hx hb d_M_third_72 rfl (lv_at hl 1 rfl) ?_
        obtain ⟨rg, ft, h1, h2, hP⟩ := id hw
        refine va_get (D := (dC, dI)) (ci := 2) (v := .int d) (C := R_M) (T := F_M) (N := 14) hx hb hT i_M hown hK hP 0 rfl rfl 8 (by decide) (hT _ m_761) (fun _ h9 => h9) rfl d_M_third_73 ?_
        refine lv_if_eq (tgt := 129) hx hb d_M_third_76 (by decide) (fun c_51 => ?_) (fun c_51 => ?_)
        · refine lv_aload_n hx hb d_M_third_129 rfl (lv_at hl 1 rfl) ?_
          obtain ⟨rg, ft, h1, h2, hP⟩ := id hw
          refine va_get (D := (dC, dI)) (ci := 2) (v := .int f) (C := R_M) (T := F_M) (N := 14) hx hb hT i_M hown hK hP 0 rfl rfl 11 (by decide) (hT _ m_764) (fun _ h9 => h9) rfl d_M_third_130 ?_
          refine lv_bipush (v := 6) hx hb d_M_third_133 (by decide) ?_
          refine lv_icmp_ne (tgt := 180) hx hb d_M_third_135 (by decide) (fun c_52 => ?_) (fun c_52 => ?_)
          · refine lv_aload_n hx hb d_M_third_180 rfl (lv_at hl 1 rfl) ?_
            obtain ⟨rg, ft, h1, h2, hP⟩ := id hw
            refine va_get (D := (dC, dI)) (ci := 2) (v := .int f) (C := R_M) (T := F_M) (N := 14) hx hb hT i_M hown hK hP 0 rfl rfl 11 (by decide) (hT _ m_764) (fun _ h9 => h9) rfl d_M_third_181 ?_
            refine lv_iconst (v := 4) hx hb d_M_third_184 (by decide) ?_
            refine lv_icmp_ne (tgt := 231) hx hb d_M_third_185 (by decide) (fun c_53 => ?_) (fun c_53 => ?_)
            · refine lv_aload_n hx hb d_M_third_231 rfl (lv_at hl 1 rfl) ?_
              obtain ⟨rg, ft, h1, h2, hP⟩ := id hw
              refine va_get (D := (dC, dI)) (ci := 2) (v := .int f) (C := R_M) (T := F_M) (N := 14) hx hb hT i_M hown hK hP 0 rfl rfl 11 (by decide) (hT _ m_764) (fun _ h9 => h9) rfl d_M_third_232 ?_
              refine lv_iconst (v := 4) hx hb d_M_third_235 (by decide) ?_
              refine lv_icmp_ne (tgt := 274) hx hb d_M_third_236 (by decide) (fun c_54 => ?_) (fun c_54 => ?_)
              · refine lv_aload_n hx hb d_M_third_274 rfl (lv_at hl 1 rfl) ?_
                obtain ⟨rg, ft, h1, h2, hP⟩ := id hw
                refine va_get (D := (dC, dI)) (ci := 2) (v := .int f) (C := R_M) (T := F_M) (N := 14) hx hb hT i_M hown hK hP 0 rfl rfl 11 (by decide) (hT _ m_764) (fun _ h9 => h9) rfl d_M_third_275 ?_
                refine lv_iconst (v := 4) hx hb d_M_third_278 (by decide) ?_
                refine lv_icmp_ne (tgt := 293) hx hb d_M_third_279 (by decide) (fun c_55 => ?_) (fun c_55 => ?_)
                · exact W.vret hx hb hr (fun t ht hW => ⟨⟨(), rfl, trivial, ⟨_, _, _, _, ok, mwd_at ht (mwd_eq (by rw [g_M_third, if_pos c_1, if_neg c_34, if_pos c_35, if_pos c_51, if_neg c_52, if_neg c_53, if_neg c_54, if_neg c_55]) hw)⟩⟩, hS.F ht⟩) hS.2.2 d_M_third_293
                · refine lv_iload_n hx hb d_M_third_282 rfl (lv_at hl 0 rfl) ?_
                  refine lv_if_eq (tgt := 293) hx hb d_M_third_283 (by decide) (fun c_56 => ?_) (fun c_56 => ?_)
                  · exact W.vret hx hb hr (fun t ht hW => ⟨⟨(), rfl, trivial, ⟨_, _, _, _, ok, mwd_at ht (mwd_eq (by rw [g_M_third, if_pos c_1, if_neg c_34, if_pos c_35, if_pos c_51, if_neg c_52, if_neg c_53, if_neg c_54, if_pos c_55, if_pos c_56]) hw)⟩⟩, hS.F ht⟩) hS.2.2 d_M_third_293
                  · refine lv_aload_n hx hb d_M_third_286 rfl (lv_at hl 1 rfl) ?_
                    refine lv_ldc2 (v := 7737577176750698083) hx hb hown (hT _ m_1024) d_M_third_287 ?_
                    refine call_M_name S inC m_833 ⟨(Nat.le_of_ble_eq_true rfl), (Nat.le_of_ble_eq_true rfl)⟩ hl.1 (Nat.le_of_ble_eq_true rfl) d_M_third_290 ⟨(Nat.le_of_ble_eq_true rfl), (Nat.le_of_ble_eq_true rfl)⟩ hK ap ok hS hA hw (by omega) (fun H locs hw hS _ => ?_)
                    have hL46 := sName_le 7737577176750698083 st
                    exact W.vret hx hb hr (fun t ht hW => ⟨⟨(), rfl, trivial, ⟨_, _, _, _, ok, mwd_at ht (mwd_eq (by rw [g_M_third, if_pos c_1, if_neg c_34, if_pos c_35, if_pos c_51, if_neg c_52, if_neg c_53, if_neg c_54, if_pos c_55, if_neg c_56]) hw)⟩⟩, hS.F ht⟩) hS.2.2 d_M_third_293
              · refine lv_aload_n hx hb d_M_third_239 rfl (lv_at hl 1 rfl) ?_
                obtain ⟨rg, ft, h1, h2, hP⟩ := id hw
                refine va_get (D := (dC, dI)) (ci := 2) (v := .int d) (C := R_M) (T := F_M) (N := 14) hx hb hT i_M hown hK hP 0 rfl rfl 8 (by decide) (hT _ m_761) (fun _ h9 => h9) rfl d_M_third_240 ?_
                refine lv_if_eq (tgt := 274) hx hb d_M_third_243 (by decide) (fun c_57 => ?_) (fun c_57 => ?_)
                · refine lv_aload_n hx hb d_M_third_274 rfl (lv_at hl 1 rfl) ?_
                  obtain ⟨rg, ft, h1, h2, hP⟩ := id hw
                  refine va_get (D := (dC, dI)) (ci := 2) (v := .int f) (C := R_M) (T := F_M) (N := 14) hx hb hT i_M hown hK hP 0 rfl rfl 11 (by decide) (hT _ m_764) (fun _ h9 => h9) rfl d_M_third_275 ?_
                  refine lv_iconst (v := 4) hx hb d_M_third_278 (by decide) ?_
                  refine lv_icmp_ne (tgt := 293) hx hb d_M_third_279 (by decide) (fun c_58 => ?_) (fun c_58 => ?_)
                  · exact W.vret hx hb hr (fun t ht hW => ⟨⟨(), rfl, trivial, ⟨_, _, _, _, ok, mwd_at ht (mwd_eq (by rw [g_M_third, if_pos c_1, if_neg c_34, if_pos c_35, if_pos c_51, if_neg c_52, if_neg c_53, if_pos c_54, if_pos c_57, if_neg c_58]) hw)⟩⟩, hS.F ht⟩) hS.2.2 d_M_third_293
                  · refine lv_iload_n hx hb d_M_third_282 rfl (lv_at hl 0 rfl) ?_
                    refine lv_if_eq (tgt := 293) hx hb d_M_third_283 (by decide) (fun c_59 => ?_) (fun c_59 => ?_)
                    · exact W.vret hx hb hr (fun t ht hW => ⟨⟨(), rfl, trivial, ⟨_, _, _, _, ok, mwd_at ht (mwd_eq (by rw [g_M_third, if_pos c_1, if_neg c_34, if_pos c_35, if_pos c_51, if_neg c_52, if_neg c_53, if_pos c_54, if_pos c_57, if_pos c_58, if_pos c_59]) hw)⟩⟩, hS.F ht⟩) hS.2.2 d_M_third_293
                    · refine lv_aload_n hx hb d_M_third_286 rfl (lv_at hl 1 rfl) ?_
                      refine lv_ldc2 (v := 7737577176750698083) hx hb hown (hT _ m_1024) d_M_third_287 ?_
                      refine call_M_name S inC m_833 ⟨(Nat.le_of_ble_eq_true rfl), (Nat.le_of_ble_eq_true rfl)⟩ hl.1 (Nat.le_of_ble_eq_true rfl) d_M_third_290 ⟨(Nat.le_of_ble_eq_true rfl), (Nat.le_of_ble_eq_true rfl)⟩ hK ap ok hS hA hw (by omega) (fun H locs hw hS _ => ?_)
                      have hL47 := sName_le 7737577176750698083 st
                      exact W.vret hx hb hr (fun t ht hW => ⟨⟨(), rfl, trivial, ⟨_, _, _, _, ok, mwd_at ht (mwd_eq (by rw [g_M_third, if_pos c_1, if_neg c_34, if_pos c_35, if_pos c_51, if_neg c_52, if_neg c_53, if_pos c_54, if_pos c_57, if_pos c_58, if_neg c_59]) hw)⟩⟩, hS.F ht⟩) hS.2.2 d_M_third_293
                · refine lv_aload_n hx hb d_M_third_246 rfl (lv_at hl 1 rfl) ?_
                  refine lv_iload_n hx hb d_M_third_247 rfl (lv_at hl 0 rfl) ?_
                  refine rg_M_third_248 S inC hT (Nat.le_of_ble_eq_true rfl) (Nat.le_of_ble_eq_true rfl) ⟨(Nat.le_of_ble_eq_true rfl), (Nat.le_of_ble_eq_true rfl)⟩ hK hw hl ?_
                  refine call_M_name S inC m_833 ⟨(Nat.le_of_ble_eq_true rfl), (Nat.le_of_ble_eq_true rfl)⟩ hl.1 (Nat.le_of_ble_eq_true rfl) d_M_third_260 ⟨(Nat.le_of_ble_eq_true rfl), (Nat.le_of_ble_eq_true rfl)⟩ hK ap ok hS hA hw (by omega) (fun H locs hw hS _ => ?_)
                  have hL48 := sName_le (q_M_third_248 bi d a (f_M_part bi 2 5) f (q_M_third_8 bi d a b f)) st
                  refine lv_aload_n hx hb d_M_third_263 rfl (lv_at hl 1 rfl) ?_
                  refine lv_aload_n hx hb d_M_third_264 rfl (lv_at hl 1 rfl) ?_
                  obtain ⟨rg, ft, h1, h2, hP⟩ := id hw
                  refine va_get (D := (dC, dI)) (ci := 2) (v := .int d) (C := R_M) (T := F_M) (N := 14) hx hb hT i_M hown hK hP 0 rfl rfl 8 (by decide) (hT _ m_761) (fun _ h9 => h9) rfl d_M_third_265 ?_
                  refine call_M_register S inC m_846 ⟨(Nat.le_of_ble_eq_true rfl), (Nat.le_of_ble_eq_true rfl)⟩ hl.1 (Nat.le_of_ble_eq_true rfl) d_M_third_268 ⟨(Nat.le_of_ble_eq_true rfl), (Nat.le_of_ble_eq_true rfl)⟩ hK ap ok hS hA hw ok.1 (by omega) (fun H locs hw hS _ => ?_)
                  have hL49 := sReg_le d (sName (q_M_third_248 bi d a (f_M_part bi 2 5) f (q_M_third_8 bi d a b f)) st)
                  refine lv_goto (tgt := 293) hx hb d_M_third_271 (by decide) ?_
                  exact W.vret hx hb hr (fun t ht hW => ⟨⟨(), rfl, trivial, ⟨_, _, _, _, ok, mwd_at ht (mwd_eq (by rw [g_M_third, if_pos c_1, if_neg c_34, if_pos c_35, if_pos c_51, if_neg c_52, if_neg c_53, if_pos c_54, if_neg c_57]) hw)⟩⟩, hS.F ht⟩) hS.2.2 d_M_third_293
            · refine lv_aload_n hx hb d_M_third_188 rfl (lv_at hl 1 rfl) ?_
              obtain ⟨rg, ft, h1, h2, hP⟩ := id hw
              refine va_get (D := (dC, dI)) (ci := 2) (v := .int (f_M_part bi 2 5)) (C := R_M) (T := F_M) (N := 14) hx hb hT i_M hown hK hP 0 rfl rfl 10 (by decide) (hT _ m_763) (fun _ h9 => h9) rfl d_M_third_189 ?_
              refine lv_if_eq (tgt := 231) hx hb d_M_third_192 (by decide) (fun c_60 => ?_) (fun c_60 => ?_)
              · refine lv_aload_n hx hb d_M_third_231 rfl (lv_at hl 1 rfl) ?_
                obtain ⟨rg, ft, h1, h2, hP⟩ := id hw
                refine va_get (D := (dC, dI)) (ci := 2) (v := .int f) (C := R_M) (T := F_M) (N := 14) hx hb hT i_M hown hK hP 0 rfl rfl 11 (by decide) (hT _ m_764) (fun _ h9 => h9) rfl d_M_third_232 ?_
                refine lv_iconst (v := 4) hx hb d_M_third_235 (by decide) ?_
                refine lv_icmp_ne (tgt := 274) hx hb d_M_third_236 (by decide) (fun c_61 => ?_) (fun c_61 => ?_)
                · refine lv_aload_n hx hb d_M_third_274 rfl (lv_at hl 1 rfl) ?_
                  obtain ⟨rg, ft, h1, h2, hP⟩ := id hw
                  refine va_get (D := (dC, dI)) (ci := 2) (v := .int f) (C := R_M) (T := F_M) (N := 14) hx hb hT i_M hown hK hP 0 rfl rfl 11 (by decide) (hT _ m_764) (fun _ h9 => h9) rfl d_M_third_275 ?_
                  refine lv_iconst (v := 4) hx hb d_M_third_278 (by decide) ?_
                  refine lv_icmp_ne (tgt := 293) hx hb d_M_third_279 (by decide) (fun c_62 => ?_) (fun c_62 => ?_)
                  · exact W.vret hx hb hr (fun t ht hW => ⟨⟨(), rfl, trivial, ⟨_, _, _, _, ok, mwd_at ht (mwd_eq (by rw [g_M_third, if_pos c_1, if_neg c_34, if_pos c_35, if_pos c_51, if_neg c_52, if_pos c_53, if_pos c_60, if_neg c_61, if_neg c_62]) hw)⟩⟩, hS.F ht⟩) hS.2.2 d_M_third_293
                  · refine lv_iload_n hx hb d_M_third_282 rfl (lv_at hl 0 rfl) ?_
                    refine lv_if_eq (tgt := 293) hx hb d_M_third_283 (by decide) (fun c_63 => ?_) (fun c_63 => ?_)
                    · exact W.vret hx hb hr (fun t ht hW => ⟨⟨(), rfl, trivial, ⟨_, _, _, _, ok, mwd_at ht (mwd_eq (by rw [g_M_third, if_pos c_1, if_neg c_34, if_pos c_35, if_pos c_51, if_neg c_52, if_pos c_53, if_pos c_60, if_neg c_61, if_pos c_62, if_pos c_63]) hw)⟩⟩, hS.F ht⟩) hS.2.2 d_M_third_293
                    · refine lv_aload_n hx hb d_M_third_286 rfl (lv_at hl 1 rfl) ?_
                      refine lv_ldc2 (v := 7737577176750698083) hx hb hown (hT _ m_1024) d_M_third_287 ?_
                      refine call_M_name S inC m_833 ⟨(Nat.le_of_ble_eq_true rfl), (Nat.le_of_ble_eq_true rfl)⟩ hl.1 (Nat.le_of_ble_eq_true rfl) d_M_third_290 ⟨(Nat.le_of_ble_eq_true rfl), (Nat.le_of_ble_eq_true rfl)⟩ hK ap ok hS hA hw (by omega) (fun H locs hw hS _ => ?_)
                      have hL50 := sName_le 7737577176750698083 st
                      exact W.vret hx hb hr (fun t ht hW => ⟨⟨(), rfl, trivial, ⟨_, _, _, _, ok, mwd_at ht (mwd_eq (by rw [g_M_third, if_pos c_1, if_neg c_34, if_pos c_35, if_pos c_51, if_neg c_52, if_pos c_53, if_pos c_60, if_neg c_61, if_pos c_62, if_neg c_63]) hw)⟩⟩, hS.F ht⟩) hS.2.2 d_M_third_293
                · refine lv_aload_n hx hb d_M_third_239 rfl (lv_at hl 1 rfl) ?_
                  obtain ⟨rg, ft, h1, h2, hP⟩ := id hw
                  refine va_get (D := (dC, dI)) (ci := 2) (v := .int d) (C := R_M) (T := F_M) (N := 14) hx hb hT i_M hown hK hP 0 rfl rfl 8 (by decide) (hT _ m_761) (fun _ h9 => h9) rfl d_M_third_240 ?_
                  refine lv_if_eq (tgt := 274) hx hb d_M_third_243 (by decide) (fun c_64 => ?_) (fun c_64 => ?_)
                  · refine lv_aload_n hx hb d_M_third_274 rfl (lv_at hl 1 rfl) ?_
                    obtain ⟨rg, ft, h1, h2, hP⟩ := id hw
                    refine va_get (D := (dC, dI)) (ci := 2) (v := .int f) (C := R_M) (T := F_M) (N := 14) hx hb hT i_M hown hK hP 0 rfl rfl 11 (by decide) (hT _ m_764) (fun _ h9 => h9) rfl d_M_third_275 ?_
                    refine lv_iconst (v := 4) hx hb d_M_third_278 (by decide) ?_
                    refine lv_icmp_ne (tgt := 293) hx hb d_M_third_279 (by decide) (fun c_65 => ?_) (fun c_65 => ?_)
                    · exact W.vret hx hb hr (fun t ht hW => ⟨⟨(), rfl, trivial, ⟨_, _, _, _, ok, mwd_at ht (mwd_eq (by rw [g_M_third, if_pos c_1, if_neg c_34, if_pos c_35, if_pos c_51, if_neg c_52, if_pos c_53, if_pos c_60, if_pos c_61, if_pos c_64, if_neg c_65]) hw)⟩⟩, hS.F ht⟩) hS.2.2 d_M_third_293
                    · refine lv_iload_n hx hb d_M_third_282 rfl (lv_at hl 0 rfl) ?_
                      refine lv_if_eq (tgt := 293) hx hb d_M_third_283 (by decide) (fun c_66 => ?_) (fun c_66 => ?_)
                      · exact W.vret hx hb hr (fun t ht hW => ⟨⟨(), rfl, trivial, ⟨_, _, _, _, ok, mwd_at ht (mwd_eq (by rw [g_M_third, if_pos c_1, if_neg c_34, if_pos c_35, if_pos c_51, if_neg c_52, if_pos c_53, if_pos c_60, if_pos c_61, if_pos c_64, if_pos c_65, if_pos c_66]) hw)⟩⟩, hS.F ht⟩) hS.2.2 d_M_third_293
                      · refine lv_aload_n hx hb d_M_third_286 rfl (lv_at hl 1 rfl) ?_
                        refine lv_ldc2 (v := 7737577176750698083) hx hb hown (hT _ m_1024) d_M_third_287 ?_
                        refine call_M_name S inC m_833 ⟨(Nat.le_of_ble_eq_true rfl), (Nat.le_of_ble_eq_true rfl)⟩ hl.1 (Nat.le_of_ble_eq_true rfl) d_M_third_290 ⟨(Nat.le_of_ble_eq_true rfl), (Nat.le_of_ble_eq_true rfl)⟩ hK ap ok hS hA hw (by omega) (fun H locs hw hS _ => ?_)
                        have hL51 := sName_le 7737577176750698083 st
                        exact W.vret hx hb hr (fun t ht hW => ⟨⟨(), rfl, trivial, ⟨_, _, _, _, ok, mwd_at ht (mwd_eq (by rw [g_M_third, if_pos c_1, if_neg c_34, if_pos c_35, if_pos c_51, if_neg c_52, if_pos c_53, if_pos c_60, if_pos c_61, if_pos c_64, if_pos c_65, if_neg c_66]) hw)⟩⟩, hS.F ht⟩) hS.2.2 d_M_third_293
                  · refine lv_aload_n hx hb d_M_third_246 rfl (lv_at hl 1 rfl) ?_
                    refine lv_iload_n hx hb d_M_third_247 rfl (lv_at hl 0 rfl) ?_
                    refine rg_M_third_248 S inC hT (Nat.le_of_ble_eq_true rfl) (Nat.le_of_ble_eq_true rfl) ⟨(Nat.le_of_ble_eq_true rfl), (Nat.le_of_ble_eq_true rfl)⟩ hK hw hl ?_
                    refine call_M_name S inC m_833 ⟨(Nat.le_of_ble_eq_true rfl), (Nat.le_of_ble_eq_true rfl)⟩ hl.1 (Nat.le_of_ble_eq_true rfl) d_M_third_260 ⟨(Nat.le_of_ble_eq_true rfl), (Nat.le_of_ble_eq_true rfl)⟩ hK ap ok hS hA hw (by omega) (fun H locs hw hS _ => ?_)
                    have hL52 := sName_le (q_M_third_248 bi d a (f_M_part bi 2 5) f (q_M_third_8 bi d a b f)) st
                    refine lv_aload_n hx hb d_M_third_263 rfl (lv_at hl 1 rfl) ?_
                    refine lv_aload_n hx hb d_M_third_264 rfl (lv_at hl 1 rfl) ?_
                    obtain ⟨rg, ft, h1, h2, hP⟩ := id hw
                    refine va_get (D := (dC, dI)) (ci := 2) (v := .int d) (C := R_M) (T := F_M) (N := 14) hx hb hT i_M hown hK hP 0 rfl rfl 8 (by decide) (hT _ m_761) (fun _ h9 => h9) rfl d_M_third_265 ?_
                    refine call_M_register S inC m_846 ⟨(Nat.le_of_ble_eq_true rfl), (Nat.le_of_ble_eq_true rfl)⟩ hl.1 (Nat.le_of_ble_eq_true rfl) d_M_third_268 ⟨(Nat.le_of_ble_eq_true rfl), (Nat.le_of_ble_eq_true rfl)⟩ hK ap ok hS hA hw ok.1 (by omega) (fun H locs hw hS _ => ?_)
                    have hL53 := sReg_le d (sName (q_M_third_248 bi d a (f_M_part bi 2 5) f (q_M_third_8 bi d a b f)) st)
                    refine lv_goto (tgt := 293) hx hb d_M_third_271 (by decide) ?_
                    exact W.vret hx hb hr (fun t ht hW => ⟨⟨(), rfl, trivial, ⟨_, _, _, _, ok, mwd_at ht (mwd_eq (by rw [g_M_third, if_pos c_1, if_neg c_34, if_pos c_35, if_pos c_51, if_neg c_52, if_pos c_53, if_pos c_60, if_pos c_61, if_neg c_64]) hw)⟩⟩, hS.F ht⟩) hS.2.2 d_M_third_293
              · refine lv_aload_n hx hb d_M_third_195 rfl (lv_at hl 1 rfl) ?_
                refine lv_iload_n hx hb d_M_third_196 rfl (lv_at hl 0 rfl) ?_
                refine rg_M_third_197 S inC hT (Nat.le_of_ble_eq_true rfl) (Nat.le_of_ble_eq_true rfl) ⟨(Nat.le_of_ble_eq_true rfl), (Nat.le_of_ble_eq_true rfl)⟩ hK hw hl ?_
                refine call_M_name S inC m_833 ⟨(Nat.le_of_ble_eq_true rfl), (Nat.le_of_ble_eq_true rfl)⟩ hl.1 (Nat.le_of_ble_eq_true rfl) d_M_third_209 ⟨(Nat.le_of_ble_eq_true rfl), (Nat.le_of_ble_eq_true rfl)⟩ hK ap ok hS hA hw (by omega) (fun H locs hw hS _ => ?_)
                have hL54 := sName_le (q_M_third_197 bi d a (f_M_part bi 2 5) f (q_M_third_8 bi d a b f)) st
                refine lv_aload_n hx hb d_M_third_212 rfl (lv_at hl 1 rfl) ?_
                refine lv_aload_n hx hb d_M_third_213 rfl (lv_at hl 1 rfl) ?_
                obtain ⟨rg, ft, h1, h2, hP⟩ := id hw
                refine va_get (D := (dC, dI)) (ci := 2) (v := .int d) (C := R_M) (T := F_M) (N := 14) hx hb hT i_M hown hK hP 0 rfl rfl 8 (by decide) (hT _ m_761) (fun _ h9 => h9) rfl d_M_third_214 ?_
                refine call_M_register S inC m_846 ⟨(Nat.le_of_ble_eq_true rfl), (Nat.le_of_ble_eq_true rfl)⟩ hl.1 (Nat.le_of_ble_eq_true rfl) d_M_third_217 ⟨(Nat.le_of_ble_eq_true rfl), (Nat.le_of_ble_eq_true rfl)⟩ hK ap ok hS hA hw ok.1 (by omega) (fun H locs hw hS _ => ?_)
                have hL55 := sReg_le d (sName (q_M_third_197 bi d a (f_M_part bi 2 5) f (q_M_third_8 bi d a b f)) st)
                refine lv_aload_n hx hb d_M_third_220 rfl (lv_at hl 1 rfl) ?_
                refine lv_aload_n hx hb d_M_third_221 rfl (lv_at hl 1 rfl) ?_
                obtain ⟨rg, ft, h1, h2, hP⟩ := id hw
                refine va_get (D := (dC, dI)) (ci := 2) (v := .int (f_M_part bi 2 5)) (C := R_M) (T := F_M) (N := 14) hx hb hT i_M hown hK hP 0 rfl rfl 10 (by decide) (hT _ m_763) (fun _ h9 => h9) rfl d_M_third_222 ?_
                refine call_M_register S inC m_846 ⟨(Nat.le_of_ble_eq_true rfl), (Nat.le_of_ble_eq_true rfl)⟩ hl.1 (Nat.le_of_ble_eq_true rfl) d_M_third_225 ⟨(Nat.le_of_ble_eq_true rfl), (Nat.le_of_ble_eq_true rfl)⟩ hK ap ok hS hA hw (p5_in _ _) (by omega) (fun H locs hw hS _ => ?_)
                have hL56 := sReg_le (f_M_part bi 2 5) (sReg d (sName (q_M_third_197 bi d a (f_M_part bi 2 5) f (q_M_third_8 bi d a b f)) st))
                refine lv_goto (tgt := 293) hx hb d_M_third_228 (by decide) ?_
                exact W.vret hx hb hr (fun t ht hW => ⟨⟨(), rfl, trivial, ⟨_, _, _, _, ok, mwd_at ht (mwd_eq (by rw [g_M_third, if_pos c_1, if_neg c_34, if_pos c_35, if_pos c_51, if_neg c_52, if_pos c_53, if_neg c_60]) hw)⟩⟩, hS.F ht⟩) hS.2.2 d_M_third_293
          · refine lv_aload_n hx hb d_M_third_138 rfl (lv_at hl 1 rfl) ?_
            refine lv_ldc2 (v := 123641227587171) hx hb hown (hT _ m_1019) d_M_third_139 ?_
            refine call_M_name S inC m_833 ⟨(Nat.le_of_ble_eq_true rfl), (Nat.le_of_ble_eq_true rfl)⟩ hl.1 (Nat.le_of_ble_eq_true rfl) d_M_third_142 ⟨(Nat.le_of_ble_eq_true rfl), (Nat.le_of_ble_eq_true rfl)⟩ hK ap ok hS hA hw (by omega) (fun H locs hw hS _ => ?_)
            have hL57 := sName_le 123641227587171 st
            refine lv_aload_n hx hb d_M_third_145 rfl (lv_at hl 1 rfl) ?_
            refine lv_aload_n hx hb d_M_third_146 rfl (lv_at hl 1 rfl) ?_
            obtain ⟨rg, ft, h1, h2, hP⟩ := id hw
            refine va_get (D := (dC, dI)) (ci := 2) (v := .int (f_M_part bi 2 5)) (C := R_M) (T := F_M) (N := 14) hx hb hT i_M hown hK hP 0 rfl rfl 10 (by decide) (hT _ m_763) (fun _ h9 => h9) rfl d_M_third_147 ?_
            refine call_M_register S inC m_846 ⟨(Nat.le_of_ble_eq_true rfl), (Nat.le_of_ble_eq_true rfl)⟩ hl.1 (Nat.le_of_ble_eq_true rfl) d_M_third_150 ⟨(Nat.le_of_ble_eq_true rfl), (Nat.le_of_ble_eq_true rfl)⟩ hK ap ok hS hA hw (p5_in _ _) (by omega) (fun H locs hw hS _ => ?_)
            have hL58 := sReg_le (f_M_part bi 2 5) (sName 123641227587171 st)
            refine lv_aload_n hx hb d_M_third_153 rfl (lv_at hl 1 rfl) ?_
            refine lv_aload_n hx hb d_M_third_154 rfl (lv_at hl 1 rfl) ?_
            refine lv_bipush (v := 9) hx hb d_M_third_155 (by decide) ?_
            refine lv_iconst (v := 4) hx hb d_M_third_157 (by decide) ?_
            refine call_M_part S inC m_809 ⟨(Nat.le_of_ble_eq_true rfl), (Nat.le_of_ble_eq_true rfl)⟩ hl.1 (Nat.le_of_ble_eq_true rfl) d_M_third_158 ⟨(Nat.le_of_ble_eq_true rfl), (Nat.le_of_ble_eq_true rfl)⟩ hK hw ?_
            refine lv_iconst (v := 2) hx hb d_M_third_161 (by decide) ?_
            refine lv_ishl hx hb d_M_third_162 ?_
            refine lv_aload_n hx hb d_M_third_163 rfl (lv_at hl 1 rfl) ?_
            refine lv_bipush (v := 7) hx hb d_M_third_164 (by decide) ?_
            refine lv_iconst (v := 2) hx hb d_M_third_166 (by decide) ?_
            refine call_M_part S inC m_809 ⟨(Nat.le_of_ble_eq_true rfl), (Nat.le_of_ble_eq_true rfl)⟩ hl.1 (Nat.le_of_ble_eq_true rfl) d_M_third_167 ⟨(Nat.le_of_ble_eq_true rfl), (Nat.le_of_ble_eq_true rfl)⟩ hK hw ?_
            refine lv_bipush (v := 6) hx hb d_M_third_170 (by decide) ?_
            refine lv_ishl hx hb d_M_third_172 ?_
            refine lv_ior hx hb d_M_third_173 ?_
            refine call_M_immediate S inC m_877 ⟨(Nat.le_of_ble_eq_true rfl), (Nat.le_of_ble_eq_true rfl)⟩ hl.1 (Nat.le_of_ble_eq_true rfl) d_M_third_174 ⟨(Nat.le_of_ble_eq_true rfl), (Nat.le_of_ble_eq_true rfl)⟩ hK ap ok hS hA hw (by omega) (fun H locs hw hS _ => ?_)
            have hL59 := gl_M_immediate bi d a (f_M_part bi 2 5) f (((f_M_part bi 9 4) <<< ((2 : Int32) &&& 31)) ||| ((f_M_part bi 7 2) <<< ((6 : Int32) &&& 31))) (sReg (f_M_part bi 2 5) (sName 123641227587171 st))
            refine lv_goto (tgt := 293) hx hb d_M_third_177 (by decide) ?_
            exact W.vret hx hb hr (fun t ht hW => ⟨⟨(), rfl, trivial, ⟨_, _, _, _, ok, mwd_at ht (mwd_eq (by rw [g_M_third, if_pos c_1, if_neg c_34, if_pos c_35, if_pos c_51, if_pos c_52]) hw)⟩⟩, hS.F ht⟩) hS.2.2 d_M_third_293
        · refine lv_aload_n hx hb d_M_third_79 rfl (lv_at hl 1 rfl) ?_
          refine lv_ldc2 (v := 123641227128419) hx hb hown (hT _ m_1018) d_M_third_80 ?_
          refine call_M_name S inC m_833 ⟨(Nat.le_of_ble_eq_true rfl), (Nat.le_of_ble_eq_true rfl)⟩ hl.1 (Nat.le_of_ble_eq_true rfl) d_M_third_83 ⟨(Nat.le_of_ble_eq_true rfl), (Nat.le_of_ble_eq_true rfl)⟩ hK ap ok hS hA hw (by omega) (fun H locs hw hS _ => ?_)
          have hL60 := sName_le 123641227128419 st
          refine lv_aload_n hx hb d_M_third_86 rfl (lv_at hl 1 rfl) ?_
          refine lv_aload_n hx hb d_M_third_87 rfl (lv_at hl 1 rfl) ?_
          obtain ⟨rg, ft, h1, h2, hP⟩ := id hw
          refine va_get (D := (dC, dI)) (ci := 2) (v := .int d) (C := R_M) (T := F_M) (N := 14) hx hb hT i_M hown hK hP 0 rfl rfl 8 (by decide) (hT _ m_761) (fun _ h9 => h9) rfl d_M_third_88 ?_
          refine call_M_register S inC m_846 ⟨(Nat.le_of_ble_eq_true rfl), (Nat.le_of_ble_eq_true rfl)⟩ hl.1 (Nat.le_of_ble_eq_true rfl) d_M_third_91 ⟨(Nat.le_of_ble_eq_true rfl), (Nat.le_of_ble_eq_true rfl)⟩ hK ap ok hS hA hw ok.1 (by omega) (fun H locs hw hS _ => ?_)
          have hL61 := sReg_le d (sName 123641227128419 st)
          refine lv_aload_n hx hb d_M_third_94 rfl (lv_at hl 1 rfl) ?_
          refine lv_aload_n hx hb d_M_third_95 rfl (lv_at hl 1 rfl) ?_
          refine lv_bipush (v := 12) hx hb d_M_third_96 (by decide) ?_
          refine lv_iconst (v := 1) hx hb d_M_third_98 (by decide) ?_
          refine call_M_part S inC m_809 ⟨(Nat.le_of_ble_eq_true rfl), (Nat.le_of_ble_eq_true rfl)⟩ hl.1 (Nat.le_of_ble_eq_true rfl) d_M_third_99 ⟨(Nat.le_of_ble_eq_true rfl), (Nat.le_of_ble_eq_true rfl)⟩ hK hw ?_
          refine lv_iconst (v := 5) hx hb d_M_third_102 (by decide) ?_
          refine lv_ishl hx hb d_M_third_103 ?_
          refine lv_aload_n hx hb d_M_third_104 rfl (lv_at hl 1 rfl) ?_
          refine lv_iconst (v := 4) hx hb d_M_third_105 (by decide) ?_
          refine lv_iconst (v := 3) hx hb d_M_third_106 (by decide) ?_
          refine call_M_part S inC m_809 ⟨(Nat.le_of_ble_eq_true rfl), (Nat.le_of_ble_eq_true rfl)⟩ hl.1 (Nat.le_of_ble_eq_true rfl) d_M_third_107 ⟨(Nat.le_of_ble_eq_true rfl), (Nat.le_of_ble_eq_true rfl)⟩ hK hw ?_
          refine lv_iconst (v := 2) hx hb d_M_third_110 (by decide) ?_
          refine lv_ishl hx hb d_M_third_111 ?_
          refine lv_ior hx hb d_M_third_112 ?_
          refine lv_aload_n hx hb d_M_third_113 rfl (lv_at hl 1 rfl) ?_
          refine lv_iconst (v := 2) hx hb d_M_third_114 (by decide) ?_
          refine lv_iconst (v := 2) hx hb d_M_third_115 (by decide) ?_
          refine call_M_part S inC m_809 ⟨(Nat.le_of_ble_eq_true rfl), (Nat.le_of_ble_eq_true rfl)⟩ hl.1 (Nat.le_of_ble_eq_true rfl) d_M_third_116 ⟨(Nat.le_of_ble_eq_true rfl), (Nat.le_of_ble_eq_true rfl)⟩ hK hw ?_
          refine lv_bipush (v := 6) hx hb d_M_third_119 (by decide) ?_
          refine lv_ishl hx hb d_M_third_121 ?_
          refine lv_ior hx hb d_M_third_122 ?_
          refine call_M_immediate S inC m_877 ⟨(Nat.le_of_ble_eq_true rfl), (Nat.le_of_ble_eq_true rfl)⟩ hl.1 (Nat.le_of_ble_eq_true rfl) d_M_third_123 ⟨(Nat.le_of_ble_eq_true rfl), (Nat.le_of_ble_eq_true rfl)⟩ hK ap ok hS hA hw (by omega) (fun H locs hw hS _ => ?_)
          have hL62 := gl_M_immediate bi d a (f_M_part bi 2 5) f ((((f_M_part bi 12 1) <<< ((5 : Int32) &&& 31)) ||| ((f_M_part bi 4 3) <<< ((2 : Int32) &&& 31))) ||| ((f_M_part bi 2 2) <<< ((6 : Int32) &&& 31))) (sReg d (sName 123641227128419 st))
          refine lv_goto (tgt := 293) hx hb d_M_third_126 (by decide) ?_
          exact W.vret hx hb hr (fun t ht hW => ⟨⟨(), rfl, trivial, ⟨_, _, _, _, ok, mwd_at ht (mwd_eq (by rw [g_M_third, if_pos c_1, if_neg c_34, if_pos c_35, if_neg c_51]) hw)⟩⟩, hS.F ht⟩) hS.2.2 d_M_third_293
    · refine lv_aload_n hx hb d_M_third_38 rfl (lv_at hl 1 rfl) ?_
      refine lv_ldc2 (v := 115914396872291) hx hb hown (hT _ m_1017) d_M_third_39 ?_
      refine call_M_name S inC m_833 ⟨(Nat.le_of_ble_eq_true rfl), (Nat.le_of_ble_eq_true rfl)⟩ hl.1 (Nat.le_of_ble_eq_true rfl) d_M_third_42 ⟨(Nat.le_of_ble_eq_true rfl), (Nat.le_of_ble_eq_true rfl)⟩ hK ap ok hS hA hw (by omega) (fun H locs hw hS _ => ?_)
      have hL63 := sName_le 115914396872291 st
      refine lv_aload_n hx hb d_M_third_45 rfl (lv_at hl 1 rfl) ?_
      refine lv_aload_n hx hb d_M_third_46 rfl (lv_at hl 1 rfl) ?_
      obtain ⟨rg, ft, h1, h2, hP⟩ := id hw
      refine va_get (D := (dC, dI)) (ci := 2) (v := .int d) (C := R_M) (T := F_M) (N := 14) hx hb hT i_M hown hK hP 0 rfl rfl 8 (by decide) (hT _ m_761) (fun _ h9 => h9) rfl d_M_third_47 ?_
      refine call_M_register S inC m_846 ⟨(Nat.le_of_ble_eq_true rfl), (Nat.le_of_ble_eq_true rfl)⟩ hl.1 (Nat.le_of_ble_eq_true rfl) d_M_third_50 ⟨(Nat.le_of_ble_eq_true rfl), (Nat.le_of_ble_eq_true rfl)⟩ hK ap ok hS hA hw ok.1 (by omega) (fun H locs hw hS _ => ?_)
      have hL64 := sReg_le d (sName 115914396872291 st)
      refine lv_aload_n hx hb d_M_third_53 rfl (lv_at hl 1 rfl) ?_
      refine lv_aload_n hx hb d_M_third_54 rfl (lv_at hl 1 rfl) ?_
      obtain ⟨rg, ft, h1, h2, hP⟩ := id hw
      refine va_get (D := (dC, dI)) (ci := 2) (v := .int (f_M_part bi 2 5)) (C := R_M) (T := F_M) (N := 14) hx hb hT i_M hown hK hP 0 rfl rfl 10 (by decide) (hT _ m_763) (fun _ h9 => h9) rfl d_M_third_55 ?_
      refine call_M_immediate S inC m_877 ⟨(Nat.le_of_ble_eq_true rfl), (Nat.le_of_ble_eq_true rfl)⟩ hl.1 (Nat.le_of_ble_eq_true rfl) d_M_third_58 ⟨(Nat.le_of_ble_eq_true rfl), (Nat.le_of_ble_eq_true rfl)⟩ hK ap ok hS hA hw (by omega) (fun H locs hw hS _ => ?_)
      have hL65 := gl_M_immediate bi d a (f_M_part bi 2 5) f (f_M_part bi 2 5) (sReg d (sName 115914396872291 st))
      refine lv_goto (tgt := 293) hx hb d_M_third_61 (by decide) ?_
      exact W.vret hx hb hr (fun t ht hW => ⟨⟨(), rfl, trivial, ⟨_, _, _, _, ok, mwd_at ht (mwd_eq (by rw [g_M_third, if_pos c_1, if_pos c_34]) hw)⟩⟩, hS.F ht⟩) hS.2.2 d_M_third_293
theorem call_M_third {p : Program} {l : Launch} {e : Env} {R : Room} {s : State} {m : MethodId} {args : Array Value} {below : List Frame} {meth : Method} {c : Code} {H : Heap} {locs : List Loc} {cells slots : Nat} {Q : State → Prop} {cc : ByteArray} {pc nL idx : Nat} {ls : Array Slot} {rest : List Value} {Ts : List Cond} {own : String} {A0 : Nat → Prop} {H0 : Heap} {dC : Nat → ClassId} {dI : Nat → Nat → Nat} {cI cC : ClassId} {m0 mt ms mr mk : Nat} {th yb bi d a b f : Int32} {str fk : Nat → Int32} {st : MT}  (S : CallFix p m c cc nL s args Ts own) (hTs : ∀ w ∈ WT, w ∈ Ts) (hlk : Cond.methodLink own idx y_M_third ∈ WT) (hR : 4 + 1 ≤ R.frames ∧ 8 + (2 + 11) + 89 ≤ R.locals) (hsz : ls.size = nL) (hrm : (rest.map fun v => v.category).sum ≤ 8) (hdg : decode cc pc = .ok (.invokevirtual idx, 3)) (hc : cells ≤ R.cells ∧ slots ≤ R.slots) (hK : rK dC dI cI cC s) (ap : apM m0 mt ms mr mk) (ok : mOk d a b) (hS : va_S A0 H0 H locs) (hA : ∀ q, aM m0 mt ms mr mk q → A0 q) (hw : mwd dC dI cI cC m0 mt ms mr mk th yb bi d a b f str fk st H) (hlen : st.2.2.length + 31 ≤ 64) (kk : ∀ (H1 : Heap) (locs1 : List Loc), mwe dC dI cI cC m0 mt ms mr mk th yb bi str fk (g_M_third bi d a b f  st) H1 → va_S A0 H0 H1 locs1 → (H.size ≤ H1.size ∧ ∀ q : Nat, q < H.size → ¬ aM m0 mt ms mr mk q → H1[q]? = H[q]?) → W p l e R s m args below meth c H1 locs1 cells slots Q (F0 m (pc + 3) ls (rest))) : W p l e R s m args below meth c H locs cells slots Q (F0 m pc ls (.ref m0 :: rest)) :=
  va_callv (va_runV (As := []) (rest := rest) S (c_M_third l dC dI cI cC m0 mt ms mr mk th yb bi d a b f str fk st ) (cwV 0 S.2.2.2.2 (gV hTs hlk m_1015 m_45 m_52 m_1016) rfl rfl rfl (by decide +kernel) hR) ⟨fun a U g mk q => ⟨q.1, ⟨q.2.1.blind, q.2.2⟩⟩, mwd.recv hK hw, fun U hU hW => ⟨rfl, ⟨mU.at hK ap ok hw hU hW, hlen⟩⟩⟩ rfl rfl hsz rfl (lv_room hrm) hdg hc) hS (fun q _ h => hA q h) hA (fun u t H1 locs1 ht hvm hp hB hz hk hS1 => kk H1 locs1 (by rw [← ht]; exact hB) hS1 ⟨hz, hk⟩)

def g_M_longOne (bi d a b f : Int32)  (st : MT) : MT :=
  if (bi &&& 127) = 3 then
    g_M_loads bi (f_M_part bi 7 5) (f_M_part bi 15 5) (f_M_part bi 20 5) (f_M_part bi 12 3) st
  else
    if (bi &&& 127) = 19 then
      g_M_twos bi (f_M_part bi 7 5) (f_M_part bi 15 5) (f_M_part bi 20 5) (f_M_part bi 12 3) (f_M_part bi 25 7) st
    else
      if (bi &&& 127) = 35 then
        g_M_stores bi (f_M_part bi 7 5) (f_M_part bi 15 5) (f_M_part bi 20 5) (f_M_part bi 12 3) st
      else
        if (bi &&& 127) = 47 then
          g_M_atomic bi (f_M_part bi 7 5) (f_M_part bi 15 5) (f_M_part bi 20 5) (f_M_part bi 12 3) (f_M_part bi 27 5) st
        else
          if (bi &&& 127) = 51 then
            g_M_plain bi (f_M_part bi 7 5) (f_M_part bi 15 5) (f_M_part bi 20 5) (f_M_part bi 12 3) (f_M_part bi 25 7) st
          else
            if (bi &&& 127) = 99 then
              g_M_branches bi (f_M_part bi 7 5) (f_M_part bi 15 5) (f_M_part bi 20 5) (f_M_part bi 12 3) st
            else
              if (bi &&& 127) = 115 then
                g_M_system bi (f_M_part bi 7 5) (f_M_part bi 15 5) (f_M_part bi 20 5) (f_M_part bi 12 3) st
              else
                g_M_others bi (f_M_part bi 7 5) (f_M_part bi 15 5) (f_M_part bi 20 5) (f_M_part bi 12 3) st
set_option maxRecDepth 20000 in
theorem gl_M_longOne (bi d a b f : Int32)  (st : MT) : (g_M_longOne bi d a b f  st).2.2.length ≤ st.2.2.length + 64 := by
  unfold g_M_longOne
  exact (it_len _ (by have h0 := gl_M_loads bi (f_M_part bi 7 5) (f_M_part bi 15 5) (f_M_part bi 20 5) (f_M_part bi 12 3) st; omega) (it_len _ (by have h0 := gl_M_twos bi (f_M_part bi 7 5) (f_M_part bi 15 5) (f_M_part bi 20 5) (f_M_part bi 12 3) (f_M_part bi 25 7) st; omega) (it_len _ (by have h0 := gl_M_stores bi (f_M_part bi 7 5) (f_M_part bi 15 5) (f_M_part bi 20 5) (f_M_part bi 12 3) st; omega) (it_len _ (by have h0 := gl_M_atomic bi (f_M_part bi 7 5) (f_M_part bi 15 5) (f_M_part bi 20 5) (f_M_part bi 12 3) (f_M_part bi 27 5) st; omega) (it_len _ (by have h0 := gl_M_plain bi (f_M_part bi 7 5) (f_M_part bi 15 5) (f_M_part bi 20 5) (f_M_part bi 12 3) (f_M_part bi 25 7) st; omega) (it_len _ (by have h0 := gl_M_branches bi (f_M_part bi 7 5) (f_M_part bi 15 5) (f_M_part bi 20 5) (f_M_part bi 12 3) st; omega) (it_len _ (by have h0 := gl_M_system bi (f_M_part bi 7 5) (f_M_part bi 15 5) (f_M_part bi 20 5) (f_M_part bi 12 3) st; omega) (by have h0 := gl_M_others bi (f_M_part bi 7 5) (f_M_part bi 15 5) (f_M_part bi 20 5) (f_M_part bi 12 3) st; omega))))))))
set_option maxRecDepth 100000 in
set_option maxHeartbeats 4000000 in
theorem c_M_longOne (l : Launch) (dC : Nat → ClassId) (dI : Nat → Nat → Nat) (cI cC : ClassId) (m0 mt ms mr mk : Nat) (th yb bi d a b f : Int32) (str fk : Nat → Int32) (st : MT)  : Met l y_M_longOne (Cond.code y_M_longOne b_M_longOne 2 none :: WT) ({ frames := 6, cells := 0, slots := 0, locals := 132 }) (va_Pc [.ref m0] (fun U => mU dC dI cI cC m0 mt ms mr mk th yb bi d a b f str fk st U ∧ st.2.2.length + 64 ≤ 64)) (va_Qv (fun _ : Unit => True) (fun _ t => mwe dC dI cI cC m0 mt ms mr mk th yb bi str fk (g_M_longOne bi d a b f  st) t.heap) (aM m0 mt ms mr mk)) 0 0 (aM m0 mt ms mr mk) := by
  refine va_MetF (cc := b_M_longOne) (maxL := 2) (ret := none) (by decide +kernel) rfl ?_
  intro p e s m args below meth c s₁ B hml hv
  obtain ⟨rfl, ⟨hK, ap, ok, hw⟩, hlen⟩ := hv
  have hx := B.exec
  have hb := B.bytes
  have hr := B.returns
  have hts := atoms_spec (ws := (Cond.code y_M_longOne b_M_longOne 2 none :: WT)) B.pre
  have hT : ∀ w ∈ WT, w.before _ s = true := fun w h => hts w (inC w h)
  have hown : s.vm.findClass R_M = some m.cls := findClass_of_methodNamed B.named
  have hlocks := B.notSynchronized
  have hS : va_S (aM m0 mt ms mr mk) s.heap s.heap [] := va_S.rf
  have S : CallFix p m c b_M_longOne 2 s _ (Cond.code y_M_longOne b_M_longOne 2 none :: WT) R_M := ⟨hx, hb, hml, hown, hts⟩
  have hl := lv_entry ([.ref m0]) (n := 2) (Nat.le_of_ble_eq_true rfl)
  rw [lg_entry_eq]
  generalize (lg_sl ([.ref m0]) ++ List.replicate (2 - (lg_sl ([.ref m0])).length) Slot.unset).toArray = ls at hl ⊢
  have hl : lv_has ls 2 [(0, .ref m0)] := hl
  have hA : ∀ q, aM m0 mt ms mr mk q → aM m0 mt ms mr mk q := fun _ h => h
  refine lv_aload_n hx hb d_M_longOne_0 rfl (lv_at hl 0 rfl) ?_
  refine lv_aload_n hx hb d_M_longOne_1 rfl (lv_at hl 0 rfl) ?_
  refine lv_bipush (v := 7) hx hb d_M_longOne_2 (by decide) ?_
  refine lv_iconst (v := 5) hx hb d_M_longOne_4 (by decide) ?_
  refine call_M_part S inC m_809 ⟨(Nat.le_of_ble_eq_true rfl), (Nat.le_of_ble_eq_true rfl)⟩ hl.1 (Nat.le_of_ble_eq_true rfl) d_M_longOne_5 ⟨(Nat.le_of_ble_eq_true rfl), (Nat.le_of_ble_eq_true rfl)⟩ hK hw ?_
  obtain ⟨rg, ft, h1, h2, hP⟩ := hw
  have hD := wM_D ap hA (cI := cI) (cC := cC) (th := th) (yb := yb) (bi := bi) (d := d) (a := a) (b := b) (f := f) (op := (st).1) (ln := (st).2.1) (sz := nI (st).2.2.length) (str := str) (rg := rg) (ft := ft) (fk := fk)
  refine va_put (D := (dC, dI)) (ci := 2) (v := .int (f_M_part bi 7 5)) (ty := .int) (C := R_M) (T := F_M) (N := 14) hx hb hT i_M ft_M ft_M_ok n_M hown hK hP hD hS 0 rfl rfl 8 (by decide) (hT _ m_761) (fun _ h9 => h9) rfl (by decide +kernel) rfl rfl (Nat.le_of_ble_eq_true rfl) d_M_longOne_8 (fun H locs hP hD hS => ?_)
  have hw : mwd dC dI cI cC m0 mt ms mr mk th yb bi (f_M_part bi 7 5) a b f str fk st H := ⟨rg, ft, h1, h2, hP⟩
  have ok : mOk (f_M_part bi 7 5) a b := ⟨p5_in _ _, ok.2.1, ok.2.2⟩
  refine lv_aload_n hx hb d_M_longOne_11 rfl (lv_at hl 0 rfl) ?_
  refine lv_aload_n hx hb d_M_longOne_12 rfl (lv_at hl 0 rfl) ?_
  refine lv_bipush (v := 12) hx hb d_M_longOne_13 (by decide) ?_
  refine lv_iconst (v := 3) hx hb d_M_longOne_15 (by decide) ?_
  refine call_M_part S inC m_809 ⟨(Nat.le_of_ble_eq_true rfl), (Nat.le_of_ble_eq_true rfl)⟩ hl.1 (Nat.le_of_ble_eq_true rfl) d_M_longOne_16 ⟨(Nat.le_of_ble_eq_true rfl), (Nat.le_of_ble_eq_true rfl)⟩ hK hw ?_
  obtain ⟨rg, ft, h1, h2, hP⟩ := hw
  have hD := wM_D ap hA (cI := cI) (cC := cC) (th := th) (yb := yb) (bi := bi) (d := f_M_part bi 7 5) (a := a) (b := b) (f := f) (op := (st).1) (ln := (st).2.1) (sz := nI (st).2.2.length) (str := str) (rg := rg) (ft := ft) (fk := fk)
  refine va_put (D := (dC, dI)) (ci := 2) (v := .int (f_M_part bi 12 3)) (ty := .int) (C := R_M) (T := F_M) (N := 14) hx hb hT i_M ft_M ft_M_ok n_M hown hK hP hD hS 0 rfl rfl 11 (by decide) (hT _ m_764) (fun _ h9 => h9) rfl (by decide +kernel) rfl rfl (Nat.le_of_ble_eq_true rfl) d_M_longOne_19 (fun H locs hP hD hS => ?_)
  have hw : mwd dC dI cI cC m0 mt ms mr mk th yb bi (f_M_part bi 7 5) a b (f_M_part bi 12 3) str fk st H := ⟨rg, ft, h1, h2, hP⟩
  refine lv_aload_n hx hb d_M_longOne_22 rfl (lv_at hl 0 rfl) ?_
  refine lv_aload_n hx hb d_M_longOne_23 rfl (lv_at hl 0 rfl) ?_
  refine lv_bipush (v := 15) hx hb d_M_longOne_24 (by decide) ?_
  refine lv_iconst (v := 5) hx hb d_M_longOne_26 (by decide) ?_
  refine call_M_part S inC m_809 ⟨(Nat.le_of_ble_eq_true rfl), (Nat.le_of_ble_eq_true rfl)⟩ hl.1 (Nat.le_of_ble_eq_true rfl) d_M_longOne_27 ⟨(Nat.le_of_ble_eq_true rfl), (Nat.le_of_ble_eq_true rfl)⟩ hK hw ?_
  obtain ⟨rg, ft, h1, h2, hP⟩ := hw
  have hD := wM_D ap hA (cI := cI) (cC := cC) (th := th) (yb := yb) (bi := bi) (d := f_M_part bi 7 5) (a := a) (b := b) (f := f_M_part bi 12 3) (op := (st).1) (ln := (st).2.1) (sz := nI (st).2.2.length) (str := str) (rg := rg) (ft := ft) (fk := fk)
  refine va_put (D := (dC, dI)) (ci := 2) (v := .int (f_M_part bi 15 5)) (ty := .int) (C := R_M) (T := F_M) (N := 14) hx hb hT i_M ft_M ft_M_ok n_M hown hK hP hD hS 0 rfl rfl 9 (by decide) (hT _ m_762) (fun _ h9 => h9) rfl (by decide +kernel) rfl rfl (Nat.le_of_ble_eq_true rfl) d_M_longOne_30 (fun H locs hP hD hS => ?_)
  have hw : mwd dC dI cI cC m0 mt ms mr mk th yb bi (f_M_part bi 7 5) (f_M_part bi 15 5) b (f_M_part bi 12 3) str fk st H := ⟨rg, ft, h1, h2, hP⟩
  have ok : mOk (f_M_part bi 7 5) (f_M_part bi 15 5) b := ⟨ok.1, p5_in _ _, ok.2.2⟩
  refine lv_aload_n hx hb d_M_longOne_33 rfl (lv_at hl 0 rfl) ?_
  refine lv_aload_n hx hb d_M_longOne_34 rfl (lv_at hl 0 rfl) ?_
  refine lv_bipush (v := 20) hx hb d_M_longOne_35 (by decide) ?_
  refine lv_iconst (v := 5) hx hb d_M_longOne_37 (by decide) ?_
  refine call_M_part S inC m_809 ⟨(Nat.le_of_ble_eq_true rfl), (Nat.le_of_ble_eq_true rfl)⟩ hl.1 (Nat.le_of_ble_eq_true rfl) d_M_longOne_38 ⟨(Nat.le_of_ble_eq_true rfl), (Nat.le_of_ble_eq_true rfl)⟩ hK hw ?_
  obtain ⟨rg, ft, h1, h2, hP⟩ := hw
  have hD := wM_D ap hA (cI := cI) (cC := cC) (th := th) (yb := yb) (bi := bi) (d := f_M_part bi 7 5) (a := f_M_part bi 15 5) (b := b) (f := f_M_part bi 12 3) (op := (st).1) (ln := (st).2.1) (sz := nI (st).2.2.length) (str := str) (rg := rg) (ft := ft) (fk := fk)
  refine va_put (D := (dC, dI)) (ci := 2) (v := .int (f_M_part bi 20 5)) (ty := .int) (C := R_M) (T := F_M) (N := 14) hx hb hT i_M ft_M ft_M_ok n_M hown hK hP hD hS 0 rfl rfl 10 (by decide) (hT _ m_763) (fun _ h9 => h9) rfl (by decide +kernel) rfl rfl (Nat.le_of_ble_eq_true rfl) d_M_longOne_41 (fun H locs hP hD hS => ?_)
  have hw : mwd dC dI cI cC m0 mt ms mr mk th yb bi (f_M_part bi 7 5) (f_M_part bi 15 5) (f_M_part bi 20 5) (f_M_part bi 12 3) str fk st H := ⟨rg, ft, h1, h2, hP⟩
  have ok : mOk (f_M_part bi 7 5) (f_M_part bi 15 5) (f_M_part bi 20 5) := ⟨ok.1, ok.2.1, p5_in _ _⟩
  refine lv_aload_n hx hb d_M_longOne_44 rfl (lv_at hl 0 rfl) ?_
  refine lv_bipush (v := 25) hx hb d_M_longOne_45 (by decide) ?_
  refine lv_bipush (v := 7) hx hb d_M_longOne_47 (by decide) ?_
  refine call_M_part S inC m_809 ⟨(Nat.le_of_ble_eq_true rfl), (Nat.le_of_ble_eq_true rfl)⟩ hl.1 (Nat.le_of_ble_eq_true rfl) d_M_longOne_49 ⟨(Nat.le_of_ble_eq_true rfl), (Nat.le_of_ble_eq_true rfl)⟩ hK hw ?_
  refine lv_istore_n (lv' := [(1, .int (f_M_part bi 25 7)), (0, .ref m0)]) hx hb d_M_longOne_52 rfl hl (by decide) rfl (fun ls hl => ?_)
  refine lv_aload_n hx hb d_M_longOne_53 rfl (lv_at hl 1 rfl) ?_
  obtain ⟨rg, ft, h1, h2, hP⟩ := id hw
  refine va_get (D := (dC, dI)) (ci := 2) (v := .int bi) (C := R_M) (T := F_M) (N := 14) hx hb hT i_M hown hK hP 0 rfl rfl 7 (by decide) (hT _ m_760) (fun _ h9 => h9) rfl d_M_longOne_54 ?_
  refine lv_bipush (v := 127) hx hb d_M_longOne_57 (by decide) ?_
  refine lv_iand hx hb d_M_longOne_59 ?_
  by_cases c_1 : (bi &&& 127) = 3
  · refine lv_lookup (off := 84) (tgt := 144) hx hb d_M_longOne_60 (by decide) (by rw [c_1]; decide) (by decide) ?_
    refine lv_aload_n hx hb d_M_longOne_144 rfl (lv_at hl 1 rfl) ?_
    refine call_M_loads S inC m_892 ⟨(Nat.le_of_ble_eq_true rfl), (Nat.le_of_ble_eq_true rfl)⟩ hl.1 (Nat.le_of_ble_eq_true rfl) d_M_longOne_145 ⟨(Nat.le_of_ble_eq_true rfl), (Nat.le_of_ble_eq_true rfl)⟩ hK ap ok hS hA hw (by omega) (fun H locs hw hS _ => ?_)
    have hL1 := gl_M_loads bi (f_M_part bi 7 5) (f_M_part bi 15 5) (f_M_part bi 20 5) (f_M_part bi 12 3) st
    refine lv_goto (tgt := 190) hx hb d_M_longOne_148 (by decide) ?_
    exact W.vret hx hb hr (fun t ht hW => ⟨⟨(), rfl, trivial, ⟨_, _, _, _, ok, mwd_at ht (mwd_eq (by rw [g_M_longOne, if_pos c_1]) hw)⟩⟩, hS.F ht⟩) hS.2.2 d_M_longOne_190
  · by_cases c_2 : (bi &&& 127) = 19
    · refine lv_lookup (off := 76) (tgt := 136) hx hb d_M_longOne_60 (by decide) (by rw [c_2]; decide) (by decide) ?_
      refine lv_aload_n hx hb d_M_longOne_136 rfl (lv_at hl 1 rfl) ?_
      refine lv_iload_n hx hb d_M_longOne_137 rfl (lv_at hl 0 rfl) ?_
      refine call_M_twos S inC m_864 ⟨(Nat.le_of_ble_eq_true rfl), (Nat.le_of_ble_eq_true rfl)⟩ hl.1 (Nat.le_of_ble_eq_true rfl) d_M_longOne_138 ⟨(Nat.le_of_ble_eq_true rfl), (Nat.le_of_ble_eq_true rfl)⟩ hK ap ok hS hA hw (by omega) (fun H locs hw hS _ => ?_)
      have hL2 := gl_M_twos bi (f_M_part bi 7 5) (f_M_part bi 15 5) (f_M_part bi 20 5) (f_M_part bi 12 3) (f_M_part bi 25 7) st
      refine lv_goto (tgt := 190) hx hb d_M_longOne_141 (by decide) ?_
      exact W.vret hx hb hr (fun t ht hW => ⟨⟨(), rfl, trivial, ⟨_, _, _, _, ok, mwd_at ht (mwd_eq (by rw [g_M_longOne, if_neg c_1, if_pos c_2]) hw)⟩⟩, hS.F ht⟩) hS.2.2 d_M_longOne_190
    · by_cases c_3 : (bi &&& 127) = 35
      · refine lv_lookup (off := 91) (tgt := 151) hx hb d_M_longOne_60 (by decide) (by rw [c_3]; decide) (by decide) ?_
        refine lv_aload_n hx hb d_M_longOne_151 rfl (lv_at hl 1 rfl) ?_
        refine call_M_stores S inC m_909 ⟨(Nat.le_of_ble_eq_true rfl), (Nat.le_of_ble_eq_true rfl)⟩ hl.1 (Nat.le_of_ble_eq_true rfl) d_M_longOne_152 ⟨(Nat.le_of_ble_eq_true rfl), (Nat.le_of_ble_eq_true rfl)⟩ hK ap ok hS hA hw (by omega) (fun H locs hw hS _ => ?_)
        have hL3 := gl_M_stores bi (f_M_part bi 7 5) (f_M_part bi 15 5) (f_M_part bi 20 5) (f_M_part bi 12 3) st
        refine lv_goto (tgt := 190) hx hb d_M_longOne_155 (by decide) ?_
        exact W.vret hx hb hr (fun t ht hW => ⟨⟨(), rfl, trivial, ⟨_, _, _, _, ok, mwd_at ht (mwd_eq (by rw [g_M_longOne, if_neg c_1, if_neg c_2, if_pos c_3]) hw)⟩⟩, hS.F ht⟩) hS.2.2 d_M_longOne_190
      · by_cases c_4 : (bi &&& 127) = 47
        · refine lv_lookup (off := 105) (tgt := 165) hx hb d_M_longOne_60 (by decide) (by rw [c_4]; decide) (by decide) ?_
          refine lv_aload_n hx hb d_M_longOne_165 rfl (lv_at hl 1 rfl) ?_
          refine lv_aload_n hx hb d_M_longOne_166 rfl (lv_at hl 1 rfl) ?_
          refine lv_bipush (v := 27) hx hb d_M_longOne_167 (by decide) ?_
          refine lv_iconst (v := 5) hx hb d_M_longOne_169 (by decide) ?_
          refine call_M_part S inC m_809 ⟨(Nat.le_of_ble_eq_true rfl), (Nat.le_of_ble_eq_true rfl)⟩ hl.1 (Nat.le_of_ble_eq_true rfl) d_M_longOne_170 ⟨(Nat.le_of_ble_eq_true rfl), (Nat.le_of_ble_eq_true rfl)⟩ hK hw ?_
          refine call_M_atomic S inC m_930 ⟨(Nat.le_of_ble_eq_true rfl), (Nat.le_of_ble_eq_true rfl)⟩ hl.1 (Nat.le_of_ble_eq_true rfl) d_M_longOne_173 ⟨(Nat.le_of_ble_eq_true rfl), (Nat.le_of_ble_eq_true rfl)⟩ hK ap ok hS hA hw (by omega) (fun H locs hw hS _ => ?_)
          have hL4 := gl_M_atomic bi (f_M_part bi 7 5) (f_M_part bi 15 5) (f_M_part bi 20 5) (f_M_part bi 12 3) (f_M_part bi 27 5) st
          refine lv_goto (tgt := 190) hx hb d_M_longOne_176 (by decide) ?_
          exact W.vret hx hb hr (fun t ht hW => ⟨⟨(), rfl, trivial, ⟨_, _, _, _, ok, mwd_at ht (mwd_eq (by rw [g_M_longOne, if_neg c_1, if_neg c_2, if_neg c_3, if_pos c_4]) hw)⟩⟩, hS.F ht⟩) hS.2.2 d_M_longOne_190
        · by_cases c_5 : (bi &&& 127) = 51
          · refine lv_lookup (off := 68) (tgt := 128) hx hb d_M_longOne_60 (by decide) (by rw [c_5]; decide) (by decide) ?_
            refine lv_aload_n hx hb d_M_longOne_128 rfl (lv_at hl 1 rfl) ?_
            refine lv_iload_n hx hb d_M_longOne_129 rfl (lv_at hl 0 rfl) ?_
            refine call_M_plain S inC m_817 ⟨(Nat.le_of_ble_eq_true rfl), (Nat.le_of_ble_eq_true rfl)⟩ hl.1 (Nat.le_of_ble_eq_true rfl) d_M_longOne_130 ⟨(Nat.le_of_ble_eq_true rfl), (Nat.le_of_ble_eq_true rfl)⟩ hK ap ok hS hA hw (by omega) (fun H locs hw hS _ => ?_)
            have hL5 := gl_M_plain bi (f_M_part bi 7 5) (f_M_part bi 15 5) (f_M_part bi 20 5) (f_M_part bi 12 3) (f_M_part bi 25 7) st
            refine lv_goto (tgt := 190) hx hb d_M_longOne_133 (by decide) ?_
            exact W.vret hx hb hr (fun t ht hW => ⟨⟨(), rfl, trivial, ⟨_, _, _, _, ok, mwd_at ht (mwd_eq (by rw [g_M_longOne, if_neg c_1, if_neg c_2, if_neg c_3, if_neg c_4, if_pos c_5]) hw)⟩⟩, hS.F ht⟩) hS.2.2 d_M_longOne_190
          · by_cases c_6 : (bi &&& 127) = 99
            · refine lv_lookup (off := 98) (tgt := 158) hx hb d_M_longOne_60 (by decide) (by rw [c_6]; decide) (by decide) ?_
              refine lv_aload_n hx hb d_M_longOne_158 rfl (lv_at hl 1 rfl) ?_
              refine call_M_branches S inC m_916 ⟨(Nat.le_of_ble_eq_true rfl), (Nat.le_of_ble_eq_true rfl)⟩ hl.1 (Nat.le_of_ble_eq_true rfl) d_M_longOne_159 ⟨(Nat.le_of_ble_eq_true rfl), (Nat.le_of_ble_eq_true rfl)⟩ hK ap ok hS hA hw (by omega) (fun H locs hw hS _ => ?_)
              have hL6 := gl_M_branches bi (f_M_part bi 7 5) (f_M_part bi 15 5) (f_M_part bi 20 5) (f_M_part bi 12 3) st
              refine lv_goto (tgt := 190) hx hb d_M_longOne_162 (by decide) ?_
              exact W.vret hx hb hr (fun t ht hW => ⟨⟨(), rfl, trivial, ⟨_, _, _, _, ok, mwd_at ht (mwd_eq (by rw [g_M_longOne, if_neg c_1, if_neg c_2, if_neg c_3, if_neg c_4, if_neg c_5, if_pos c_6]) hw)⟩⟩, hS.F ht⟩) hS.2.2 d_M_longOne_190
            · by_cases c_7 : (bi &&& 127) = 115
              · refine lv_lookup (off := 119) (tgt := 179) hx hb d_M_longOne_60 (by decide) (by rw [c_7]; decide) (by decide) ?_
                refine lv_aload_n hx hb d_M_longOne_179 rfl (lv_at hl 1 rfl) ?_
                refine call_M_system S inC m_946 ⟨(Nat.le_of_ble_eq_true rfl), (Nat.le_of_ble_eq_true rfl)⟩ hl.1 (Nat.le_of_ble_eq_true rfl) d_M_longOne_180 ⟨(Nat.le_of_ble_eq_true rfl), (Nat.le_of_ble_eq_true rfl)⟩ hK ap ok hS hA hw (by omega) (fun H locs hw hS _ => ?_)
                have hL7 := gl_M_system bi (f_M_part bi 7 5) (f_M_part bi 15 5) (f_M_part bi 20 5) (f_M_part bi 12 3) st
                refine lv_goto (tgt := 190) hx hb d_M_longOne_183 (by decide) ?_
                exact W.vret hx hb hr (fun t ht hW => ⟨⟨(), rfl, trivial, ⟨_, _, _, _, ok, mwd_at ht (mwd_eq (by rw [g_M_longOne, if_neg c_1, if_neg c_2, if_neg c_3, if_neg c_4, if_neg c_5, if_neg c_6, if_pos c_7]) hw)⟩⟩, hS.F ht⟩) hS.2.2 d_M_longOne_190
              · refine lv_lookup (off := 126) (tgt := 186) hx hb d_M_longOne_60 (by decide) (by show Op.lookupswitch.offset [(3, 84), (19, 76), (35, 91), (47, 105), (51, 68), (99, 98), (115, 119)] 126 _ = 126; rw [lv_osw c_1 (by decide), lv_osw c_2 (by decide), lv_osw c_3 (by decide), lv_osw c_4 (by decide), lv_osw c_5 (by decide), lv_osw c_6 (by decide), lv_osw c_7 (by decide)]; rfl) (by decide) ?_
                refine lv_aload_n hx hb d_M_longOne_186 rfl (lv_at hl 1 rfl) ?_
                refine call_M_others S inC m_957 ⟨(Nat.le_of_ble_eq_true rfl), (Nat.le_of_ble_eq_true rfl)⟩ hl.1 (Nat.le_of_ble_eq_true rfl) d_M_longOne_187 ⟨(Nat.le_of_ble_eq_true rfl), (Nat.le_of_ble_eq_true rfl)⟩ hK ap ok hS hA hw (by omega) (fun H locs hw hS _ => ?_)
                have hL8 := gl_M_others bi (f_M_part bi 7 5) (f_M_part bi 15 5) (f_M_part bi 20 5) (f_M_part bi 12 3) st
                exact W.vret hx hb hr (fun t ht hW => ⟨⟨(), rfl, trivial, ⟨_, _, _, _, ok, mwd_at ht (mwd_eq (by rw [g_M_longOne, if_neg c_1, if_neg c_2, if_neg c_3, if_neg c_4, if_neg c_5, if_neg c_6, if_neg c_7]) hw)⟩⟩, hS.F ht⟩) hS.2.2 d_M_longOne_190
theorem call_M_longOne {p : Program} {l : Launch} {e : Env} {R : Room} {s : State} {m : MethodId} {args : Array Value} {below : List Frame} {meth : Method} {c : Code} {H : Heap} {locs : List Loc} {cells slots : Nat} {Q : State → Prop} {cc : ByteArray} {pc nL idx : Nat} {ls : Array Slot} {rest : List Value} {Ts : List Cond} {own : String} {A0 : Nat → Prop} {H0 : Heap} {dC : Nat → ClassId} {dI : Nat → Nat → Nat} {cI cC : ClassId} {m0 mt ms mr mk : Nat} {th yb bi d a b f : Int32} {str fk : Nat → Int32} {st : MT}  (S : CallFix p m c cc nL s args Ts own) (hTs : ∀ w ∈ WT, w ∈ Ts) (hlk : Cond.methodLink own idx y_M_longOne ∈ WT) (hR : 6 + 1 ≤ R.frames ∧ 8 + (2 + 11) + 132 ≤ R.locals) (hsz : ls.size = nL) (hrm : (rest.map fun v => v.category).sum ≤ 8) (hdg : decode cc pc = .ok (.invokevirtual idx, 3)) (hc : cells ≤ R.cells ∧ slots ≤ R.slots) (hK : rK dC dI cI cC s) (ap : apM m0 mt ms mr mk) (ok : mOk d a b) (hS : va_S A0 H0 H locs) (hA : ∀ q, aM m0 mt ms mr mk q → A0 q) (hw : mwd dC dI cI cC m0 mt ms mr mk th yb bi d a b f str fk st H) (hlen : st.2.2.length + 64 ≤ 64) (kk : ∀ (H1 : Heap) (locs1 : List Loc), mwe dC dI cI cC m0 mt ms mr mk th yb bi str fk (g_M_longOne bi d a b f  st) H1 → va_S A0 H0 H1 locs1 → (H.size ≤ H1.size ∧ ∀ q : Nat, q < H.size → ¬ aM m0 mt ms mr mk q → H1[q]? = H[q]?) → W p l e R s m args below meth c H1 locs1 cells slots Q (F0 m (pc + 3) ls (rest))) : W p l e R s m args below meth c H locs cells slots Q (F0 m pc ls (.ref m0 :: rest)) :=
  va_callv (va_runV (As := []) (rest := rest) S (c_M_longOne l dC dI cI cC m0 mt ms mr mk th yb bi d a b f str fk st ) (cwV 0 S.2.2.2.2 (gV hTs hlk m_815 m_18 m_52 m_816) rfl rfl rfl (by decide +kernel) hR) ⟨fun a U g mk q => ⟨q.1, ⟨q.2.1.blind, q.2.2⟩⟩, mwd.recv hK hw, fun U hU hW => ⟨rfl, ⟨mU.at hK ap ok hw hU hW, hlen⟩⟩⟩ rfl rfl hsz rfl (lv_room hrm) hdg hc) hS (fun q _ h => hA q h) hA (fun u t H1 locs1 ht hvm hp hB hz hk hS1 => kk H1 locs1 (by rw [← ht]; exact hB) hS1 ⟨hz, hk⟩)
