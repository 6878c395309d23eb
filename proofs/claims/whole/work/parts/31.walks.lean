def bt (str : Nat → Int32) (h : Nat) : Nat := if str h &&& 3 = 3 then 4 else 2
theorem bt_24 (str : Nat → Int32) (h : Nat) : bt str h = 2 ∨ bt str h = 4 := by
  rw [bt]
  by_cases q : str h &&& 3 = 3
  · rw [if_pos q]; exact Or.inr rfl
  · rw [if_neg q]; exact Or.inl rfl
theorem cl_adr {h : Nat} (hh : h < 256) : f_R_isAddress (nI h) = 1 := by
  rw [f_R_isAddress, if_neg (nI_pos (by omega)), if_neg (show ¬ (256 : Int32) ≤ nI h from nI_ge (b := 256) hh (by omega))]
theorem cl_byte {str : Nat → Int32} {h : Nat} (hh : h < 256) : f_R_byteAt str (nI h) = str h := by
  rw [f_R_byteAt, if_neg (by rw [cl_adr hh]; decide), nI_clamp (by omega)]
theorem cl_bytes {str : Nat → Int32} {h : Nat} (hh : h < 256) : f_R_bytesAt str (nI h) = nI (bt str h) := by
  rw [f_R_bytesAt, f_R_isLongAt, cl_byte hh, bt, f_R_isLong]
  by_cases q : str h &&& 3 = 3
  · rw [if_pos q, if_pos q, if_neg (by decide)]; rfl
  · rw [if_neg q, if_neg q, if_pos rfl]; rfl
theorem cl_l0 {str : Nat → Int32} {h : Nat} (hh : h < 256) (q : f_R_isLongAt str (nI h) = 0) : (2 : Int32) = nI (bt str h) := by
  rw [f_R_isLongAt, cl_byte hh, f_R_isLong] at q
  rw [bt]
  by_cases z : str h &&& 3 = 3
  · rw [if_pos z] at q; exact absurd q (by decide)
  · rw [if_neg z]; rfl
theorem cl_l1 {str : Nat → Int32} {h : Nat} (hh : h < 256) (q : ¬ f_R_isLongAt str (nI h) = 0) : (4 : Int32) = nI (bt str h) := by
  rw [f_R_isLongAt, cl_byte hh, f_R_isLong] at q
  rw [bt]
  by_cases z : str h &&& 3 = 3
  · rw [if_pos z]; rfl
  · rw [if_neg z] at q; exact absurd rfl q
def goN (str : Nat → Int32) : Nat → Nat → Nat → Nat
  | 0, _, h => h
  | k + 1, n, h => if n = 0 ∨ 255 ≤ h then h else goN str k (n - 1) (h + bt str h)
def goB (str : Nat → Int32) : Nat → Nat → Nat → Int32 → Int32
  | 0, _, _, z => z
  | k + 1, a, h, z => if a ≤ h ∨ 255 ≤ h then z else goB str k a (h + bt str h) (nI h)
def cN (str : Nat → Int32) (h : Nat) : Nat := if f_R_isWholeAt str (nI h) = 0 then 0 else if f_K_isInstruction (f_R_kindOf (f_R_bitsAt str (nI h))) = 0 then 1 else 0
def goC (str : Nat → Int32) : Nat → Nat → Nat → Nat
  | 0, _, z => z
  | k + 1, h, z => if 255 ≤ h then z else goC str k (h + bt str h) (z + cN str h)
def endN (h : Nat) : Int32 := if 255 ≤ h then -1 else nI h
theorem goN_stop {str : Nat → Int32} {k n h : Nat} (q : n = 0 ∨ 255 ≤ h) : goN str k n h = h := by
  cases k with
  | zero => rfl
  | succ k => rw [goN, if_pos q]
theorem goB_stop {str : Nat → Int32} {k a h : Nat} {z : Int32} (q : a ≤ h ∨ 255 ≤ h) : goB str k a h z = z := by
  cases k with
  | zero => rfl
  | succ k => rw [goB, if_pos q]

theorem goC_stop {str : Nat → Int32} {k h z : Nat} (q : 255 ≤ h) : goC str k h z = z := by
  cases k with
  | zero => rfl
  | succ k => rw [goC, if_pos q]

theorem goN_le (str : Nat → Int32) : ∀ k n h, h ≤ 258 → goN str k n h ≤ 258
  | 0, _, _, hh => hh
  | k + 1, n, h, hh => by
    rw [goN]
    by_cases q : n = 0 ∨ 255 ≤ h
    · rw [if_pos q]; exact hh
    · rw [if_neg q]; have := bt_24 str h; exact goN_le str k _ _ (by omega)

set_option maxRecDepth 20000 in
theorem kl_L_load (x0 : Int32) : f_L_load x0 < 95 := by
  unfold f_L_load
  exact (it_lt _ (by decide) (it_lt _ (by decide) (it_lt _ (by decide) (it_lt _ (by decide) (it_lt _ (by decide) (by decide))))))
set_option maxRecDepth 20000 in
theorem kl_L_alone (x0 : Int32) : f_L_alone x0 < 95 := by
  unfold f_L_alone
  exact (it_lt _ (by decide) (it_lt _ (by decide) (it_lt _ (by decide) (it_lt _ (by decide) (by decide)))))
set_option maxRecDepth 20000 in
theorem kl_L_shiftRight (x0 : Int32) : f_L_shiftRight x0 < 95 := by
  unfold f_L_shiftRight
  exact (it_lt _ (by decide) (it_lt _ (by decide) (by decide)))
set_option maxRecDepth 20000 in
theorem kl_L_withNumber (x0 x1 : Int32) : f_L_withNumber x0 x1 < 95 := by
  unfold f_L_withNumber
  exact (it_lt _ (by decide) (it_lt _ (it_lt _ (by decide) (by decide)) (it_lt _ (by decide) (it_lt _ (by decide) (it_lt _ (by decide) (it_lt _ (kl_L_shiftRight _) (it_lt _ (by decide) (by decide))))))))
set_option maxRecDepth 20000 in
theorem kl_L_store (x0 : Int32) : f_L_store x0 < 95 := by
  unfold f_L_store
  exact (it_lt _ (by decide) (it_lt _ (by decide) (it_lt _ (by decide) (by decide))))
set_option maxRecDepth 20000 in
theorem kl_L_atomic (x0 x1 : Int32) : f_L_atomic x0 x1 < 95 := by
  unfold f_L_atomic
  exact (it_lt _ (by decide) (it_lt _ (by decide) (it_lt _ (it_lt _ (by decide) (by decide)) (it_lt _ (by decide) (it_lt _ (by decide) (it_lt _ (by decide) (it_lt _ (by decide) (it_lt _ (by decide) (it_lt _ (by decide) (it_lt _ (by decide) (it_lt _ (by decide) (by decide))))))))))))
set_option maxRecDepth 20000 in
theorem kl_L_plain (x0 : Int32) : f_L_plain x0 < 95 := by
  unfold f_L_plain
  exact (it_lt _ (by decide) (it_lt _ (by decide) (it_lt _ (by decide) (it_lt _ (by decide) (it_lt _ (by decide) (it_lt _ (by decide) (it_lt _ (by decide) (by decide))))))))
set_option maxRecDepth 20000 in
theorem kl_L_product (x0 : Int32) : f_L_product x0 < 95 := by
  unfold f_L_product
  exact (it_lt _ (by decide) (it_lt _ (by decide) (it_lt _ (by decide) (it_lt _ (by decide) (it_lt _ (by decide) (it_lt _ (by decide) (it_lt _ (by decide) (by decide))))))))
set_option maxRecDepth 20000 in
theorem kl_L_secondOfTwo (x0 : Int32) : f_L_secondOfTwo x0 < 95 := by
  unfold f_L_secondOfTwo
  exact (it_lt _ (by decide) (it_lt _ (by decide) (by decide)))
set_option maxRecDepth 20000 in
theorem kl_L_ofRegisters (x0 x1 : Int32) : f_L_ofRegisters x0 x1 < 95 := by
  unfold f_L_ofRegisters
  exact (it_lt _ (kl_L_plain _) (it_lt _ (kl_L_product _) (it_lt _ (kl_L_secondOfTwo _) (by decide))))
set_option maxRecDepth 20000 in
theorem kl_L_branch (x0 : Int32) : f_L_branch x0 < 95 := by
  unfold f_L_branch
  exact (it_lt _ (by decide) (it_lt _ (by decide) (it_lt _ (by decide) (it_lt _ (by decide) (it_lt _ (by decide) (it_lt _ (by decide) (by decide)))))))
set_option maxRecDepth 20000 in
theorem kl_L_counter (x0 : Int32) : f_L_counter x0 < 95 := by
  unfold f_L_counter
  exact (it_lt _ (it_lt _ (by decide) (it_lt _ (by decide) (it_lt _ (by decide) (it_lt _ (by decide) (it_lt _ (by decide) (it_lt _ (by decide) (by decide))))))) (by decide))
set_option maxRecDepth 20000 in
theorem kl_L_ofWord (x0 : Int32) : f_L_ofWord x0 < 95 := by
  unfold f_L_ofWord
  exact (it_lt _ (kl_L_load _) (it_lt _ (kl_L_alone _) (it_lt _ (kl_L_withNumber _ _) (it_lt _ (by decide) (it_lt _ (kl_L_store _) (it_lt _ (it_lt _ (kl_L_atomic _ _) (by decide)) (it_lt _ (kl_L_ofRegisters _ _) (it_lt _ (by decide) (it_lt _ (kl_L_branch _) (it_lt _ (it_lt _ (by decide) (by decide)) (it_lt _ (by decide) (it_lt _ (it_lt _ (kl_L_counter _) (kl_L_alone _)) (by decide)))))))))))))
set_option maxRecDepth 20000 in
theorem kl_S_ofQ0 (x0 x1 : Int32) : f_S_ofQ0 x0 x1 < 95 := by
  unfold f_S_ofQ0
  exact (it_lt _ (it_lt _ (by decide) (by decide)) (it_lt _ (by decide) (it_lt _ (by decide) (by decide))))
set_option maxRecDepth 20000 in
theorem kl_S_upperOrStack (x0 : Int32) : f_S_upperOrStack x0 < 95 := by
  unfold f_S_upperOrStack
  exact (it_lt _ (by decide) (it_lt _ (by decide) (by decide)))
set_option maxRecDepth 20000 in
theorem kl_S_ofLesserRegisters (x0 : Int32) : f_S_ofLesserRegisters x0 < 95 := by
  unfold f_S_ofLesserRegisters
  exact (it_lt _ (by decide) (it_lt _ (by decide) (it_lt _ (by decide) (by decide))))
set_option maxRecDepth 20000 in
theorem kl_S_onLesserRegister (x0 : Int32) : f_S_onLesserRegister x0 < 95 := by
  unfold f_S_onLesserRegister
  exact (it_lt _ (by decide) (it_lt _ (it_lt _ (by decide) (it_lt _ (by decide) (kl_S_ofLesserRegisters _))) (by decide)))
set_option maxRecDepth 20000 in
theorem kl_S_ofQ1 (x0 x1 : Int32) : f_S_ofQ1 x0 x1 < 95 := by
  unfold f_S_ofQ1
  exact (it_lt _ (it_lt _ (by decide) (by decide)) (it_lt _ (by decide) (it_lt _ (by decide) (it_lt _ (kl_S_upperOrStack _) (it_lt _ (kl_S_onLesserRegister _) (it_lt _ (by decide) (it_lt _ (by decide) (by decide))))))))
set_option maxRecDepth 20000 in
theorem kl_S_moveOrJump (x0 : Int32) : f_S_moveOrJump x0 < 95 := by
  unfold f_S_moveOrJump
  exact (it_lt _ (it_lt _ (by decide) (by decide)) (by decide))
set_option maxRecDepth 20000 in
theorem kl_S_addOrJump (x0 : Int32) : f_S_addOrJump x0 < 95 := by
  unfold f_S_addOrJump
  exact (it_lt _ (it_lt _ (by decide) (by decide)) (by decide))
set_option maxRecDepth 20000 in
theorem kl_S_ofQ2 (x0 x1 : Int32) : f_S_ofQ2 x0 x1 < 95 := by
  unfold f_S_ofQ2
  exact (it_lt _ (it_lt _ (by decide) (by decide)) (it_lt _ (it_lt _ (by decide) (by decide)) (it_lt _ (it_lt _ (kl_S_moveOrJump _) (kl_S_addOrJump _)) (it_lt _ (by decide) (by decide)))))
set_option maxRecDepth 20000 in
theorem kl_S_ofHalf (x0 : Int32) : f_S_ofHalf x0 < 95 := by
  unfold f_S_ofHalf
  exact (it_lt _ (kl_S_ofQ0 _ _) (it_lt _ (kl_S_ofQ1 _ _) (it_lt _ (kl_S_ofQ2 _ _) (by decide))))
set_option maxRecDepth 20000 in
theorem kl_R_kindOf (x0 : Int32) : f_R_kindOf x0 < 95 := by
  unfold f_R_kindOf
  exact (it_lt _ (kl_S_ofHalf _) (kl_L_ofWord _))

set_option maxRecDepth 100000 in
set_option maxHeartbeats 4000000 in
theorem lp_R_next {p : Program} {l : Launch} {e : Env} {R : Room} {s : State} {m : MethodId} {args : Array Value} {below : List Frame} {meth : Method} {c : Code} {cells slots : Nat} {Q : State → Prop} {Ts : List Cond} {adE adK adV : Nat → Nat} {A0 : Nat → Prop} {H : Heap} {locs : List Loc} {dC : Nat → ClassId} {dI : Nat → Nat → Nat} {cI cC : ClassId} {r0 r1 r2 r3 : Nat} {str : Nat → Int32} {tb ti tp : Int32} {v : List Int32} {a : Int32} {N G : Nat} (S : CallFix p m c b_R_next 5 s args Ts R_R) (hTs : ∀ w ∈ WT, w ∈ Ts) (hT : ∀ w ∈ WT, w.before args s = true) (hfr : 4 ≤ R.frames) (hlo : 83 ≤ R.locals) (hc : cells ≤ R.cells ∧ slots ≤ R.slots) (hK : rK dC dI cI cC s) (hC : cx adE adK adV A0 s s.heap) (hS : va_S A0 s.heap H locs) (hw : rwd dC dI cI cC r0 r1 r2 r3 str tb ti tp v H) (hN : N < 2 ^ 31)
    (kk : ∀ (ls : Array Slot), lv_has ls 5 [(3, .int (nI G))] → W p l e R s m args below meth c H locs cells slots Q (F0 m 50 ls [])) :
    ∀ (k h q r : Nat), q + r = N → 255 ≤ h + 2 * k → h ≤ 258 → goN str k r h = G → ∀ (ls : Array Slot), lv_has ls 5 [(4, .int (nI q)), (3, .int (nI h)), (0, .ref r0), (1, .int a), (2, .int (nI N))] → W p l e R s m args below meth c H locs cells slots Q (F0 m 23 ls []) := by
  have hx := S.1
  have hb := S.2.1
  have hown := S.2.2.2.1
  intro k
  induction k with
  | zero =>
    intro h q r hq hk hh hG ls hl
    have hG : h = G := by rw [← hG]; exact (goN_stop (Or.inr (by omega))).symm
    subst hG
    refine lv_iload hx hb d_R_next_23 (lv_at hl 0 rfl) ?_
    refine lv_iload_n hx hb d_R_next_25 rfl (lv_at hl 4 rfl) ?_
    refine lv_icmp_ge (tgt := 50) hx hb d_R_next_26 (by decide) (fun _ => kk ls (lv_sub hl [1] rfl)) (fun _ => ?_)
    refine lv_iload_n hx hb d_R_next_29 rfl (lv_at hl 1 rfl) ?_
    refine lv_sipush (v := nI 254) hx hb d_R_next_30 (by decide) ?_
    exact lv_icmp_gt (tgt := 50) hx hb d_R_next_33 (by decide) (fun _ => kk ls (lv_sub hl [1] rfl)) (fun z => absurd (nI_lt (by omega) (by omega)) z)
  | succ k ih =>
    intro h q r hq hk hh hG ls hl
    refine lv_iload hx hb d_R_next_23 (lv_at hl 0 rfl) ?_
    refine lv_iload_n hx hb d_R_next_25 rfl (lv_at hl 4 rfl) ?_
    refine lv_icmp_ge (tgt := 50) hx hb d_R_next_26 (by decide) (fun z => ?_) (fun z => ?_)
    · have hr0 : r = 0 := by have := (nI_leI (by omega) (by omega)).mp z; omega
      rw [goN_stop (Or.inl hr0)] at hG
      subst hG
      exact kk ls (lv_sub hl [1] rfl)
    · have hr0 : ¬ r = 0 := by have := mt (nI_leI (a := N) (b := q) (by omega) (by omega)).mpr z; omega
      refine lv_iload_n hx hb d_R_next_29 rfl (lv_at hl 1 rfl) ?_
      refine lv_sipush (v := nI 254) hx hb d_R_next_30 (by decide) ?_
      refine lv_icmp_gt (tgt := 50) hx hb d_R_next_33 (by decide) (fun z2 => ?_) (fun z2 => ?_)
      · have h255 : 255 ≤ h := by have := (nI_ltI (by omega) (by omega)).mp z2; omega
        rw [goN_stop (Or.inr h255)] at hG
        subst hG
        exact kk ls (lv_sub hl [1] rfl)
      · have h255 : ¬ 255 ≤ h := by have := mt (nI_ltI (a := 254) (b := h) (by omega) (by omega)).mpr z2; omega
        rw [goN, if_neg (by omega)] at hG
        have hb4 := bt_24 str h
        refine lv_iload_n hx hb d_R_next_36 rfl (lv_at hl 1 rfl) ?_
        refine lv_aload_n hx hb d_R_next_37 rfl (lv_at hl 2 rfl) ?_
        refine lv_iload_n hx hb d_R_next_38 rfl (lv_at hl 1 rfl) ?_
        refine call_R_bytesAt S hTs m_686 ⟨by omega, by omega⟩ hl.1 (Nat.le_of_ble_eq_true rfl) d_R_next_39 hc hK hC hS hw ?_
        refine lv_iadd hx hb d_R_next_42 ?_
        refine lv_topi (fun y ey => ?_)
        rw [cl_bytes (by omega), nI_add] at ey
        refine lv_istore_n (lv' := [(3, .int y), (4, .int (nI q)), (0, .ref r0), (1, .int a), (2, .int (nI N))]) hx hb d_R_next_43 rfl hl (by decide) rfl (fun ls hl => ?_)
        subst ey
        refine lv_iinc (v := nI (q + 1)) (lv' := [(4, .int (nI (q + 1))), (3, .int (nI (h + bt str h))), (0, .ref r0), (1, .int a), (2, .int (nI N))]) hx hb d_R_next_44 hl (k := 1) rfl (nI_inc q) (by decide) rfl (fun ls hl => ?_)
        refine lv_goto (tgt := 23) hx hb d_R_next_47 (by decide) ?_
        exact ih (h + bt str h) (q + 1) (r - 1) (by omega) (by omega) (by omega) hG ls hl

set_option maxRecDepth 100000 in
set_option maxHeartbeats 4000000 in
theorem c_R_next (l : Launch) (adE adK adV : Nat → Nat) (dC : Nat → ClassId) (dI : Nat → Nat → Nat) (cI cC : ClassId) (r0 r1 r2 r3 : Nat) (str : Nat → Int32) (tb ti tp : Int32) (v : List Int32) (a N : Nat) : Met l y_R_next (Cond.code y_R_next b_R_next 5 (some .int) :: WT) ({ frames := 4, cells := 0, slots := 0, locals := 83 }) (va_Pc [.ref r0, .int (nI a), .int (nI N)] (fun U => rK dC dI cI cC U ∧ cx adE adK adV no U U.heap ∧ rwd dC dI cI cC r0 r1 r2 r3 str tb ti tp v U.heap ∧ a < 256 ∧ N < 2 ^ 31)) (vp_Si (fun r => r = endN (goN str 128 N a))) 0 0 no := by
  refine va_MetF (cc := b_R_next) (maxL := 5) (ret := (some .int)) (by decide +kernel) rfl ?_
  intro p e s m args below meth c s₁ B hml hv
  obtain ⟨rfl, hK, hC, hw, ha, hN⟩ := hv
  have hx := B.exec
  have hb := B.bytes
  have hr := B.returns
  have hts := atoms_spec (ws := (Cond.code y_R_next b_R_next 5 (some .int) :: WT)) B.pre
  have hT : ∀ w ∈ WT, w.before _ s = true := fun w h => hts w (inC w h)
  have hown : s.vm.findClass R_R = some m.cls := findClass_of_methodNamed B.named
  have hlocks := B.notSynchronized
  have hS : va_S no s.heap s.heap [] := va_S.rf
  have S : CallFix p m c b_R_next 5 s _ (Cond.code y_R_next b_R_next 5 (some .int) :: WT) R_R := ⟨hx, hb, hml, hown, hts⟩
  have hl := lv_entry ([.ref r0, .int (nI a), .int (nI N)]) (n := 5) (Nat.le_of_ble_eq_true rfl)
  rw [lg_entry_eq]
  generalize (lg_sl ([.ref r0, .int (nI a), .int (nI N)]) ++ List.replicate (5 - (lg_sl ([.ref r0, .int (nI a), .int (nI N)])).length) Slot.unset).toArray = ls at hl ⊢
  have hl : lv_has ls 5 [(0, .ref r0), (1, .int (nI a)), (2, .int (nI N))] := hl
  have had : ¬ f_R_isAddress (nI a) = 0 := by rw [cl_adr ha]; decide
  refine lv_iload_n hx hb d_R_next_0 rfl (lv_at hl 1 rfl) ?_
  refine call_R_demandAddress S inC m_668 ⟨(Nat.le_of_ble_eq_true rfl), (Nat.le_of_ble_eq_true rfl)⟩ hl.1 (Nat.le_of_ble_eq_true rfl) d_R_next_1 ⟨(Nat.le_of_ble_eq_true rfl), (Nat.le_of_ble_eq_true rfl)⟩ had ?_
  refine lv_iload_n hx hb d_R_next_4 rfl (lv_at hl 2 rfl) ?_
  refine lv_if_ge (tgt := 18) hx hb d_R_next_5 (by decide) (fun _ => ?_) (fun h => absurd (nI_pos' hN) h)
  refine lv_iload_n hx hb d_R_next_18 rfl (lv_at hl 1 rfl) ?_
  refine lv_istore_n (lv' := [(3, .int (nI a)), (0, .ref r0), (1, .int (nI a)), (2, .int (nI N))]) hx hb d_R_next_19 rfl hl (by decide) rfl (fun ls hl => ?_)
  refine lv_iconst (v := 0) hx hb d_R_next_20 (by decide) ?_
  refine lv_istore (lv' := [(4, .int 0), (3, .int (nI a)), (0, .ref r0), (1, .int (nI a)), (2, .int (nI N))]) hx hb d_R_next_21 hl (by decide) rfl (fun ls hl => ?_)
  refine lp_R_next (G := goN str 128 N a) S inC hT (Nat.le_of_ble_eq_true rfl) (Nat.le_of_ble_eq_true rfl) ⟨(Nat.le_of_ble_eq_true rfl), (Nat.le_of_ble_eq_true rfl)⟩ hK hC hS hw hN (fun ls hl => ?_) 128 a 0 N (by omega) (by omega) (by omega) rfl ls hl
  have hG := goN_le str 128 N a (by omega)
  refine lv_iload_n hx hb d_R_next_50 rfl (lv_at hl 0 rfl) ?_
  refine lv_sipush (v := nI 254) hx hb d_R_next_51 (by decide) ?_
  refine lv_icmp_gt (tgt := 61) hx hb d_R_next_54 (by decide) (fun z => ?_) (fun z => ?_)
  · have h255 : 255 ≤ goN str 128 N a := by have := (nI_ltI (by omega) (by omega)).mp z; omega
    refine lv_iconst (v := -1) hx hb d_R_next_61 (by decide) ?_
    exact W.iret (v := -1) hx hb hr (fun t ht hW => ⟨_, rfl, by rw [endN, if_pos h255], ht⟩) (fun _ h => by cases h) d_R_next_62
  · have h255 : ¬ 255 ≤ goN str 128 N a := by have := mt (nI_ltI (a := 254) (b := goN str 128 N a) (by omega) (by omega)).mpr z; omega
    refine lv_iload_n hx hb d_R_next_57 rfl (lv_at hl 0 rfl) ?_
    refine lv_goto (tgt := 62) hx hb d_R_next_58 (by decide) ?_
    exact W.iret (v := nI (goN str 128 N a)) hx hb hr (fun t ht hW => ⟨_, rfl, by rw [endN, if_neg h255], ht⟩) (fun _ h => by cases h) d_R_next_62

theorem call_R_next {p : Program} {l : Launch} {e : Env} {R : Room} {s : State} {m : MethodId} {args : Array Value} {below : List Frame} {meth : Method} {c : Code} {H : Heap} {locs : List Loc} {cells slots : Nat} {Q : State → Prop} {cc : ByteArray} {pc nL idx : Nat} {ls : Array Slot} {rest : List Value} {Ts : List Cond} {own : String} {adE adK adV : Nat → Nat} {A0 : Nat → Prop} {dC : Nat → ClassId} {dI : Nat → Nat → Nat} {cI cC : ClassId} {r0 r1 r2 r3 : Nat} {str : Nat → Int32} {tb ti tp : Int32} {v : List Int32} {a N : Nat} (S : CallFix p m c cc nL s args Ts own) (hTs : ∀ w ∈ WT, w ∈ Ts) (hlk : Cond.methodLink own idx y_R_next ∈ WT) (hR : 4 + 1 ≤ R.frames ∧ 8 + (5 + 11) + 83 ≤ R.locals) (hsz : ls.size = nL) (hrm : (rest.map fun v => v.category).sum ≤ 8) (hdg : decode cc pc = .ok (.invokevirtual idx, 3)) (hc : cells ≤ R.cells ∧ slots ≤ R.slots) (hK : rK dC dI cI cC s) (hC : cx adE adK adV A0 s s.heap) (hS : va_S A0 s.heap H locs) (hw : rwd dC dI cI cC r0 r1 r2 r3 str tb ti tp v H) (ha : a < 256) (hN : N < 2 ^ 31) (kk : W p l e R s m args below meth c H locs cells slots Q (F0 m (pc + 3) ls (.int (endN (goN str 128 N a)) :: rest))) : W p l e R s m args below meth c H locs cells slots Q (F0 m pc ls (.int (nI N) :: .int (nI a) :: .ref r0 :: rest)) :=
  vp_callSi (va_Run.run (va_runV (As := [.int (nI a), .int (nI N)]) (rest := rest) S (c_R_next l adE adK adV dC dI cI cC r0 r1 r2 r3 str tb ti tp v a N) (cwV 2 S.2.2.2.2 (gV hTs hlk m_711 m_712 m_50 m_713) rfl rfl rfl (by decide +kernel) hR) ⟨fun a U g mk q => ⟨q.1, va_K.moved (u := U) (U := U.calling g mk a) (Vm.Alike.refl U.vm) q.2.1, q.2.2.1.blind, q.2.2.2.1, q.2.2.2.2⟩, rwd.recv hK hw, fun U hU hW => ⟨rfl, va_K.moved hW.alike hK, hC.at hS no_in hU hW, by rw [hU]; exact hw, ha, hN⟩⟩ rfl rfl hsz rfl (lv_room hrm) hdg hc)) (fun r e => by subst e; exact kk)

set_option maxRecDepth 100000 in
set_option maxHeartbeats 4000000 in
theorem lp_R_before {p : Program} {l : Launch} {e : Env} {R : Room} {s : State} {m : MethodId} {args : Array Value} {below : List Frame} {meth : Method} {c : Code} {cells slots : Nat} {Q : State → Prop} {Ts : List Cond} {adE adK adV : Nat → Nat} {A0 : Nat → Prop} {H : Heap} {locs : List Loc} {dC : Nat → ClassId} {dI : Nat → Nat → Nat} {cI cC : ClassId} {r0 r1 r2 r3 : Nat} {str : Nat → Int32} {tb ti tp : Int32} {v : List Int32} {a G : Int32} {D : Nat} (S : CallFix p m c b_R_before 5 s args Ts R_R) (hTs : ∀ w ∈ WT, w ∈ Ts) (hT : ∀ w ∈ WT, w.before args s = true) (hfr : 4 ≤ R.frames) (hlo : 83 ≤ R.locals) (hc : cells ≤ R.cells ∧ slots ≤ R.slots) (hK : rK dC dI cI cC s) (hC : cx adE adK adV A0 s s.heap) (hS : va_S A0 s.heap H locs) (hw : rwd dC dI cI cC r0 r1 r2 r3 str tb ti tp v H) (hD : D < 256)
    (kk : ∀ (ls : Array Slot), lv_has ls 5 [(3, .int G)] → W p l e R s m args below meth c H locs cells slots Q (F0 m 52 ls [])) :
    ∀ (k h : Nat) (z : Int32), 255 ≤ h + 2 * k → h ≤ 258 → goB str k D h z = G → ∀ (ls : Array Slot), lv_has ls 5 [(4, .int (nI h)), (3, .int z), (0, .ref r0), (1, .int a), (2, .int (nI D))] → W p l e R s m args below meth c H locs cells slots Q (F0 m 13 ls []) := by
  have hx := S.1
  have hb := S.2.1
  have hown := S.2.2.2.1
  intro k
  induction k with
  | zero =>
    intro h z hk hh hG ls hl
    rw [goB_stop (Or.inr (by omega))] at hG
    subst hG
    refine lv_iload hx hb d_R_before_13 (lv_at hl 0 rfl) ?_
    refine lv_iload_n hx hb d_R_before_15 rfl (lv_at hl 4 rfl) ?_
    exact lv_icmp_ge (tgt := 52) hx hb d_R_before_16 (by decide) (fun _ => kk ls (lv_sub hl [1] rfl)) (fun q => absurd (nI_le (by omega) (by omega)) q)
  | succ k ih =>
    intro h z hk hh hG ls hl
    refine lv_iload hx hb d_R_before_13 (lv_at hl 0 rfl) ?_
    refine lv_iload_n hx hb d_R_before_15 rfl (lv_at hl 4 rfl) ?_
    refine lv_icmp_ge (tgt := 52) hx hb d_R_before_16 (by decide) (fun q => ?_) (fun q => ?_)
    · rw [goB_stop (Or.inl ((nI_leI (by omega) (by omega)).mp q))] at hG
      subst hG
      exact kk ls (lv_sub hl [1] rfl)
    · have hlt : ¬ D ≤ h := mt (nI_leI (a := D) (b := h) (by omega) (by omega)).mpr q
      refine lv_iload hx hb d_R_before_19 (lv_at hl 0 rfl) ?_
      refine lv_sipush (v := nI 254) hx hb d_R_before_21 (by decide) ?_
      refine lv_icmp_gt (tgt := 52) hx hb d_R_before_24 (by decide) (fun z2 => ?_) (fun z2 => ?_)
      · have h255 : 255 ≤ h := by have := (nI_ltI (by omega) (by omega)).mp z2; omega
        rw [goB_stop (Or.inr h255)] at hG
        subst hG
        exact kk ls (lv_sub hl [1] rfl)
      · have h255 : ¬ 255 ≤ h := by have := mt (nI_ltI (a := 254) (b := h) (by omega) (by omega)).mpr z2; omega
        rw [goB, if_neg (by omega)] at hG
        have hb4 := bt_24 str h
        refine lv_iload hx hb d_R_before_27 (lv_at hl 0 rfl) ?_
        refine lv_istore_n (lv' := [(3, .int (nI h)), (4, .int (nI h)), (0, .ref r0), (1, .int a), (2, .int (nI D))]) hx hb d_R_before_29 rfl hl (by decide) rfl (fun ls hl => ?_)
        refine lv_iload hx hb d_R_before_30 (lv_at hl 1 rfl) ?_
        refine lv_aload_n hx hb d_R_before_32 rfl (lv_at hl 2 rfl) ?_
        refine lv_iload hx hb d_R_before_33 (lv_at hl 1 rfl) ?_
        have s46 : ∀ (u : Int32), u = nI (bt str h) → W p l e R s m args below meth c H locs cells slots Q (F0 m 46 ls [.int u, .int (nI h)]) := by
          intro u eu
          subst eu
          refine lv_iadd hx hb d_R_before_46 ?_
          refine lv_topi (fun y ey => ?_)
          rw [nI_add] at ey
          refine lv_istore (lv' := [(4, .int y), (3, .int (nI h)), (0, .ref r0), (1, .int a), (2, .int (nI D))]) hx hb d_R_before_47 hl (by decide) rfl (fun ls hl => ?_)
          subst ey
          refine lv_goto (tgt := 13) hx hb d_R_before_49 (by decide) ?_
          exact ih (h + bt str h) (nI h) (by omega) (by omega) hG ls hl
        refine call_R_isLongAt S hTs m_690 ⟨by omega, by omega⟩ hl.1 (Nat.le_of_ble_eq_true rfl) d_R_before_35 hc hK hC hS hw ?_
        refine lv_if_eq (tgt := 45) hx hb d_R_before_38 (by decide) (fun q3 => ?_) (fun q3 => ?_)
        · refine lv_iconst (v := 2) hx hb d_R_before_45 (by decide) ?_
          exact s46 2 (cl_l0 (by omega) q3)
        · refine lv_iconst (v := 4) hx hb d_R_before_41 (by decide) ?_
          refine lv_goto (tgt := 46) hx hb d_R_before_42 (by decide) ?_
          exact s46 4 (cl_l1 (by omega) q3)

set_option maxRecDepth 100000 in
set_option maxHeartbeats 4000000 in
theorem c_R_before (l : Launch) (adE adK adV : Nat → Nat) (dC : Nat → ClassId) (dI : Nat → Nat → Nat) (cI cC : ClassId) (r0 r1 r2 r3 : Nat) (str : Nat → Int32) (tb ti tp : Int32) (v : List Int32) (a D : Nat) : Met l y_R_before (Cond.code y_R_before b_R_before 5 (some .int) :: WT) ({ frames := 4, cells := 0, slots := 0, locals := 83 }) (va_Pc [.ref r0, .int (nI a), .int (nI D)] (fun U => rK dC dI cI cC U ∧ cx adE adK adV no U U.heap ∧ rwd dC dI cI cC r0 r1 r2 r3 str tb ti tp v U.heap ∧ a < 256 ∧ D < 256)) (vp_Si (fun r => r = goB str 128 D a (-1))) 0 0 no := by
  refine va_MetF (cc := b_R_before) (maxL := 5) (ret := (some .int)) (by decide +kernel) rfl ?_
  intro p e s m args below meth c s₁ B hml hv
  obtain ⟨rfl, hK, hC, hw, ha, hD⟩ := hv
  have hx := B.exec
  have hb := B.bytes
  have hr := B.returns
  have hts := atoms_spec (ws := (Cond.code y_R_before b_R_before 5 (some .int) :: WT)) B.pre
  have hT : ∀ w ∈ WT, w.before _ s = true := fun w h => hts w (inC w h)
  have hown : s.vm.findClass R_R = some m.cls := findClass_of_methodNamed B.named
  have hlocks := B.notSynchronized
  have hS : va_S no s.heap s.heap [] := va_S.rf
  have S : CallFix p m c b_R_before 5 s _ (Cond.code y_R_before b_R_before 5 (some .int) :: WT) R_R := ⟨hx, hb, hml, hown, hts⟩
  have hl := lv_entry ([.ref r0, .int (nI a), .int (nI D)]) (n := 5) (Nat.le_of_ble_eq_true rfl)
  rw [lg_entry_eq]
  generalize (lg_sl ([.ref r0, .int (nI a), .int (nI D)]) ++ List.replicate (5 - (lg_sl ([.ref r0, .int (nI a), .int (nI D)])).length) Slot.unset).toArray = ls at hl ⊢
  have hl : lv_has ls 5 [(0, .ref r0), (1, .int (nI a)), (2, .int (nI D))] := hl
  have had : ¬ f_R_isAddress (nI a) = 0 := by rw [cl_adr ha]; decide
  have had2 : ¬ f_R_isAddress (nI D) = 0 := by rw [cl_adr hD]; decide
  refine lv_iload_n hx hb d_R_before_0 rfl (lv_at hl 1 rfl) ?_
  refine call_R_demandAddress S inC m_668 ⟨(Nat.le_of_ble_eq_true rfl), (Nat.le_of_ble_eq_true rfl)⟩ hl.1 (Nat.le_of_ble_eq_true rfl) d_R_before_1 ⟨(Nat.le_of_ble_eq_true rfl), (Nat.le_of_ble_eq_true rfl)⟩ had ?_
  refine lv_iload_n hx hb d_R_before_4 rfl (lv_at hl 2 rfl) ?_
  refine call_R_demandAddress S inC m_668 ⟨(Nat.le_of_ble_eq_true rfl), (Nat.le_of_ble_eq_true rfl)⟩ hl.1 (Nat.le_of_ble_eq_true rfl) d_R_before_5 ⟨(Nat.le_of_ble_eq_true rfl), (Nat.le_of_ble_eq_true rfl)⟩ had2 ?_
  refine lv_iconst (v := -1) hx hb d_R_before_8 (by decide) ?_
  refine lv_istore_n (lv' := [(3, .int (-1)), (0, .ref r0), (1, .int (nI a)), (2, .int (nI D))]) hx hb d_R_before_9 rfl hl (by decide) rfl (fun ls hl => ?_)
  refine lv_iload_n hx hb d_R_before_10 rfl (lv_at hl 2 rfl) ?_
  refine lv_istore (lv' := [(4, .int (nI a)), (3, .int (-1)), (0, .ref r0), (1, .int (nI a)), (2, .int (nI D))]) hx hb d_R_before_11 hl (by decide) rfl (fun ls hl => ?_)
  refine lp_R_before (G := goB str 128 D a (-1)) S inC hT (Nat.le_of_ble_eq_true rfl) (Nat.le_of_ble_eq_true rfl) ⟨(Nat.le_of_ble_eq_true rfl), (Nat.le_of_ble_eq_true rfl)⟩ hK hC hS hw hD (fun ls hl => ?_) 128 a (-1) (by omega) (by omega) rfl ls hl
  refine lv_iload_n hx hb d_R_before_52 rfl (lv_at hl 0 rfl) ?_
  exact W.iret (v := goB str 128 D a (-1)) hx hb hr (fun t ht hW => ⟨_, rfl, rfl, ht⟩) (fun _ h => by cases h) d_R_before_53

theorem call_R_before {p : Program} {l : Launch} {e : Env} {R : Room} {s : State} {m : MethodId} {args : Array Value} {below : List Frame} {meth : Method} {c : Code} {H : Heap} {locs : List Loc} {cells slots : Nat} {Q : State → Prop} {cc : ByteArray} {pc nL idx : Nat} {ls : Array Slot} {rest : List Value} {Ts : List Cond} {own : String} {adE adK adV : Nat → Nat} {A0 : Nat → Prop} {dC : Nat → ClassId} {dI : Nat → Nat → Nat} {cI cC : ClassId} {r0 r1 r2 r3 : Nat} {str : Nat → Int32} {tb ti tp : Int32} {v : List Int32} {a D : Nat} (S : CallFix p m c cc nL s args Ts own) (hTs : ∀ w ∈ WT, w ∈ Ts) (hlk : Cond.methodLink own idx y_R_before ∈ WT) (hR : 4 + 1 ≤ R.frames ∧ 8 + (5 + 11) + 83 ≤ R.locals) (hsz : ls.size = nL) (hrm : (rest.map fun v => v.category).sum ≤ 8) (hdg : decode cc pc = .ok (.invokevirtual idx, 3)) (hc : cells ≤ R.cells ∧ slots ≤ R.slots) (hK : rK dC dI cI cC s) (hC : cx adE adK adV A0 s s.heap) (hS : va_S A0 s.heap H locs) (hw : rwd dC dI cI cC r0 r1 r2 r3 str tb ti tp v H) (ha : a < 256) (hD : D < 256) (kk : W p l e R s m args below meth c H locs cells slots Q (F0 m (pc + 3) ls (.int (goB str 128 D a (-1)) :: rest))) : W p l e R s m args below meth c H locs cells slots Q (F0 m pc ls (.int (nI D) :: .int (nI a) :: .ref r0 :: rest)) :=
  vp_callSi (va_Run.run (va_runV (As := [.int (nI a), .int (nI D)]) (rest := rest) S (c_R_before l adE adK adV dC dI cI cC r0 r1 r2 r3 str tb ti tp v a D) (cwV 2 S.2.2.2.2 (gV hTs hlk m_734 m_735 m_50 m_736) rfl rfl rfl (by decide +kernel) hR) ⟨fun a U g mk q => ⟨q.1, va_K.moved (u := U) (U := U.calling g mk a) (Vm.Alike.refl U.vm) q.2.1, q.2.2.1.blind, q.2.2.2.1, q.2.2.2.2⟩, rwd.recv hK hw, fun U hU hW => ⟨rfl, va_K.moved hW.alike hK, hC.at hS no_in hU hW, by rw [hU]; exact hw, ha, hD⟩⟩ rfl rfl hsz rfl (lv_room hrm) hdg hc)) (fun r e => by subst e; exact kk)

set_option maxRecDepth 100000 in
set_option maxHeartbeats 4000000 in
theorem lp_R_numbers {p : Program} {l : Launch} {e : Env} {R : Room} {s : State} {m : MethodId} {args : Array Value} {below : List Frame} {meth : Method} {c : Code} {cells slots : Nat} {Q : State → Prop} {Ts : List Cond} {adE adK adV : Nat → Nat} {A0 : Nat → Prop} {H : Heap} {locs : List Loc} {dC : Nat → ClassId} {dI : Nat → Nat → Nat} {cI cC : ClassId} {r0 r1 r2 r3 : Nat} {str : Nat → Int32} {tb ti tp : Int32} {v : List Int32} {a : Int32} {G : Nat} (S : CallFix p m c b_R_numbers 4 s args Ts R_R) (hTs : ∀ w ∈ WT, w ∈ Ts) (hT : ∀ w ∈ WT, w.before args s = true) (hfr : 6 ≤ R.frames) (hlo : 125 ≤ R.locals) (hc : cells ≤ R.cells ∧ slots ≤ R.slots) (hK : rK dC dI cI cC s) (hC : cx adE adK adV A0 s s.heap) (hS : va_S A0 s.heap H locs) (hw : rwd dC dI cI cC r0 r1 r2 r3 str tb ti tp v H)
    (kk : ∀ (ls : Array Slot), lv_has ls 4 [(2, .int (nI G))] → W p l e R s m args below meth c H locs cells slots Q (F0 m 59 ls [])) :
    ∀ (k h z : Nat), 255 ≤ h + 2 * k → h ≤ 258 → goC str k h z = G → ∀ (ls : Array Slot), lv_has ls 4 [(3, .int (nI h)), (2, .int (nI z)), (0, .ref r0), (1, .int a)] → W p l e R s m args below meth c H locs cells slots Q (F0 m 8 ls []) := by
  have hx := S.1
  have hb := S.2.1
  have hown := S.2.2.2.1
  intro k
  induction k with
  | zero =>
    intro h z hk hh hG ls hl
    rw [goC_stop (by omega)] at hG
    subst hG
    refine lv_iload_n hx hb d_R_numbers_8 rfl (lv_at hl 0 rfl) ?_
    refine lv_sipush (v := nI 254) hx hb d_R_numbers_9 (by decide) ?_
    exact lv_icmp_gt (tgt := 59) hx hb d_R_numbers_12 (by decide) (fun _ => kk ls (lv_sub hl [1] rfl)) (fun q => absurd (nI_lt (by omega) (by omega)) q)
  | succ k ih =>
    intro h z hk hh hG ls hl
    refine lv_iload_n hx hb d_R_numbers_8 rfl (lv_at hl 0 rfl) ?_
    refine lv_sipush (v := nI 254) hx hb d_R_numbers_9 (by decide) ?_
    refine lv_icmp_gt (tgt := 59) hx hb d_R_numbers_12 (by decide) (fun z2 => ?_) (fun z2 => ?_)
    · have h255 : 255 ≤ h := by have := (nI_ltI (by omega) (by omega)).mp z2; omega
      rw [goC_stop h255] at hG
      subst hG
      exact kk ls (lv_sub hl [1] rfl)
    · have h255 : ¬ 255 ≤ h := by have := mt (nI_ltI (a := 254) (b := h) (by omega) (by omega)).mpr z2; omega
      rw [goC, if_neg (by omega)] at hG
      have hb4 := bt_24 str h
      have nx : ∀ (z' : Nat), goC str k (h + bt str h) z' = G → ∀ (ls : Array Slot), lv_has ls 4 [(3, .int (nI h)), (2, .int (nI z')), (0, .ref r0), (1, .int a)] → W p l e R s m args below meth c H locs cells slots Q (F0 m 40 ls []) := by
        intro z' hG ls hl
        refine lv_iload_n hx hb d_R_numbers_40 rfl (lv_at hl 0 rfl) ?_
        refine lv_aload_n hx hb d_R_numbers_41 rfl (lv_at hl 2 rfl) ?_
        refine lv_iload_n hx hb d_R_numbers_42 rfl (lv_at hl 0 rfl) ?_
        have s54 : ∀ (u : Int32), u = nI (bt str h) → W p l e R s m args below meth c H locs cells slots Q (F0 m 54 ls [.int u, .int (nI h)]) := by
          intro u eu
          subst eu
          refine lv_iadd hx hb d_R_numbers_54 ?_
          refine lv_topi (fun y ey => ?_)
          rw [nI_add] at ey
          refine lv_istore_n (lv' := [(3, .int y), (2, .int (nI z')), (0, .ref r0), (1, .int a)]) hx hb d_R_numbers_55 rfl hl (by decide) rfl (fun ls hl => ?_)
          subst ey
          refine lv_goto (tgt := 8) hx hb d_R_numbers_56 (by decide) ?_
          exact ih (h + bt str h) z' (by omega) (by omega) hG ls hl
        refine call_R_isLongAt S hTs m_690 ⟨by omega, by omega⟩ hl.1 (Nat.le_of_ble_eq_true rfl) d_R_numbers_43 hc hK hC hS hw ?_
        refine lv_if_eq (tgt := 53) hx hb d_R_numbers_46 (by decide) (fun q3 => ?_) (fun q3 => ?_)
        · refine lv_iconst (v := 2) hx hb d_R_numbers_53 (by decide) ?_
          exact s54 2 (cl_l0 (by omega) q3)
        · refine lv_iconst (v := 4) hx hb d_R_numbers_49 (by decide) ?_
          refine lv_goto (tgt := 54) hx hb d_R_numbers_50 (by decide) ?_
          exact s54 4 (cl_l1 (by omega) q3)
      refine lv_aload_n hx hb d_R_numbers_15 rfl (lv_at hl 2 rfl) ?_
      refine lv_iload_n hx hb d_R_numbers_16 rfl (lv_at hl 0 rfl) ?_
      refine call_R_isWholeAt S hTs m_682 ⟨by omega, by omega⟩ hl.1 (Nat.le_of_ble_eq_true rfl) d_R_numbers_17 hc hK hC hS hw ?_
      refine lv_if_eq (tgt := 40) hx hb d_R_numbers_20 (by decide) (fun q => ?_) (fun q => ?_)
      · exact nx z (by rw [← hG, cN, if_pos q]; rfl) ls hl
      · refine lv_aload_n hx hb d_R_numbers_23 rfl (lv_at hl 2 rfl) ?_
        refine lv_iload_n hx hb d_R_numbers_24 rfl (lv_at hl 0 rfl) ?_
        refine call_R_bitsAt S hTs m_698 ⟨by omega, by omega⟩ hl.1 (Nat.le_of_ble_eq_true rfl) d_R_numbers_25 hc hK hC hS hw ?_
        refine call_R_kindOf S hTs m_119 ⟨by omega, by omega⟩ hl.1 (Nat.le_of_ble_eq_true rfl) d_R_numbers_28 hc hC hS ?_
        refine call_K_isInstruction S hTs m_561 ⟨by omega, by omega⟩ hl.1 (Nat.le_of_ble_eq_true rfl) d_R_numbers_31 hc hC hS (kl_R_kindOf _) ?_
        refine lv_if_ne (tgt := 40) hx hb d_R_numbers_34 (by decide) (fun q2 => ?_) (fun q2 => ?_)
        · exact nx z (by rw [← hG, cN, if_neg q, if_neg q2]; rfl) ls hl
        · refine lv_iinc (v := nI (z + 1)) (lv' := [(2, .int (nI (z + 1))), (3, .int (nI h)), (0, .ref r0), (1, .int a)]) hx hb d_R_numbers_37 hl (k := 1) rfl (nI_inc z) (by decide) rfl (fun ls hl => ?_)
          exact nx (z + 1) (by rw [← hG, cN, if_neg q, if_pos q2]) ls (lv_sub hl [1, 0, 2, 3] rfl)

set_option maxRecDepth 100000 in
set_option maxHeartbeats 4000000 in
theorem c_R_numbers (l : Launch) (adE adK adV : Nat → Nat) (dC : Nat → ClassId) (dI : Nat → Nat → Nat) (cI cC : ClassId) (r0 r1 r2 r3 : Nat) (str : Nat → Int32) (tb ti tp : Int32) (v : List Int32) (a : Nat) : Met l y_R_numbers (Cond.code y_R_numbers b_R_numbers 4 (some .int) :: WT) ({ frames := 6, cells := 0, slots := 0, locals := 125 }) (va_Pc [.ref r0, .int (nI a)] (fun U => rK dC dI cI cC U ∧ cx adE adK adV no U U.heap ∧ rwd dC dI cI cC r0 r1 r2 r3 str tb ti tp v U.heap ∧ a < 256)) (vp_Si (fun r => r = nI (goC str 128 a 0))) 0 0 no := by
  refine va_MetF (cc := b_R_numbers) (maxL := 4) (ret := (some .int)) (by decide +kernel) rfl ?_
  intro p e s m args below meth c s₁ B hml hv
  obtain ⟨rfl, hK, hC, hw, ha⟩ := hv
  have hx := B.exec
  have hb := B.bytes
  have hr := B.returns
  have hts := atoms_spec (ws := (Cond.code y_R_numbers b_R_numbers 4 (some .int) :: WT)) B.pre
  have hT : ∀ w ∈ WT, w.before _ s = true := fun w h => hts w (inC w h)
  have hown : s.vm.findClass R_R = some m.cls := findClass_of_methodNamed B.named
  have hlocks := B.notSynchronized
  have hS : va_S no s.heap s.heap [] := va_S.rf
  have S : CallFix p m c b_R_numbers 4 s _ (Cond.code y_R_numbers b_R_numbers 4 (some .int) :: WT) R_R := ⟨hx, hb, hml, hown, hts⟩
  have hl := lv_entry ([.ref r0, .int (nI a)]) (n := 4) (Nat.le_of_ble_eq_true rfl)
  rw [lg_entry_eq]
  generalize (lg_sl ([.ref r0, .int (nI a)]) ++ List.replicate (4 - (lg_sl ([.ref r0, .int (nI a)])).length) Slot.unset).toArray = ls at hl ⊢
  have hl : lv_has ls 4 [(0, .ref r0), (1, .int (nI a))] := hl
  have had : ¬ f_R_isAddress (nI a) = 0 := by rw [cl_adr ha]; decide
  refine lv_iload_n hx hb d_R_numbers_0 rfl (lv_at hl 1 rfl) ?_
  refine call_R_demandAddress S inC m_668 ⟨(Nat.le_of_ble_eq_true rfl), (Nat.le_of_ble_eq_true rfl)⟩ hl.1 (Nat.le_of_ble_eq_true rfl) d_R_numbers_1 ⟨(Nat.le_of_ble_eq_true rfl), (Nat.le_of_ble_eq_true rfl)⟩ had ?_
  refine lv_iconst (v := 0) hx hb d_R_numbers_4 (by decide) ?_
  refine lv_istore_n (lv' := [(2, .int 0), (0, .ref r0), (1, .int (nI a))]) hx hb d_R_numbers_5 rfl hl (by decide) rfl (fun ls hl => ?_)
  refine lv_iload_n hx hb d_R_numbers_6 rfl (lv_at hl 2 rfl) ?_
  refine lv_istore_n (lv' := [(3, .int (nI a)), (2, .int 0), (0, .ref r0), (1, .int (nI a))]) hx hb d_R_numbers_7 rfl hl (by decide) rfl (fun ls hl => ?_)
  refine lp_R_numbers (G := goC str 128 a 0) S inC hT (Nat.le_of_ble_eq_true rfl) (Nat.le_of_ble_eq_true rfl) ⟨(Nat.le_of_ble_eq_true rfl), (Nat.le_of_ble_eq_true rfl)⟩ hK hC hS hw (fun ls hl => ?_) 128 a 0 (by omega) (by omega) rfl ls hl
  refine lv_iload_n hx hb d_R_numbers_59 rfl (lv_at hl 0 rfl) ?_
  exact W.iret (v := nI (goC str 128 a 0)) hx hb hr (fun t ht hW => ⟨_, rfl, rfl, ht⟩) (fun _ h => by cases h) d_R_numbers_60

theorem call_R_numbers {p : Program} {l : Launch} {e : Env} {R : Room} {s : State} {m : MethodId} {args : Array Value} {below : List Frame} {meth : Method} {c : Code} {H : Heap} {locs : List Loc} {cells slots : Nat} {Q : State → Prop} {cc : ByteArray} {pc nL idx : Nat} {ls : Array Slot} {rest : List Value} {Ts : List Cond} {own : String} {adE adK adV : Nat → Nat} {A0 : Nat → Prop} {dC : Nat → ClassId} {dI : Nat → Nat → Nat} {cI cC : ClassId} {r0 r1 r2 r3 : Nat} {str : Nat → Int32} {tb ti tp : Int32} {v : List Int32} {a : Nat} (S : CallFix p m c cc nL s args Ts own) (hTs : ∀ w ∈ WT, w ∈ Ts) (hlk : Cond.methodLink own idx y_R_numbers ∈ WT) (hR : 6 + 1 ≤ R.frames ∧ 8 + (4 + 11) + 125 ≤ R.locals) (hsz : ls.size = nL) (hrm : (rest.map fun v => v.category).sum ≤ 8) (hdg : decode cc pc = .ok (.invokevirtual idx, 3)) (hc : cells ≤ R.cells ∧ slots ≤ R.slots) (hK : rK dC dI cI cC s) (hC : cx adE adK adV A0 s s.heap) (hS : va_S A0 s.heap H locs) (hw : rwd dC dI cI cC r0 r1 r2 r3 str tb ti tp v H) (ha : a < 256) (kk : W p l e R s m args below meth c H locs cells slots Q (F0 m (pc + 3) ls (.int (nI (goC str 128 a 0)) :: rest))) : W p l e R s m args below meth c H locs cells slots Q (F0 m pc ls (.int (nI a) :: .ref r0 :: rest)) :=
  vp_callSi (va_Run.run (va_runV (As := [.int (nI a)]) (rest := rest) S (c_R_numbers l adE adK adV dC dI cI cC r0 r1 r2 r3 str tb ti tp v a) (cwV 1 S.2.2.2.2 (gV hTs hlk m_741 m_742 m_50 m_743) rfl rfl rfl (by decide +kernel) hR) ⟨fun a U g mk q => ⟨q.1, va_K.moved (u := U) (U := U.calling g mk a) (Vm.Alike.refl U.vm) q.2.1, q.2.2.1.blind, q.2.2.2.1, q.2.2.2.2⟩, rwd.recv hK hw, fun U hU hW => ⟨rfl, va_K.moved hW.alike hK, hC.at hS no_in hU hW, by rw [hU]; exact hw, ha⟩⟩ rfl rfl hsz rfl (lv_room hrm) hdg hc)) (fun r e => by subst e; exact kk)
