theorem it_ne {α : Type} {a b n : α} (c : Prop) [Decidable c] (ha : a ≠ n) (hb : b ≠ n) : (if c then a else b) ≠ n := by
  by_cases h : c
  · rw [if_pos h]; exact ha
  · rw [if_neg h]; exact hb
set_option maxRecDepth 100000 in
theorem long_ne (b : Int32) : f_L_ofWord b ≠ 1 := by
  unfold f_L_ofWord f_L_load f_L_alone f_L_withNumber f_L_shiftRight f_L_store f_L_atomic f_L_ofRegisters f_L_plain f_L_product f_L_secondOfTwo f_L_branch f_L_counter
  repeat' first | refine it_ne _ ?_ ?_ | decide
set_option maxRecDepth 100000 in
theorem short_ne (b : Int32) : f_S_ofHalf b ≠ 0 := by
  unfold f_S_ofHalf f_S_ofQ0 f_S_ofQ1 f_S_upperOrStack f_S_onLesserRegister f_S_ofLesserRegisters f_S_ofQ2 f_S_moveOrJump f_S_addOrJump
  repeat' first | refine it_ne _ ?_ ?_ | decide
theorem tgt_ln {K : Nat} (h : ¬ K ≤ 1) (b : Int32) : (tgt K b).2.1 = 1 := by
  show f_K_isInstruction K = 1
  rw [f_K_isInstruction, if_neg (by omega), if_neg (by omega)]
theorem fin_wl (K : Nat) (b x1 : Int32) (hw : K ≤ 1 → sDig (uB b) (sNext (sSay (if x1 = 0 then 439904987182 else 431416637230) s00)) = tgt K b) : finU b x1 (wl K b) = tgt K b := by
  rw [wl, finU]
  by_cases h : K ≤ 1
  · rw [if_pos h, if_pos rfl]; exact hw h
  · rw [if_neg h, tgt_ln h, if_neg (by decide)]
/-- what the reference makes of bits, and what the class makes -/
theorem u_eq (b : Int32) : gU b = tgt (f_R_kindOf b) b := by
  rw [gU, gU2, f_R_kindOf, f_R_isLong, wh]
  by_cases h : b &&& 3 = 3
  · rw [if_pos h, if_neg (by decide), dis, if_neg (by decide), t_long]
    refine fin_wl _ b 1 (fun hk => ?_)
    have : f_L_ofWord b = 0 := by have := long_ne b; omega
    rw [this, if_neg (by decide)]
    exact fm_w b
  · rw [if_neg h, if_pos rfl, t_short b 0 0 h]
    refine fin_wl _ b 0 (fun hk => ?_)
    have : f_S_ofHalf b = 1 := by have := short_ne b; omega
    rw [this, if_pos rfl]
    exact fm_h b
/-! ### no text is longer than 40 -/
theorem it_rg {a b lo hi : Nat} (c : Prop) [Decidable c] (ha : lo ≤ a ∧ a < hi) (hb : lo ≤ b ∧ b < hi) : lo ≤ (if c then a else b) ∧ (if c then a else b) < hi := by
  by_cases h : c
  · rw [if_pos h]; exact ha
  · rw [if_neg h]; exact hb
theorem rn_rg (x : Int32) : 3 ≤ f_T_registerName x ∧ f_T_registerName x < 35 := by
  unfold f_T_registerName
  repeat (refine it_rg _ (by decide) ?_)
  decide
theorem reg_len (x : Int32) : (f_T_register x).length ≤ 4 := by
  have h := rn_rg x
  exact (by decide +kernel : ∀ k, k < 35 → 3 ≤ k → (sTx k).length ≤ 4) _ h.2 h.1
theorem dgs_len (v : Int64) : ∀ k, (dgs k v).length ≤ k
  | 0 => Nat.le_refl _
  | k + 1 => by
    have := dgs_len v k
    rw [dgs, List.length_append]
    by_cases h : lN (10 ^ k) ≤ v ∨ k = 0
    · rw [if_pos h, List.length_singleton]; omega
    · rw [if_neg h, List.length_nil]; omega
theorem num_len (x : Int32) : (f_T_number x).length ≤ 11 := by
  have h := dgs_len (absI x).toInt64 10
  rw [f_T_number]
  by_cases h0 : 0 ≤ x
  · rw [if_pos h0]; exact Nat.le_trans h (by decide)
  · rw [if_neg h0, List.length_append]; exact Nat.add_le_add (Nat.le_refl 1) h
theorem off_len (x : Int32) : (f_T_offset x).length ≤ 12 := by
  have h := dgs_len (absI x).toInt64 10
  rw [f_T_offset]
  by_cases h0 : 0 ≤ x
  · rw [if_pos h0, List.length_append, List.length_append]; exact Nat.add_le_add (Nat.le_refl 1) (Nat.add_le_add (Nat.le_refl 1) h)
  · rw [if_neg h0, List.length_append, List.length_append]; exact Nat.add_le_add (Nat.le_refl 1) (Nat.add_le_add (Nat.le_refl 1) h)
def bnd (c : Int32) : Nat := if c = 66 ∨ c = 67 ∨ c = 74 ∨ c = 90 then 12 else if c = 97 ∨ c = 98 ∨ c = 100 ∨ c = 114 ∨ c = 120 ∨ c = 121 then 4 else if c = 102 ∨ c = 104 ∨ c = 105 ∨ c = 107 ∨ c = 108 ∨ c = 109 ∨ c = 110 ∨ c = 112 ∨ c = 115 ∨ c = 117 ∨ c = 118 ∨ c = 119 then 11 else 1
theorem it_bd {A B : List Int32} {n : Nat} (c : Prop) [Decidable c] (ha : c → A.length ≤ n) (hb : ¬ c → B.length ≤ n) : (if c then A else B).length ≤ n := by
  by_cases h : c
  · rw [if_pos h]; exact ha h
  · rw [if_neg h]; exact hb h
set_option maxRecDepth 100000 in
theorem op_len (c b : Int32) : (f_T_operand c b).length ≤ bnd c := by
  unfold f_T_operand
  refine it_bd _ (fun h => by subst h; exact off_len _) (fun n1 => ?_)
  refine it_bd _ (fun h => by subst h; exact off_len _) (fun n2 => ?_)
  refine it_bd _ (fun h => by subst h; exact off_len _) (fun n3 => ?_)
  refine it_bd _ (fun h => by subst h; exact off_len _) (fun n4 => ?_)
  refine it_bd _ (fun h => by subst h; exact reg_len _) (fun n5 => ?_)
  refine it_bd _ (fun h => by subst h; exact reg_len _) (fun n6 => ?_)
  refine it_bd _ (fun h => by subst h; exact reg_len _) (fun n7 => ?_)
  refine it_bd _ (fun h => by subst h; exact num_len _) (fun n8 => ?_)
  refine it_bd _ (fun h => by subst h; exact num_len _) (fun n9 => ?_)
  refine it_bd _ (fun h => by subst h; exact num_len _) (fun n10 => ?_)
  refine it_bd _ (fun h => by subst h; exact num_len _) (fun n11 => ?_)
  refine it_bd _ (fun h => by subst h; exact num_len _) (fun n12 => ?_)
  refine it_bd _ (fun h => by subst h; exact num_len _) (fun n13 => ?_)
  refine it_bd _ (fun h => by subst h; exact num_len _) (fun n14 => ?_)
  refine it_bd _ (fun h => by subst h; exact num_len _) (fun n15 => ?_)
  refine it_bd _ (fun h => by subst h; exact reg_len _) (fun n16 => ?_)
  refine it_bd _ (fun h => by subst h; exact num_len _) (fun n17 => ?_)
  refine it_bd _ (fun h => by subst h; exact num_len _) (fun n18 => ?_)
  refine it_bd _ (fun h => by subst h; exact Nat.le_trans (dgs_len _ 10) (by decide)) (fun n19 => ?_)
  refine it_bd _ (fun h => by subst h; exact num_len _) (fun n20 => ?_)
  refine it_bd _ (fun h => by subst h; exact reg_len _) (fun n21 => ?_)
  refine it_bd _ (fun h => by subst h; exact reg_len _) (fun n22 => ?_)
  rw [List.length_singleton, bnd]
  by_cases h1 : c = 66 ∨ c = 67 ∨ c = 74 ∨ c = 90
  · rw [if_pos h1]; decide
  rw [if_neg h1]
  by_cases h2 : c = 97 ∨ c = 98 ∨ c = 100 ∨ c = 114 ∨ c = 120 ∨ c = 121
  · rw [if_pos h2]; decide
  rw [if_neg h2]
  by_cases h3 : c = 102 ∨ c = 104 ∨ c = 105 ∨ c = 107 ∨ c = 108 ∨ c = 109 ∨ c = 110 ∨ c = 112 ∨ c = 115 ∨ c = 117 ∨ c = 118 ∨ c = 119
  · rw [if_pos h3]; decide
  rw [if_neg h3]
  exact Nat.le_refl _
def bnds (l : List Int32) : Nat := (l.map bnd).sum
theorem ops_len (b : Int32) : ∀ l : List Int32, (opsT l b).length ≤ bnds l
  | [] => Nat.le_refl _
  | c :: l => by
    have h1 := ops_len b l
    have h2 := op_len c b
    rw [opsT, List.flatMap_cons, List.length_append, bnds, List.map_cons, List.sum_cons]
    rw [opsT, bnds] at h1
    omega
theorem ord_len (x : Int32) : (f_T_order x).length ≤ 5 := by
  unfold f_T_order
  refine it_bd _ (fun _ => by decide) (fun _ => ?_)
  refine it_bd _ (fun _ => by decide) (fun _ => ?_)
  refine it_bd _ (fun _ => by decide) (fun _ => ?_)
  decide
theorem wr_len {K : Nat} (hK : K < 95) (b : Int32) : (f_T_write K b).length ≤ 40 := by
  rw [f_T_write, List.length_append, List.length_append, List.length_append]
  have h1 := ops_len b (sTx (kO.getD K 0))
  have h2 : (if kOrd.getD K 0 = 0 then ([] : List Int32) else f_T_order ((b >>> ((25 : Int32) &&& 31)) &&& 3)).length ≤ 5 := it_bd _ (fun _ => by decide) (fun _ => ord_len _)
  have h3 : (if f_JS_isEmpty (kO.getD K 0) = 0 then ([32] : List Int32) else []).length ≤ 1 := it_bd _ (fun _ => by decide) (fun _ => by decide)
  have h4 := (by decide +kernel : ∀ K, K < 95 → (sTx (kW.getD K 0)).length + bnds (sTx (kO.getD K 0)) ≤ 34) K hK
  omega
theorem gU_len (b : Int32) : (f_T_write (f_R_kindOf b) b).length ≤ 40 := wr_len (kl_R_kindOf b) b
/-! ### where bits come from -/
theorem lo_eq (x : Int32) : lo16 x = loM x := by
  rw [lo16, loM, f_R_isLong]
  by_cases h : x &&& 3 = 3
  · rw [if_pos h, if_pos h, if_neg (by decide)]
  · rw [if_neg h, if_neg h, if_pos rfl]
theorem tb_eq (x : Int32) : f_tb x = tbM x := by
  rw [f_tb, tbM, f_R_isLong, wh]
theorem byte_eq (str : Nat → Int32) {h : Nat} (hh : h < 256) : f_R_byteAt str (nI h) = str h := by
  rw [f_R_byteAt, cl_adr hh, if_neg (by decide), nI_clamp (by omega)]
theorem bytes_eq (str : Nat → Int32) {h : Nat} (hh : h < 256) : f_R_bytesAt str (nI h) = nI (bt str h) := by
  rw [f_R_bytesAt, f_R_isLongAt, byte_eq str hh, f_R_isLong, bt]
  by_cases q : str h &&& 3 = 3
  · rw [if_pos q, if_pos q, if_neg (by decide)]; rfl
  · rw [if_neg q, if_neg q, if_pos rfl]; rfl
theorem bt_le (str : Nat → Int32) (h : Nat) : bt str h = 2 ∨ bt str h = 4 := by
  rw [bt]
  by_cases q : str h &&& 3 = 3
  · rw [if_pos q]; exact Or.inr rfl
  · rw [if_neg q]; exact Or.inl rfl
theorem whole_eq (str : Nat → Int32) {h : Nat} (hh : h < 256) : f_R_isWholeAt str (nI h) = 0 ↔ 256 < h + bt str h := by
  have hb := bt_le str h
  rw [f_R_isWholeAt, bytes_eq str hh, nI_add]
  have k : (256 : Int32) < nI (h + bt str h) ↔ 256 < h + bt str h := nI_ltI (a := 256) (by omega) (by omega)
  by_cases q : 256 < h + bt str h
  · rw [if_pos (k.mpr q)]; exact ⟨fun _ => q, fun _ => rfl⟩
  · rw [if_neg (fun z => q (k.mp z))]; exact ⟨fun z => absurd z (by decide), fun z => absurd z q⟩
theorem shl_8_16 (x : Int32) : (x <<< ((8 : Int32) &&& 31)) <<< ((16 : Int32) &&& 31) = x <<< ((24 : Int32) &&& 31) := by
  apply b_ext
  intro i hi
  rw [show bz ((x <<< ((8 : Int32) &&& 31)) <<< ((16 : Int32) &&& 31)) i = _ from b_shl 16 (by omega) _ hi, show bz (x <<< ((24 : Int32) &&& 31)) i = _ from b_shl 24 (by omega) x hi, show bz (x <<< ((8 : Int32) &&& 31)) (i - 16) = _ from b_shl 8 (by omega) x (by omega)]
  by_cases h1 : 24 ≤ i
  · rw [show i - 16 - 8 = i - 24 by omega]; simp [h1, show 16 ≤ i by omega, show 8 ≤ i - 16 by omega]
  · simp [h1]; omega
theorem shl_or (x y : Int32) : (x ||| y) <<< ((16 : Int32) &&& 31) = (x <<< ((16 : Int32) &&& 31)) ||| (y <<< ((16 : Int32) &&& 31)) := by
  apply b_ext
  intro i hi
  rw [b_or, show bz ((x ||| y) <<< ((16 : Int32) &&& 31)) i = _ from b_shl 16 (by omega) _ hi, show bz (x <<< ((16 : Int32) &&& 31)) i = _ from b_shl 16 (by omega) _ hi, show bz (y <<< ((16 : Int32) &&& 31)) i = _ from b_shl 16 (by omega) _ hi, b_or]
  cases decide (16 ≤ i) <;> rfl
theorem or_as (x y z : Int32) : (x ||| y) ||| z = x ||| (y ||| z) := Int32.or_assoc x y z
theorem bits_eq (str : Nat → Int32) {h : Nat} (hh : h + bt str h ≤ 256) : f_R_bitsAt str (nI h) = tkM str h := by
  have hb := bt_le str h
  have h0 : f_R_halfAt str (nI h) = str h ||| (str (h + 1) <<< ((8 : Int32) &&& 31)) := by
    rw [f_R_halfAt, byte_eq str (by omega), nI_1, byte_eq str (by omega)]
  have e8 := shl_and3 (str (h + 1)) ((8 : Int32) &&& 31) 8 (by decide) (by decide)
  have hl : f_R_isLong (f_R_halfAt str (nI h)) = f_R_isLong (str h) := by rw [f_R_isLong, f_R_isLong, h0, or_and3 e8]
  rw [f_R_bitsAt, hl, h0, tkM, f_R_isLong]
  by_cases q : str h &&& 3 = 3
  · have b4 : bt str h = 4 := by rw [bt, if_pos q]
    have h2 : f_R_halfAt str (nI h + 2) = str (h + 2) ||| (str (h + 3) <<< ((8 : Int32) &&& 31)) := by
      rw [show nI h + 2 = nI (h + 2) from nI_add h 2, f_R_halfAt, byte_eq str (by omega), nI_1, byte_eq str (by omega)]
    rw [if_pos q, if_neg (by decide), b4, if_neg (by decide), h2, shl_or, shl_8_16, or_as, or_as, or_as]
  · have b2 : bt str h = 2 := by rw [bt, if_neg q]
    rw [if_neg q, if_pos rfl, b2, if_pos (show nI 2 = 2 from rfl)]
theorem cN_eq (str : Nat → Int32) {h : Nat} (hh : h < 256) : cN str h = if 256 < h + bt str h then 0 else if (gU (tkM str h)).2.1 = 0 then 1 else 0 := by
  rw [cN]
  by_cases q : 256 < h + bt str h
  · rw [if_pos q, if_pos ((whole_eq str hh).mpr q)]
  · rw [if_neg q, if_neg (fun z => q ((whole_eq str hh).mp z)), bits_eq str (by omega), u_eq]
    rfl
theorem go_eq (str : Nat → Int32) : ∀ (k h z : Nat), goC str k h z = goM str k h z
  | 0, _, _ => rfl
  | k + 1, h, z => by
    have hb := bt_le str h
    rw [goC, goM]
    by_cases q : 255 ≤ h
    · rw [if_pos q, if_pos (Or.inl q)]
    · rw [if_neg q, cN_eq str (by omega)]
      by_cases q2 : 256 < h + bt str h
      · rw [if_pos q2, if_pos (Or.inr q2), goC_stop (by omega)]; rfl
      · rw [if_neg q2, if_neg (fun z : 255 ≤ h ∨ 256 < h + bt str h => z.elim q q2)]
        exact go_eq str k _ _
theorem ab_eq {v : List Int32} (hv : v.length ≤ 40) (tb ti tp x : Int32) : f_R_about tb ti tp v x = abM v tb ti tp x := by
  rw [f_R_about, abM, Nat.min_eq_left hv]
theorem rf_eq (x : Int32) : rf x = 0 ↔ ¬ f_R_isAddress x = 0 := by
  rw [rf, f_R_isAddress]
  by_cases h : x < 0
  · rw [if_pos h, if_pos h]; exact ⟨fun z => absurd z (by decide), fun z => absurd rfl z⟩
  · rw [if_neg h, if_neg h]
    obtain ⟨j, hj, rfl⟩ := nI_of h
    have k1 : nI j ≤ 255 ↔ j ≤ 255 := nI_leI (b := 255) hj (by omega)
    have k2 : 256 ≤ nI j ↔ 256 ≤ j := nI_leI (a := 256) (by omega) hj
    by_cases q : j ≤ 255
    · rw [if_pos (k1.mpr q), if_neg (fun z => by have := k2.mp z; omega)]; exact ⟨fun _ => by decide, fun _ => rfl⟩
    · rw [if_neg (fun z => q (k1.mp z)), if_pos (k2.mpr (by omega))]; exact ⟨fun z => absurd z (by decide), fun z => absurd rfl z⟩
theorem rf_1 {x : Int32} (h : f_R_isAddress x = 0) : rf x = 1 := by
  have h1 : ¬ rf x = 0 := fun z => (rf_eq x).mp z h
  rw [rf] at h1 ⊢
  by_cases q : x < 0
  · rw [if_pos q]
  · rw [if_neg q] at h1 ⊢
    by_cases q2 : x ≤ 255
    · rw [if_pos q2] at h1; exact absurd rfl h1
    · rw [if_neg q2]
theorem adr_of {x : Int32} (h : ¬ f_R_isAddress x = 0) : ∃ j, j < 256 ∧ x = nI j := by
  rw [f_R_isAddress] at h
  by_cases q : x < 0
  · rw [if_pos q] at h; exact absurd rfl h
  · rw [if_neg q] at h
    obtain ⟨j, hj, rfl⟩ := nI_of q
    have k2 : 256 ≤ nI j ↔ 256 ≤ j := nI_leI (a := 256) (by omega) hj
    by_cases q2 : 256 ≤ nI j
    · rw [if_pos q2] at h; exact absurd rfl h
    · exact ⟨j, by have := mt k2.mpr q2; omega, rfl⟩
