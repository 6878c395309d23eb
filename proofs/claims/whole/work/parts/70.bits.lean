def bz (x : Int32) (i : Nat) : Bool := x.toBitVec.getLsbD i
theorem b_ext {x y : Int32} (h : ∀ i, i < 32 → bz x i = bz y i) : x = y := Int32.toBitVec_inj.mp (BitVec.eq_of_getLsbD_eq (fun i hi => h i hi))
theorem b_or (x y : Int32) (i : Nat) : bz (x ||| y) i = (bz x i || bz y i) := by unfold bz; rw [Int32.toBitVec_or, BitVec.getLsbD_or]
theorem b_and (x y : Int32) (i : Nat) : bz (x &&& y) i = (bz x i && bz y i) := by unfold bz; rw [Int32.toBitVec_and, BitVec.getLsbD_and]
theorem b_xor (x y : Int32) (i : Nat) : bz (x ^^^ y) i = (bz x i ^^ bz y i) := by unfold bz; rw [Int32.toBitVec_xor, BitVec.getLsbD_xor]
theorem b_big {x : Int32} {i : Nat} (h : 32 ≤ i) : bz x i = false := BitVec.getLsbD_of_ge _ _ h
theorem b_255 (i : Nat) : bz 255 i = decide (i < 8) := by
  rcases Nat.lt_or_ge i 32 with h | h
  · exact (by decide +kernel : ∀ i, i < 32 → bz 255 i = decide (i < 8)) i h
  · rw [b_big h, decide_eq_false (by omega)]
theorem b_65535 (i : Nat) : bz 65535 i = decide (i < 16) := by
  rcases Nat.lt_or_ge i 32 with h | h
  · exact (by decide +kernel : ∀ i, i < 32 → bz 65535 i = decide (i < 16)) i h
  · rw [b_big h, decide_eq_false (by omega)]
theorem b_m1 : ∀ i, i < 32 → bz (-1) i = true := by decide +kernel
theorem b_0 (i : Nat) : bz 0 i = false := BitVec.getLsbD_zero
theorem s_l : ∀ n, n < 32 → ((nI n &&& 31).toBitVec.smod 32).toNat = n := by decide +kernel
theorem s_u : ∀ n, n < 32 → (((nI n).toUInt32 &&& Int32.toUInt32 31).toBitVec % 32).toNat = n := by decide +kernel
theorem b_shl (n : Nat) (hn : n < 32) (x : Int32) {i : Nat} (hi : i < 32) : bz (x <<< (nI n &&& 31)) i = (decide (n ≤ i) && bz x (i - n)) := by
  unfold bz
  rw [Int32.toBitVec_shiftLeft]
  show (x.toBitVec <<< ((nI n &&& 31).toBitVec.smod 32).toNat).getLsbD i = _
  rw [s_l n hn, BitVec.getLsbD_shiftLeft]
  rcases Nat.lt_or_ge i n with h | h
  · simp [h, Nat.not_le.mpr h]
  · simp [hi, h, Nat.not_lt.mpr h]
theorem b_ushr (n : Nat) (hn : n < 32) (x : Int32) (i : Nat) : bz ((x.toUInt32 >>> ((nI n).toUInt32 &&& Int32.toUInt32 31)).toInt32) i = bz x (n + i) := by
  show (x.toUInt32 >>> ((nI n).toUInt32 &&& Int32.toUInt32 31)).toBitVec.getLsbD i = x.toUInt32.toBitVec.getLsbD (n + i)
  rw [UInt32.toBitVec_shiftRight]
  show (x.toUInt32.toBitVec >>> (((nI n).toUInt32 &&& Int32.toUInt32 31).toBitVec % 32).toNat).getLsbD i = _
  rw [s_u n hn, BitVec.getLsbD_ushiftRight]
theorem b_sshr (n : Nat) (hn : n < 32) (x : Int32) {i : Nat} (hi : i < 32) : bz (x >>> (nI n &&& 31)) i = if n + i < 32 then bz x (n + i) else bz x 31 := by
  unfold bz
  rw [Int32.toBitVec_shiftRight]
  show (x.toBitVec.sshiftRight ((nI n &&& 31).toBitVec.smod 32).toNat).getLsbD i = _
  rw [s_l n hn, BitVec.getLsbD_sshiftRight, BitVec.msb_eq_getLsbD_last]
  simp [hi]
theorem b_mask : ∀ k, k < 32 → ∀ i, i < 32 → bz (nI (2 ^ k - 1)) i = decide (i < k) := by decide +kernel
theorem m_mask : ∀ k, k < 32 → ((1 : Int32) <<< (nI k &&& 31)) - 1 = nI (2 ^ k - 1) := by decide +kernel
theorem b_part (n k : Nat) (hn : n < 32) (hk : k < 32) (b : Int32) {i : Nat} (hi : i < 32) : bz (f_M_part b (nI n) (nI k)) i = (bz b (n + i) && decide (i < k)) := by
  rw [f_M_part, m_mask k hk, b_and, b_mask k hk i hi]
  show (bz (ushr b (nI n)) i && _) = _
  rw [show bz (ushr b (nI n)) i = bz b (n + i) from b_ushr n hn b i]
/-- the class's way to a field, and the reference's -/
theorem p_eq (n k : Nat) (hk : k < 32) (hnk : n + k ≤ 32) (hn : n < 32) (b : Int32) : (b >>> (nI n &&& 31)) &&& nI (2 ^ k - 1) = f_M_part b (nI n) (nI k) := by
  apply b_ext
  intro i hi
  rw [b_part n k hn hk b hi, b_and, b_mask k hk i hi, b_sshr n hn b hi]
  by_cases h : i < k
  · rw [if_pos (by omega)]
  · simp [h]
theorem p_us (n k : Nat) (hk : k < 32) (hnk : n + k = 32) (hn : n < 32) (b : Int32) : ushr b (nI n) = f_M_part b (nI n) (nI k) := by
  apply b_ext
  intro i hi
  rw [b_part n k hn hk b hi, show bz (ushr b (nI n)) i = bz b (n + i) from b_ushr n hn b i]
  by_cases h : i < k
  · simp [h]
  · rw [b_big (by omega)]; rfl
theorem p_g2 (b : Int32) : (ushr b 25) >>> ((2 : Int32) &&& 31) = f_M_part b 27 5 := by
  apply b_ext
  intro i hi
  rw [show bz (f_M_part b 27 5) i = (bz b (27 + i) && decide (i < 5)) from b_part 27 5 (by omega) (by omega) b hi, show bz (ushr b 25 >>> ((2 : Int32) &&& 31)) i = _ from b_sshr 2 (by omega) (ushr b 25) hi]
  have hu : ∀ j, bz (ushr b 25) j = bz b (25 + j) := fun j => b_ushr 25 (by omega) b j
  rw [hu, hu]
  by_cases h : i < 5
  · rw [if_pos (by omega), show 25 + (2 + i) = 27 + i by omega]; simp [h]
  · by_cases h2 : 2 + i < 32
    · rw [if_pos h2, b_big (by omega)]; simp [h]
    · rw [if_neg h2, b_big (by omega)]; simp [h]
theorem p_nat (n k : Nat) (hk : k < 32) (b : Int32) : ∃ j : Nat, j < 2 ^ k ∧ f_M_part b (nI n) (nI k) = nI j := by
  rw [f_M_part, m_mask k hk]
  exact pk_andE _ k (by rw [pk_tn (by have := Nat.pow_lt_pow_right (a := 2) (by decide) hk; omega)])
theorem p_neg31 (b : Int32) : -((ushr b 31) &&& 1) = b >>> ((31 : Int32) &&& 31) := by
  have h1 : (ushr b 31) &&& 1 = f_M_part b 31 1 := rfl
  rcases Bool.eq_false_or_eq_true (bz b 31) with h | h
  · have e1 : (ushr b 31) &&& 1 = 1 := by
      apply b_ext
      intro i hi
      rw [h1, show bz (f_M_part b 31 1) i = _ from b_part 31 1 (by omega) (by omega) b hi]
      by_cases h2 : i < 1
      · rw [show i = 0 by omega, h]; decide
      · rw [show bz 1 i = decide (i < 1) from b_mask 1 (by omega) i hi]; simp [h2]
    rw [e1]
    apply b_ext
    intro i hi
    rw [show bz (b >>> ((31 : Int32) &&& 31)) i = _ from b_sshr 31 (by omega) b hi]
    by_cases h2 : 31 + i < 32
    · rw [if_pos h2, show i = 0 by omega, h]; decide
    · rw [if_neg h2, h]; exact b_m1 i hi
  · have e1 : (ushr b 31) &&& 1 = 0 := by
      apply b_ext
      intro i hi
      rw [h1, show bz (f_M_part b 31 1) i = _ from b_part 31 1 (by omega) (by omega) b hi, b_0]
      by_cases h2 : i < 1
      · rw [show i = 0 by omega, h]; rfl
      · simp [h2]
    rw [e1]
    apply b_ext
    intro i hi
    rw [show bz (b >>> ((31 : Int32) &&& 31)) i = _ from b_sshr 31 (by omega) b hi, show (-0 : Int32) = 0 by decide, b_0]
    by_cases h2 : 31 + i < 32
    · rw [if_pos h2, show i = 0 by omega, h]
    · rw [if_neg h2, h]
abbrev mI : Int32 := -2147483648
theorem mI_b : bz mI 31 = true ∧ bz mI 30 = false := by decide +kernel
theorem ne_min {x : Int32} (h : bz x 31 = true → bz x 30 = true) : x ≠ mI := fun e => by
  subst e
  exact absurd (h mI_b.1) (by rw [mI_b.2]; decide)
/-! ### digits -/
theorem dch_n {w k : Nat} (hw : w < 2 ^ 32) (hk : k ≤ 9) : dch (lN w) k = nI (48 + w / 10 ^ k % 10) := by
  have hp := p10 hk
  have h1 : lN w / lN (10 ^ k) = lN (w / 10 ^ k) := pk_lDiv (by omega) hp.1 (by omega)
  have h2 : w / 10 ^ k < 2 ^ 32 := Nat.lt_of_le_of_lt (Nat.div_le_self _ _) hw
  have h3 : lN (w / 10 ^ k) - lN (w / 10 ^ k) / 10 * 10 = lN (w / 10 ^ k % 10) := pk_lRem (b := 10) (by omega) (by decide) (by decide)
  rw [dch, h1, h3]
  have h4 : w / 10 ^ k % 10 < 10 := Nat.mod_lt _ (by decide)
  generalize w / 10 ^ k % 10 = r at h4
  exact (by decide +kernel : ∀ r, r < 10 → ((48 + lN r).toInt32.toUInt32 % 65536).toInt32 = nI (48 + r)) r h4
theorem dgs_n {w : Nat} (hw : w < 2 ^ 32) : ∀ k, k ≤ 10 → dgs k (lN w) = dgn k w
  | 0, _ => rfl
  | k + 1, hk => by
    have hp := p10 (k := k) (by omega)
    rw [dgs, dgn, dgs_n hw k (by omega), dch_n hw (by omega)]
    by_cases h : 10 ^ k ≤ w ∨ k = 0
    · rw [if_pos h, if_pos (h.imp (pk_lLE (by omega) (by omega)).mpr id)]
    · rw [if_neg h, if_neg (fun z => h (z.imp (pk_lLE (by omega) (by omega)).mp id))]
theorem dg_n {w : Nat} (hw : w < 2 ^ 32) : f_T_digits (lN w) = dgn 10 w := dgs_n hw 10 (Nat.le_refl _)
theorem absI_n {x : Int32} (hx : x ≠ mI) : (absI x).toInt64 = lN (nA x) := by
  rw [absI]
  by_cases h : 0 ≤ x
  · rw [if_pos h]; exact nA_pos h
  · rw [if_neg h]
    have h0 : x.toInt < 0 := by
      have := mt Int32.le_iff_toInt_le.mpr h
      simpa using this
    have h2 := x.le_toInt
    have h3 : x.toInt ≠ -2147483648 := fun e => hx (Int32.toInt_inj.mp (by rw [e]; decide))
    have h4 : (0 - x).toInt = - x.toInt := by
      rw [Int32.toInt_sub, show (0 : Int32).toInt = 0 by decide, Int.zero_sub]
      exact Int.bmod_eq_of_le (by omega) (by omega)
    apply Int64.toInt_inj.mp
    have := nA_lt x
    rw [Int32.toInt_toInt64, h4, pk_lT (by omega), nA]
    omega
theorem num_n {x : Int32} (hx : x ≠ mI) : f_T_number x = (if 0 ≤ x then [] else [45]) ++ dgn 10 (nA x) := by
  rw [f_T_number, absI_n hx, dg_n (nA_lt x)]
  by_cases h : 0 ≤ x
  · rw [if_pos h, if_pos h]; rfl
  · rw [if_neg h, if_neg h]
theorem off_n {x : Int32} (hx : x ≠ mI) : f_T_offset x = [46] ++ ((if 0 ≤ x then [43] else [45]) ++ dgn 10 (nA x)) := by
  rw [f_T_offset, absI_n hx, dg_n (nA_lt x)]
  by_cases h : 0 ≤ x
  · rw [if_pos h, if_pos h]
  · rw [if_neg h, if_neg h]
/-! ### the reference's words, one after the other -/
theorem rg_n {x : Int32} (h : ∃ j : Nat, j < 32 ∧ x = nI j) : sayT (rgw x) = f_T_register x := by
  obtain ⟨j, hj, rfl⟩ := h
  exact (by decide +kernel : ∀ j, j < 32 → sayT (rgw (nI j)) = f_T_register (nI j)) j hj
theorem sName0 (w : Int64) : sName w s00 = (0, 1, sayT w) := rfl
def sep (n : Int32) : List Int32 := if n ≤ 0 then [32] else [44, 32]
theorem sNext_n (n l : Int32) (t : List Int32) : sNext (n, l, t) = (n + 1, l, t ++ sep n) := by
  rw [sNext, sep]
  by_cases h : n ≤ 0
  · rw [if_pos h, if_pos h]; rfl
  · rw [if_neg h, if_neg h]
    show (n + 1, l, (t ++ [c16 44]) ++ [c16 32]) = _
    rw [List.append_assoc]; rfl
theorem sReg_n {x : Int32} (h : ∃ j : Nat, j < 32 ∧ x = nI j) (n l : Int32) (t : List Int32) : sReg x (n, l, t) = (n + 1, l, t ++ (sep n ++ f_T_register x)) := by
  rw [sReg, sNext_n, sSay, rg_n h, ← List.append_assoc]
theorem sBra_n {x : Int32} (h : ∃ j : Nat, j < 32 ∧ x = nI j) (n l : Int32) (t : List Int32) : sBra x (n, l, t) = (n, l, t ++ ([40] ++ (f_T_register x ++ [41]))) := by
  rw [sBra, sPut, sSay, sPut, rg_n h]
  show (n, l, ((t ++ [c16 40]) ++ f_T_register x) ++ [c16 41]) = _
  rw [List.append_assoc, List.append_assoc]; rfl
theorem sNum_n {x : Int32} (h : x ≠ mI) (n l : Int32) (t : List Int32) : sNum x (n, l, t) = (n, l, t ++ f_T_number x) := by
  rw [sNum, num_n h, sDig]
  by_cases h2 : 0 ≤ x
  · rw [if_pos h2, if_pos h2]; rfl
  · rw [if_neg h2, if_neg h2]
    show (n, l, (t ++ [c16 45]) ++ _) = _
    rw [List.append_assoc]; rfl
theorem imm_n {x : Int32} (h : x ≠ mI) (bi d a b f n l : Int32) (t : List Int32) : g_M_immediate bi d a b f x (n, l, t) = (n + 1, l, t ++ (sep n ++ f_T_number x)) := by
  rw [g_M_immediate, sNext_n, sNum_n h, List.append_assoc]
theorem tgt_n {x : Int32} (h : x ≠ mI) (bi d a b f n l : Int32) (t : List Int32) : g_M_target bi d a b f x (n, l, t) = (n + 1, l, t ++ (sep n ++ f_T_offset x)) := by
  rw [g_M_target, sNext_n, off_n h]
  by_cases h2 : 0 ≤ x
  · rw [if_neg (Int32.not_lt.mpr h2), if_pos h2, sPut, sPut, sNum, if_pos h2, sDig]
    show (n + 1, l, (((t ++ sep n) ++ [c16 46]) ++ [c16 43]) ++ _) = _
    simp only [List.append_assoc]; rfl
  · rw [if_pos (Int32.not_le.mp h2), if_neg h2, sPut, sNum, if_neg h2, sDig, sPut]
    show (n + 1, l, (((t ++ sep n) ++ [c16 46]) ++ [c16 45]) ++ _) = _
    simp only [List.append_assoc]; rfl
theorem mem_n {x y : Int32} (h : x ≠ mI) (hy : ∃ j : Nat, j < 32 ∧ y = nI j) (bi d a b f n l : Int32) (t : List Int32) : g_M_memory bi d a b f x y (n, l, t) = (n + 1, l, t ++ (sep n ++ (f_T_number x ++ ([40] ++ (f_T_register y ++ [41]))))) := by
  rw [g_M_memory, imm_n h, sBra_n hy]
  simp only [List.append_assoc]
