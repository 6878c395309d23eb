theorem p_nat8 (n : Nat) (b : Int32) : ∃ j : Nat, j < 32 ∧ (8 : Int32) + f_M_part b (nI n) 3 = nI j := by
  obtain ⟨j, hj, e⟩ := p_nat n 3 (by omega) b
  refine ⟨8 + j, by omega, ?_⟩
  rw [show f_M_part b (nI n) 3 = nI j from e]
  exact nI_add 8 j
def tgt (K : Nat) (b : Int32) : MT := (f_K_operandCount K, f_K_isInstruction K, f_T_write K b)
def cntO (o : Nat) : Int32 := if f_JS_isEmpty o = 0 then nI (1 + cm (sTx o)) else 0
def spO (o : Nat) : List Int32 := if f_JS_isEmpty o = 0 then [32] else []
abbrev kF (K o : Nat) : Prop := kO.getD K 0 = o ∧ kOrd.getD K 0 = 0 ∧ f_K_isInstruction K = 1
abbrev kG (K o : Nat) : Prop := kO.getD K 0 = o ∧ kOrd.getD K 0 = 1 ∧ f_K_isInstruction K = 1
theorem tgt_eq {K o : Nat} (b : Int32) (h : kF K o) : tgt K b = (cntO o, 1, sTx (kW.getD K 0) ++ (spO o ++ opsT (sTx o) b)) := by
  obtain ⟨h1, h2, h3⟩ := h
  rw [tgt, f_K_operandCount, f_T_write, h1, h2, h3, if_pos rfl]
  rfl
theorem tgt_eqO {K o : Nat} (b : Int32) (h : kG K o) : tgt K b = (cntO o, 1, sTx (kW.getD K 0) ++ (f_T_order (f_M_part b 25 2) ++ (spO o ++ opsT (sTx o) b))) := by
  obtain ⟨h1, h2, h3⟩ := h
  rw [tgt, f_K_operandCount, f_T_write, h1, h2, h3, if_neg (show ¬ (1 : Int32) = 0 by decide), show (b >>> ((25 : Int32) &&& 31)) &&& 3 = f_M_part b 25 2 from p_eq 25 2 (by omega) (by omega) (by omega) b]
  rfl
theorem sep_0 : sep 0 = [32] := rfl
theorem sep_1 : sep (0 + 1) = [44, 32] := rfl
theorem sep_2 : sep (0 + 1 + 1) = [44, 32] := rfl

theorem fm_52 (K : Nat) (b : Int32) (h : kF K 52) {v : Int32} (hv : v = (b >>> ((20 : Int32) &&& 31))) (bi d a bb f : Int32) : g_M_immediate bi d a bb f v (sReg (f_M_part b 15 5) (sReg (f_M_part b 7 5) (0, 1, sTx (kW.getD K 0)))) = tgt K b := by
  subst hv
  rw [tgt_eq b h, show cntO 52 = 3 by decide +kernel, show spO 52 = [32] by decide +kernel, show opsT (sTx 52) b = f_T_register ((b >>> ((7 : Int32) &&& 31)) &&& 31) ++ ([44] ++ ([32] ++ (f_T_register ((b >>> ((15 : Int32) &&& 31)) &&& 31) ++ ([44] ++ ([32] ++ (f_T_number (b >>> ((20 : Int32) &&& 31)) ++ [])))))) from rfl, show (b >>> ((7 : Int32) &&& 31)) &&& 31 = f_M_part b 7 5 from p_eq 7 5 (by omega) (by omega) (by omega) b, show (b >>> ((15 : Int32) &&& 31)) &&& 31 = f_M_part b 15 5 from p_eq 15 5 (by omega) (by omega) (by omega) b, sReg_n (x := (f_M_part b 7 5)) (p_nat 7 5 (by omega) b), sReg_n (x := (f_M_part b 15 5)) (p_nat 15 5 (by omega) b), imm_n (x := (b >>> ((20 : Int32) &&& 31))) (ne_imm b)]
  simp only [sep_0, sep_1, sep_2, List.append_assoc, List.cons_append, List.nil_append, List.append_nil]
  rfl

theorem fm_54 (K : Nat) (b : Int32) (h : kF K 54) {v : Int32} (hv : v = (f_M_part b 20 5)) (bi d a bb f : Int32) : g_M_immediate bi d a bb f v (sReg (f_M_part b 15 5) (sReg (f_M_part b 7 5) (0, 1, sTx (kW.getD K 0)))) = tgt K b := by
  subst hv
  rw [tgt_eq b h, show cntO 54 = 3 by decide +kernel, show spO 54 = [32] by decide +kernel, show opsT (sTx 54) b = f_T_register ((b >>> ((7 : Int32) &&& 31)) &&& 31) ++ ([44] ++ ([32] ++ (f_T_register ((b >>> ((15 : Int32) &&& 31)) &&& 31) ++ ([44] ++ ([32] ++ (f_T_number ((b >>> ((20 : Int32) &&& 31)) &&& 31) ++ [])))))) from rfl, show (b >>> ((7 : Int32) &&& 31)) &&& 31 = f_M_part b 7 5 from p_eq 7 5 (by omega) (by omega) (by omega) b, show (b >>> ((15 : Int32) &&& 31)) &&& 31 = f_M_part b 15 5 from p_eq 15 5 (by omega) (by omega) (by omega) b, show (b >>> ((20 : Int32) &&& 31)) &&& 31 = f_M_part b 20 5 from p_eq 20 5 (by omega) (by omega) (by omega) b, sReg_n (x := (f_M_part b 7 5)) (p_nat 7 5 (by omega) b), sReg_n (x := (f_M_part b 15 5)) (p_nat 15 5 (by omega) b), imm_n (x := (f_M_part b 20 5)) (part_ne 20 5 (by omega) (by omega) b)]
  simp only [sep_0, sep_1, sep_2, List.append_assoc, List.cons_append, List.nil_append, List.append_nil]
  rfl

theorem fm_82 (K : Nat) (b : Int32) (h : kF K 82)   : sReg (f_M_part b 20 5) (sReg (f_M_part b 15 5) (sReg (f_M_part b 7 5) (0, 1, sTx (kW.getD K 0)))) = tgt K b := by
  rw [tgt_eq b h, show cntO 82 = 3 by decide +kernel, show spO 82 = [32] by decide +kernel, show opsT (sTx 82) b = f_T_register ((b >>> ((7 : Int32) &&& 31)) &&& 31) ++ ([44] ++ ([32] ++ (f_T_register ((b >>> ((15 : Int32) &&& 31)) &&& 31) ++ ([44] ++ ([32] ++ (f_T_register ((b >>> ((20 : Int32) &&& 31)) &&& 31) ++ [])))))) from rfl, show (b >>> ((7 : Int32) &&& 31)) &&& 31 = f_M_part b 7 5 from p_eq 7 5 (by omega) (by omega) (by omega) b, show (b >>> ((15 : Int32) &&& 31)) &&& 31 = f_M_part b 15 5 from p_eq 15 5 (by omega) (by omega) (by omega) b, show (b >>> ((20 : Int32) &&& 31)) &&& 31 = f_M_part b 20 5 from p_eq 20 5 (by omega) (by omega) (by omega) b, sReg_n (x := (f_M_part b 7 5)) (p_nat 7 5 (by omega) b), sReg_n (x := (f_M_part b 15 5)) (p_nat 15 5 (by omega) b), sReg_n (x := (f_M_part b 20 5)) (p_nat 20 5 (by omega) b)]
  simp only [sep_0, sep_1, sep_2, List.append_assoc, List.cons_append, List.nil_append, List.append_nil]
  rfl

theorem fm_39 (K : Nat) (b : Int32) (h : kF K 39) {v : Int32} (hv : v = (b >>> ((20 : Int32) &&& 31))) (bi d a bb f : Int32) : g_M_memory bi d a bb f v (f_M_part b 15 5) (sReg (f_M_part b 7 5) (0, 1, sTx (kW.getD K 0))) = tgt K b := by
  subst hv
  rw [tgt_eq b h, show cntO 39 = 2 by decide +kernel, show spO 39 = [32] by decide +kernel, show opsT (sTx 39) b = f_T_register ((b >>> ((7 : Int32) &&& 31)) &&& 31) ++ ([44] ++ ([32] ++ (f_T_number (b >>> ((20 : Int32) &&& 31)) ++ ([40] ++ (f_T_register ((b >>> ((15 : Int32) &&& 31)) &&& 31) ++ ([41] ++ [])))))) from rfl, show (b >>> ((7 : Int32) &&& 31)) &&& 31 = f_M_part b 7 5 from p_eq 7 5 (by omega) (by omega) (by omega) b, show (b >>> ((15 : Int32) &&& 31)) &&& 31 = f_M_part b 15 5 from p_eq 15 5 (by omega) (by omega) (by omega) b, sReg_n (x := (f_M_part b 7 5)) (p_nat 7 5 (by omega) b), mem_n (x := (b >>> ((20 : Int32) &&& 31))) (y := (f_M_part b 15 5)) (ne_imm b) (p_nat 15 5 (by omega) b)]
  simp only [sep_0, sep_1, sep_2, List.append_assoc, List.cons_append, List.nil_append, List.append_nil]
  rfl

theorem fm_65 (K : Nat) (b : Int32) (h : kF K 65) {v : Int32} (hv : v = (f_F_store b)) (bi d a bb f : Int32) : g_M_memory bi d a bb f v (f_M_part b 15 5) (sReg (f_M_part b 20 5) (0, 1, sTx (kW.getD K 0))) = tgt K b := by
  subst hv
  rw [tgt_eq b h, show cntO 65 = 2 by decide +kernel, show spO 65 = [32] by decide +kernel, show opsT (sTx 65) b = f_T_register ((b >>> ((20 : Int32) &&& 31)) &&& 31) ++ ([44] ++ ([32] ++ (f_T_number (f_F_store b) ++ ([40] ++ (f_T_register ((b >>> ((15 : Int32) &&& 31)) &&& 31) ++ ([41] ++ [])))))) from rfl, show (b >>> ((20 : Int32) &&& 31)) &&& 31 = f_M_part b 20 5 from p_eq 20 5 (by omega) (by omega) (by omega) b, show (b >>> ((15 : Int32) &&& 31)) &&& 31 = f_M_part b 15 5 from p_eq 15 5 (by omega) (by omega) (by omega) b, sReg_n (x := (f_M_part b 20 5)) (p_nat 20 5 (by omega) b), mem_n (x := (f_F_store b)) (y := (f_M_part b 15 5)) (ne_store b) (p_nat 15 5 (by omega) b)]
  simp only [sep_0, sep_1, sep_2, List.append_assoc, List.cons_append, List.nil_append, List.append_nil]
  rfl

theorem fm_63 (K : Nat) (b : Int32) (h : kF K 63) {v : Int32} (hv : v = (ushr b 12)) (bi d a bb f : Int32) : g_M_immediate bi d a bb f v (sReg (f_M_part b 7 5) (0, 1, sTx (kW.getD K 0))) = tgt K b := by
  subst hv
  rw [tgt_eq b h, show cntO 63 = 2 by decide +kernel, show spO 63 = [32] by decide +kernel, show opsT (sTx 63) b = f_T_register ((b >>> ((7 : Int32) &&& 31)) &&& 31) ++ ([44] ++ ([32] ++ (f_T_number (ushr b 12) ++ []))) from rfl, show (b >>> ((7 : Int32) &&& 31)) &&& 31 = f_M_part b 7 5 from p_eq 7 5 (by omega) (by omega) (by omega) b, sReg_n (x := (f_M_part b 7 5)) (p_nat 7 5 (by omega) b), imm_n (x := (ushr b 12)) (ne_u b)]
  simp only [sep_0, sep_1, sep_2, List.append_assoc, List.cons_append, List.nil_append, List.append_nil]
  rfl

theorem fm_102 (K : Nat) (b : Int32) (h : kF K 102) {v : Int32} (hv : v = (f_F_branch b)) (bi d a bb f : Int32) : g_M_target bi d a bb f v (sReg (f_M_part b 20 5) (sReg (f_M_part b 15 5) (0, 1, sTx (kW.getD K 0)))) = tgt K b := by
  subst hv
  rw [tgt_eq b h, show cntO 102 = 3 by decide +kernel, show spO 102 = [32] by decide +kernel, show opsT (sTx 102) b = f_T_register ((b >>> ((15 : Int32) &&& 31)) &&& 31) ++ ([44] ++ ([32] ++ (f_T_register ((b >>> ((20 : Int32) &&& 31)) &&& 31) ++ ([44] ++ ([32] ++ (f_T_offset (f_F_branch b) ++ [])))))) from rfl, show (b >>> ((15 : Int32) &&& 31)) &&& 31 = f_M_part b 15 5 from p_eq 15 5 (by omega) (by omega) (by omega) b, show (b >>> ((20 : Int32) &&& 31)) &&& 31 = f_M_part b 20 5 from p_eq 20 5 (by omega) (by omega) (by omega) b, sReg_n (x := (f_M_part b 15 5)) (p_nat 15 5 (by omega) b), sReg_n (x := (f_M_part b 20 5)) (p_nat 20 5 (by omega) b), tgt_n (x := (f_F_branch b)) (ne_branch b)]
  simp only [sep_0, sep_1, sep_2, List.append_assoc, List.cons_append, List.nil_append, List.append_nil]
  rfl

theorem fm_110 (K : Nat) (b : Int32) (h : kF K 110) {v : Int32} (hv : v = (f_F_jump b)) (bi d a bb f : Int32) : g_M_target bi d a bb f v (sReg (f_M_part b 7 5) (0, 1, sTx (kW.getD K 0))) = tgt K b := by
  subst hv
  rw [tgt_eq b h, show cntO 110 = 2 by decide +kernel, show spO 110 = [32] by decide +kernel, show opsT (sTx 110) b = f_T_register ((b >>> ((7 : Int32) &&& 31)) &&& 31) ++ ([44] ++ ([32] ++ (f_T_offset (f_F_jump b) ++ []))) from rfl, show (b >>> ((7 : Int32) &&& 31)) &&& 31 = f_M_part b 7 5 from p_eq 7 5 (by omega) (by omega) (by omega) b, sReg_n (x := (f_M_part b 7 5)) (p_nat 7 5 (by omega) b), tgt_n (x := (f_F_jump b)) (ne_jump b)]
  simp only [sep_0, sep_1, sep_2, List.append_assoc, List.cons_append, List.nil_append, List.append_nil]
  rfl

theorem fm_112 (K : Nat) (b : Int32) (h : kF K 112)   : sReg (f_M_part b 7 5) (0, 1, sTx (kW.getD K 0)) = tgt K b := by
  rw [tgt_eq b h, show cntO 112 = 1 by decide +kernel, show spO 112 = [32] by decide +kernel, show opsT (sTx 112) b = f_T_register ((b >>> ((7 : Int32) &&& 31)) &&& 31) ++ [] from rfl, show (b >>> ((7 : Int32) &&& 31)) &&& 31 = f_M_part b 7 5 from p_eq 7 5 (by omega) (by omega) (by omega) b, sReg_n (x := (f_M_part b 7 5)) (p_nat 7 5 (by omega) b)]
  simp only [sep_0, sep_1, sep_2, List.append_assoc, List.cons_append, List.nil_append, List.append_nil]
  rfl

theorem fm_119 (K : Nat) (b : Int32) (h : kF K 119) {v : Int32} (hv : v = (f_F_times4 b)) (bi d a bb f : Int32) : g_M_immediate bi d a bb f v (sReg ((8 : Int32) + f_M_part b 2 3) (0, 1, sTx (kW.getD K 0))) = tgt K b := by
  subst hv
  rw [tgt_eq b h, show cntO 119 = 2 by decide +kernel, show spO 119 = [32] by decide +kernel, show opsT (sTx 119) b = f_T_register ((8 : Int32) + ((b >>> ((2 : Int32) &&& 31)) &&& 7)) ++ ([44] ++ ([32] ++ (f_T_number (f_F_times4 b) ++ []))) from rfl, show (b >>> ((2 : Int32) &&& 31)) &&& 7 = f_M_part b 2 3 from p_eq 2 3 (by omega) (by omega) (by omega) b, sReg_n (x := ((8 : Int32) + f_M_part b 2 3)) (p_nat8 2 b), imm_n (x := (f_F_times4 b)) (ne_times4 b)]
  simp only [sep_0, sep_1, sep_2, List.append_assoc, List.cons_append, List.nil_append, List.append_nil]
  rfl

theorem fm_122 (K : Nat) (b : Int32) (h : kF K 122) {v : Int32} (hv : v = (f_F_shortWord b)) (bi d a bb f : Int32) : g_M_memory bi d a bb f v ((8 : Int32) + f_M_part b 7 3) (sReg ((8 : Int32) + f_M_part b 2 3) (0, 1, sTx (kW.getD K 0))) = tgt K b := by
  subst hv
  rw [tgt_eq b h, show cntO 122 = 2 by decide +kernel, show spO 122 = [32] by decide +kernel, show opsT (sTx 122) b = f_T_register ((8 : Int32) + ((b >>> ((2 : Int32) &&& 31)) &&& 7)) ++ ([44] ++ ([32] ++ (f_T_number (f_F_shortWord b) ++ ([40] ++ (f_T_register ((8 : Int32) + ((b >>> ((7 : Int32) &&& 31)) &&& 7)) ++ ([41] ++ [])))))) from rfl, show (b >>> ((2 : Int32) &&& 31)) &&& 7 = f_M_part b 2 3 from p_eq 2 3 (by omega) (by omega) (by omega) b, show (b >>> ((7 : Int32) &&& 31)) &&& 7 = f_M_part b 7 3 from p_eq 7 3 (by omega) (by omega) (by omega) b, sReg_n (x := ((8 : Int32) + f_M_part b 2 3)) (p_nat8 2 b), mem_n (x := (f_F_shortWord b)) (y := ((8 : Int32) + f_M_part b 7 3)) (ne_shortWord b) (p_nat8 7 b)]
  simp only [sep_0, sep_1, sep_2, List.append_assoc, List.cons_append, List.nil_append, List.append_nil]
  rfl

theorem fm_126 (K : Nat) (b : Int32) (h : kF K 126) {v : Int32} (hv : v = (f_F_six b)) (bi d a bb f : Int32) : g_M_immediate bi d a bb f v (sReg (f_M_part b 7 5) (0, 1, sTx (kW.getD K 0))) = tgt K b := by
  subst hv
  rw [tgt_eq b h, show cntO 126 = 2 by decide +kernel, show spO 126 = [32] by decide +kernel, show opsT (sTx 126) b = f_T_register ((b >>> ((7 : Int32) &&& 31)) &&& 31) ++ ([44] ++ ([32] ++ (f_T_number (f_F_six b) ++ []))) from rfl, show (b >>> ((7 : Int32) &&& 31)) &&& 31 = f_M_part b 7 5 from p_eq 7 5 (by omega) (by omega) (by omega) b, sReg_n (x := (f_M_part b 7 5)) (p_nat 7 5 (by omega) b), imm_n (x := (f_F_six b)) (ne_six b)]
  simp only [sep_0, sep_1, sep_2, List.append_assoc, List.cons_append, List.nil_append, List.append_nil]
  rfl

theorem fm_128 (K : Nat) (b : Int32) (h : kF K 128) {v : Int32} (hv : v = (f_F_shortJump b)) (bi d a bb f : Int32) : g_M_target bi d a bb f v (0, 1, sTx (kW.getD K 0)) = tgt K b := by
  subst hv
  rw [tgt_eq b h, show cntO 128 = 1 by decide +kernel, show spO 128 = [32] by decide +kernel, show opsT (sTx 128) b = f_T_offset (f_F_shortJump b) ++ [] from rfl, tgt_n (x := (f_F_shortJump b)) (ne_shortJump b)]
  simp only [sep_0, sep_1, sep_2, List.append_assoc, List.cons_append, List.nil_append, List.append_nil]
  rfl

theorem fm_131 (K : Nat) (b : Int32) (h : kF K 131) {v : Int32} (hv : v = (f_F_times16 b)) (bi d a bb f : Int32) : g_M_immediate bi d a bb f v (0, 1, sTx (kW.getD K 0)) = tgt K b := by
  subst hv
  rw [tgt_eq b h, show cntO 131 = 1 by decide +kernel, show spO 131 = [32] by decide +kernel, show opsT (sTx 131) b = f_T_number (f_F_times16 b) ++ [] from rfl, imm_n (x := (f_F_times16 b)) (ne_times16 b)]
  simp only [sep_0, sep_1, sep_2, List.append_assoc, List.cons_append, List.nil_append, List.append_nil]
  rfl

theorem fm_136 (K : Nat) (b : Int32) (h : kF K 136) {v : Int32} (hv : v = (f_M_part b 2 5)) (bi d a bb f : Int32) : g_M_immediate bi d a bb f v (sReg ((8 : Int32) + f_M_part b 7 3) (0, 1, sTx (kW.getD K 0))) = tgt K b := by
  subst hv
  rw [tgt_eq b h, show cntO 136 = 2 by decide +kernel, show spO 136 = [32] by decide +kernel, show opsT (sTx 136) b = f_T_register ((8 : Int32) + ((b >>> ((7 : Int32) &&& 31)) &&& 7)) ++ ([44] ++ ([32] ++ (f_T_number ((b >>> ((2 : Int32) &&& 31)) &&& 31) ++ []))) from rfl, show (b >>> ((7 : Int32) &&& 31)) &&& 7 = f_M_part b 7 3 from p_eq 7 3 (by omega) (by omega) (by omega) b, show (b >>> ((2 : Int32) &&& 31)) &&& 31 = f_M_part b 2 5 from p_eq 2 5 (by omega) (by omega) (by omega) b, sReg_n (x := ((8 : Int32) + f_M_part b 7 3)) (p_nat8 7 b), imm_n (x := (f_M_part b 2 5)) (part_ne 2 5 (by omega) (by omega) b)]
  simp only [sep_0, sep_1, sep_2, List.append_assoc, List.cons_append, List.nil_append, List.append_nil]
  rfl

theorem fm_134 (K : Nat) (b : Int32) (h : kF K 134) {v : Int32} (hv : v = (f_F_six b)) (bi d a bb f : Int32) : g_M_immediate bi d a bb f v (sReg ((8 : Int32) + f_M_part b 7 3) (0, 1, sTx (kW.getD K 0))) = tgt K b := by
  subst hv
  rw [tgt_eq b h, show cntO 134 = 2 by decide +kernel, show spO 134 = [32] by decide +kernel, show opsT (sTx 134) b = f_T_register ((8 : Int32) + ((b >>> ((7 : Int32) &&& 31)) &&& 7)) ++ ([44] ++ ([32] ++ (f_T_number (f_F_six b) ++ []))) from rfl, show (b >>> ((7 : Int32) &&& 31)) &&& 7 = f_M_part b 7 3 from p_eq 7 3 (by omega) (by omega) (by omega) b, sReg_n (x := ((8 : Int32) + f_M_part b 7 3)) (p_nat8 7 b), imm_n (x := (f_F_six b)) (ne_six b)]
  simp only [sep_0, sep_1, sep_2, List.append_assoc, List.cons_append, List.nil_append, List.append_nil]
  rfl

theorem fm_139 (K : Nat) (b : Int32) (h : kF K 139)   : sReg ((8 : Int32) + f_M_part b 2 3) (sReg ((8 : Int32) + f_M_part b 7 3) (0, 1, sTx (kW.getD K 0))) = tgt K b := by
  rw [tgt_eq b h, show cntO 139 = 2 by decide +kernel, show spO 139 = [32] by decide +kernel, show opsT (sTx 139) b = f_T_register ((8 : Int32) + ((b >>> ((7 : Int32) &&& 31)) &&& 7)) ++ ([44] ++ ([32] ++ (f_T_register ((8 : Int32) + ((b >>> ((2 : Int32) &&& 31)) &&& 7)) ++ []))) from rfl, show (b >>> ((7 : Int32) &&& 31)) &&& 7 = f_M_part b 7 3 from p_eq 7 3 (by omega) (by omega) (by omega) b, show (b >>> ((2 : Int32) &&& 31)) &&& 7 = f_M_part b 2 3 from p_eq 2 3 (by omega) (by omega) (by omega) b, sReg_n (x := ((8 : Int32) + f_M_part b 7 3)) (p_nat8 7 b), sReg_n (x := ((8 : Int32) + f_M_part b 2 3)) (p_nat8 2 b)]
  simp only [sep_0, sep_1, sep_2, List.append_assoc, List.cons_append, List.nil_append, List.append_nil]
  rfl

theorem fm_145 (K : Nat) (b : Int32) (h : kF K 145) {v : Int32} (hv : v = (f_F_shortBranch b)) (bi d a bb f : Int32) : g_M_target bi d a bb f v (sReg ((8 : Int32) + f_M_part b 7 3) (0, 1, sTx (kW.getD K 0))) = tgt K b := by
  subst hv
  rw [tgt_eq b h, show cntO 145 = 2 by decide +kernel, show spO 145 = [32] by decide +kernel, show opsT (sTx 145) b = f_T_register ((8 : Int32) + ((b >>> ((7 : Int32) &&& 31)) &&& 7)) ++ ([44] ++ ([32] ++ (f_T_offset (f_F_shortBranch b) ++ []))) from rfl, show (b >>> ((7 : Int32) &&& 31)) &&& 7 = f_M_part b 7 3 from p_eq 7 3 (by omega) (by omega) (by omega) b, sReg_n (x := ((8 : Int32) + f_M_part b 7 3)) (p_nat8 7 b), tgt_n (x := (f_F_shortBranch b)) (ne_shortBranch b)]
  simp only [sep_0, sep_1, sep_2, List.append_assoc, List.cons_append, List.nil_append, List.append_nil]
  rfl

theorem fm_148 (K : Nat) (b : Int32) (h : kF K 148) {v : Int32} (hv : v = (f_M_part b 2 5)) (bi d a bb f : Int32) : g_M_immediate bi d a bb f v (sReg (f_M_part b 7 5) (0, 1, sTx (kW.getD K 0))) = tgt K b := by
  subst hv
  rw [tgt_eq b h, show cntO 148 = 2 by decide +kernel, show spO 148 = [32] by decide +kernel, show opsT (sTx 148) b = f_T_register ((b >>> ((7 : Int32) &&& 31)) &&& 31) ++ ([44] ++ ([32] ++ (f_T_number ((b >>> ((2 : Int32) &&& 31)) &&& 31) ++ []))) from rfl, show (b >>> ((7 : Int32) &&& 31)) &&& 31 = f_M_part b 7 5 from p_eq 7 5 (by omega) (by omega) (by omega) b, show (b >>> ((2 : Int32) &&& 31)) &&& 31 = f_M_part b 2 5 from p_eq 2 5 (by omega) (by omega) (by omega) b, sReg_n (x := (f_M_part b 7 5)) (p_nat 7 5 (by omega) b), imm_n (x := (f_M_part b 2 5)) (part_ne 2 5 (by omega) (by omega) b)]
  simp only [sep_0, sep_1, sep_2, List.append_assoc, List.cons_append, List.nil_append, List.append_nil]
  rfl

theorem fm_150 (K : Nat) (b : Int32) (h : kF K 150) {v : Int32} (hv : v = (f_F_stackLoad b)) (bi d a bb f : Int32) : g_M_immediate bi d a bb f v (sReg (f_M_part b 7 5) (0, 1, sTx (kW.getD K 0))) = tgt K b := by
  subst hv
  rw [tgt_eq b h, show cntO 150 = 2 by decide +kernel, show spO 150 = [32] by decide +kernel, show opsT (sTx 150) b = f_T_register ((b >>> ((7 : Int32) &&& 31)) &&& 31) ++ ([44] ++ ([32] ++ (f_T_number (f_F_stackLoad b) ++ []))) from rfl, show (b >>> ((7 : Int32) &&& 31)) &&& 31 = f_M_part b 7 5 from p_eq 7 5 (by omega) (by omega) (by omega) b, sReg_n (x := (f_M_part b 7 5)) (p_nat 7 5 (by omega) b), imm_n (x := (f_F_stackLoad b)) (ne_stackLoad b)]
  simp only [sep_0, sep_1, sep_2, List.append_assoc, List.cons_append, List.nil_append, List.append_nil]
  rfl

theorem fm_152 (K : Nat) (b : Int32) (h : kF K 152)   : sReg (f_M_part b 2 5) (sReg (f_M_part b 7 5) (0, 1, sTx (kW.getD K 0))) = tgt K b := by
  rw [tgt_eq b h, show cntO 152 = 2 by decide +kernel, show spO 152 = [32] by decide +kernel, show opsT (sTx 152) b = f_T_register ((b >>> ((7 : Int32) &&& 31)) &&& 31) ++ ([44] ++ ([32] ++ (f_T_register ((b >>> ((2 : Int32) &&& 31)) &&& 31) ++ []))) from rfl, show (b >>> ((7 : Int32) &&& 31)) &&& 31 = f_M_part b 7 5 from p_eq 7 5 (by omega) (by omega) (by omega) b, show (b >>> ((2 : Int32) &&& 31)) &&& 31 = f_M_part b 2 5 from p_eq 2 5 (by omega) (by omega) (by omega) b, sReg_n (x := (f_M_part b 7 5)) (p_nat 7 5 (by omega) b), sReg_n (x := (f_M_part b 2 5)) (p_nat 2 5 (by omega) b)]
  simp only [sep_0, sep_1, sep_2, List.append_assoc, List.cons_append, List.nil_append, List.append_nil]
  rfl

theorem fm_158 (K : Nat) (b : Int32) (h : kF K 158) {v : Int32} (hv : v = (f_F_stackStore b)) (bi d a bb f : Int32) : g_M_immediate bi d a bb f v (sReg (f_M_part b 2 5) (0, 1, sTx (kW.getD K 0))) = tgt K b := by
  subst hv
  rw [tgt_eq b h, show cntO 158 = 2 by decide +kernel, show spO 158 = [32] by decide +kernel, show opsT (sTx 158) b = f_T_register ((b >>> ((2 : Int32) &&& 31)) &&& 31) ++ ([44] ++ ([32] ++ (f_T_number (f_F_stackStore b) ++ []))) from rfl, show (b >>> ((2 : Int32) &&& 31)) &&& 31 = f_M_part b 2 5 from p_eq 2 5 (by omega) (by omega) (by omega) b, sReg_n (x := (f_M_part b 2 5)) (p_nat 2 5 (by omega) b), imm_n (x := (f_F_stackStore b)) (ne_stackStore b)]
  simp only [sep_0, sep_1, sep_2, List.append_assoc, List.cons_append, List.nil_append, List.append_nil]
  rfl

theorem fm_72 (K : Nat) (b : Int32) (h : kG K 72)   : sBra (f_M_part b 15 5) (sNext (sReg (f_M_part b 7 5) (0, 1, sTx (kW.getD K 0) ++ f_T_order (f_M_part b 25 2)))) = tgt K b := by
  rw [tgt_eqO b h, show cntO 72 = 2 by decide +kernel, show spO 72 = [32] by decide +kernel, show opsT (sTx 72) b = f_T_register ((b >>> ((7 : Int32) &&& 31)) &&& 31) ++ ([44] ++ ([32] ++ ([40] ++ (f_T_register ((b >>> ((15 : Int32) &&& 31)) &&& 31) ++ ([41] ++ []))))) from rfl, show (b >>> ((7 : Int32) &&& 31)) &&& 31 = f_M_part b 7 5 from p_eq 7 5 (by omega) (by omega) (by omega) b, show (b >>> ((15 : Int32) &&& 31)) &&& 31 = f_M_part b 15 5 from p_eq 15 5 (by omega) (by omega) (by omega) b, sReg_n (x := (f_M_part b 7 5)) (p_nat 7 5 (by omega) b), sNext_n, sBra_n (x := (f_M_part b 15 5)) (p_nat 15 5 (by omega) b)]
  simp only [sep_0, sep_1, sep_2, List.append_assoc, List.cons_append, List.nil_append, List.append_nil]
  rfl

theorem fm_69 (K : Nat) (b : Int32) (h : kG K 69)   : sBra (f_M_part b 15 5) (sNext (sReg (f_M_part b 20 5) (sReg (f_M_part b 7 5) (0, 1, sTx (kW.getD K 0) ++ f_T_order (f_M_part b 25 2))))) = tgt K b := by
  rw [tgt_eqO b h, show cntO 69 = 3 by decide +kernel, show spO 69 = [32] by decide +kernel, show opsT (sTx 69) b = f_T_register ((b >>> ((7 : Int32) &&& 31)) &&& 31) ++ ([44] ++ ([32] ++ (f_T_register ((b >>> ((20 : Int32) &&& 31)) &&& 31) ++ ([44] ++ ([32] ++ ([40] ++ (f_T_register ((b >>> ((15 : Int32) &&& 31)) &&& 31) ++ ([41] ++ [])))))))) from rfl, show (b >>> ((7 : Int32) &&& 31)) &&& 31 = f_M_part b 7 5 from p_eq 7 5 (by omega) (by omega) (by omega) b, show (b >>> ((20 : Int32) &&& 31)) &&& 31 = f_M_part b 20 5 from p_eq 20 5 (by omega) (by omega) (by omega) b, show (b >>> ((15 : Int32) &&& 31)) &&& 31 = f_M_part b 15 5 from p_eq 15 5 (by omega) (by omega) (by omega) b, sReg_n (x := (f_M_part b 7 5)) (p_nat 7 5 (by omega) b), sReg_n (x := (f_M_part b 20 5)) (p_nat 20 5 (by omega) b), sNext_n, sBra_n (x := (f_M_part b 15 5)) (p_nat 15 5 (by omega) b)]
  simp only [sep_0, sep_1, sep_2, List.append_assoc, List.cons_append, List.nil_append, List.append_nil]
  rfl

theorem fm_47 (K : Nat) (b : Int32) (h : kF K 47) : (0, 1, sTx (kW.getD K 0)) = tgt K b := by
  rw [tgt_eq b h, show cntO 47 = 0 by decide +kernel, show spO 47 = [] by decide +kernel, show opsT (sTx 47) b = [] from rfl, List.append_nil, List.append_nil]
theorem fm_w (b : Int32) : sDig (uB b) (sNext (sSay 431416637230 s00)) = tgt 0 b := by
  have e : tgt 0 b = (1, 0, sTx 44 ++ ([] ++ ([32] ++ opsT (sTx 45) b))) := rfl
  rw [e, show opsT (sTx 45) b = f_T_digits (b.toInt64 &&& 4294967295) ++ [] from rfl, uB_and, dg_n (uB_lt b), show sSay 431416637230 s00 = (0, 0, sTx 44) by decide +kernel, sNext_n, sDig, sep_0]
  simp only [List.append_assoc, List.append_nil, List.nil_append]
  rfl
theorem fm_h (b : Int32) : sDig (uB b) (sNext (sSay 439904987182 s00)) = tgt 1 b := by
  have e : tgt 1 b = (1, 0, sTx 120 ++ ([] ++ ([32] ++ opsT (sTx 45) b))) := rfl
  rw [e, show opsT (sTx 45) b = f_T_digits (b.toInt64 &&& 4294967295) ++ [] from rfl, uB_and, dg_n (uB_lt b), show sSay 439904987182 s00 = (0, 0, sTx 120) by decide +kernel, sNext_n, sDig, sep_0]
  simp only [List.append_assoc, List.append_nil, List.nil_append]
  rfl
