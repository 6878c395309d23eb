def wl (K : Nat) (b : Int32) : MT := if K ≤ 1 then s00 else tgt K b
theorem lf {x y : MT} (h : x = y) (F : MT → MT) {r : MT} (hf : F y = r) : F x = r := by rw [h]; exact hf

set_option maxRecDepth 20000 in
theorem t_loads (b : Int32) : g_M_loads b (f_M_part b 7 5) (f_M_part b 15 5) (f_M_part b 20 5) (f_M_part b 12 3) s00 = wl (f_L_load (f_M_part b 12 3)) b := by
  obtain ⟨j, hj, e⟩ := p_nat 12 3 (by omega) b
  rw [show f_M_part b 12 3 = nI j from e]
  match j, hj with
  | 0, _ => exact lf (x := sName 25196 s00) (y := (0, 1, sTx (kW.getD 29 0))) (by decide +kernel) (fun z => g_M_memory b (f_M_part b 7 5) (f_M_part b 15 5) (f_M_part b 20 5) (nI 0) (b >>> ((20 : Int32) &&& 31)) (f_M_part b 15 5) (sReg (f_M_part b 7 5) z)) (fm_39 29 b (by decide +kernel) rfl _ _ _ _ _)
  | 1, _ => exact lf (x := sName 26732 s00) (y := (0, 1, sTx (kW.getD 30 0))) (by decide +kernel) (fun z => g_M_memory b (f_M_part b 7 5) (f_M_part b 15 5) (f_M_part b 20 5) (nI 1) (b >>> ((20 : Int32) &&& 31)) (f_M_part b 15 5) (sReg (f_M_part b 7 5) z)) (fm_39 30 b (by decide +kernel) rfl _ _ _ _ _)
  | 2, _ => exact lf (x := sName 30572 s00) (y := (0, 1, sTx (kW.getD 31 0))) (by decide +kernel) (fun z => g_M_memory b (f_M_part b 7 5) (f_M_part b 15 5) (f_M_part b 20 5) (nI 2) (b >>> ((20 : Int32) &&& 31)) (f_M_part b 15 5) (sReg (f_M_part b 7 5) z)) (fm_39 31 b (by decide +kernel) rfl _ _ _ _ _)
  | 3, _ => exact rfl
  | 4, _ => exact lf (x := sName 7692908 s00) (y := (0, 1, sTx (kW.getD 32 0))) (by decide +kernel) (fun z => g_M_memory b (f_M_part b 7 5) (f_M_part b 15 5) (f_M_part b 20 5) (nI 4) (b >>> ((20 : Int32) &&& 31)) (f_M_part b 15 5) (sReg (f_M_part b 7 5) z)) (fm_39 32 b (by decide +kernel) rfl _ _ _ _ _)
  | 5, _ => exact lf (x := sName 7694444 s00) (y := (0, 1, sTx (kW.getD 33 0))) (by decide +kernel) (fun z => g_M_memory b (f_M_part b 7 5) (f_M_part b 15 5) (f_M_part b 20 5) (nI 5) (b >>> ((20 : Int32) &&& 31)) (f_M_part b 15 5) (sReg (f_M_part b 7 5) z)) (fm_39 33 b (by decide +kernel) rfl _ _ _ _ _)
  | 6, _ => exact rfl
  | 7, _ => exact rfl
  | n + 8, h => exact absurd h (by omega)

set_option maxRecDepth 20000 in
theorem t_stores (b : Int32) : g_M_stores b (f_M_part b 7 5) (f_M_part b 15 5) (f_M_part b 20 5) (f_M_part b 12 3) s00 = wl (f_L_store (f_M_part b 12 3)) b := by
  obtain ⟨j, hj, e⟩ := p_nat 12 3 (by omega) b
  rw [show f_M_part b 12 3 = nI j from e]
  match j, hj with
  | 0, _ => exact lf (x := sName 25203 s00) (y := (0, 1, sTx (kW.getD 35 0))) (by decide +kernel) (fun z => g_M_memory b (f_M_part b 7 5) (f_M_part b 15 5) (f_M_part b 20 5) (nI 0) (((b >>> ((25 : Int32) &&& 31)) <<< ((5 : Int32) &&& 31)) ||| (f_M_part b 7 5)) (f_M_part b 15 5) (sReg (f_M_part b 20 5) z)) (fm_65 35 b (by decide +kernel) (q_store b).symm _ _ _ _ _)
  | 1, _ => exact lf (x := sName 26739 s00) (y := (0, 1, sTx (kW.getD 36 0))) (by decide +kernel) (fun z => g_M_memory b (f_M_part b 7 5) (f_M_part b 15 5) (f_M_part b 20 5) (nI 1) (((b >>> ((25 : Int32) &&& 31)) <<< ((5 : Int32) &&& 31)) ||| (f_M_part b 7 5)) (f_M_part b 15 5) (sReg (f_M_part b 20 5) z)) (fm_65 36 b (by decide +kernel) (q_store b).symm _ _ _ _ _)
  | 2, _ => exact lf (x := sName 30579 s00) (y := (0, 1, sTx (kW.getD 37 0))) (by decide +kernel) (fun z => g_M_memory b (f_M_part b 7 5) (f_M_part b 15 5) (f_M_part b 20 5) (nI 2) (((b >>> ((25 : Int32) &&& 31)) <<< ((5 : Int32) &&& 31)) ||| (f_M_part b 7 5)) (f_M_part b 15 5) (sReg (f_M_part b 20 5) z)) (fm_65 37 b (by decide +kernel) (q_store b).symm _ _ _ _ _)
  | 3, _ => exact rfl
  | 4, _ => exact rfl
  | 5, _ => exact rfl
  | 6, _ => exact rfl
  | 7, _ => exact rfl
  | n + 8, h => exact absurd h (by omega)

set_option maxRecDepth 20000 in
theorem t_branches (b : Int32) : g_M_branches b (f_M_part b 7 5) (f_M_part b 15 5) (f_M_part b 20 5) (f_M_part b 12 3) s00 = wl (f_L_branch (f_M_part b 12 3)) b := by
  obtain ⟨j, hj, e⟩ := p_nat 12 3 (by omega) b
  rw [show f_M_part b 12 3 = nI j from e]
  match j, hj with
  | 0, _ => exact lf (x := sName 7431522 s00) (y := (0, 1, sTx (kW.getD 40 0))) (by decide +kernel) (fun z => g_M_target b (f_M_part b 7 5) (f_M_part b 15 5) (f_M_part b 20 5) (nI 0) (((((b >>> ((31 : Int32) &&& 31)) <<< ((12 : Int32) &&& 31)) ||| ((f_M_part b 7 1) <<< ((11 : Int32) &&& 31))) ||| ((f_M_part b 25 6) <<< ((5 : Int32) &&& 31))) ||| ((f_M_part b 8 4) <<< ((1 : Int32) &&& 31))) (sReg (f_M_part b 20 5) (sReg (f_M_part b 15 5) z))) (fm_102 40 b (by decide +kernel) (q_branch b).symm _ _ _ _ _)
  | 1, _ => exact lf (x := sName 6647394 s00) (y := (0, 1, sTx (kW.getD 41 0))) (by decide +kernel) (fun z => g_M_target b (f_M_part b 7 5) (f_M_part b 15 5) (f_M_part b 20 5) (nI 1) (((((b >>> ((31 : Int32) &&& 31)) <<< ((12 : Int32) &&& 31)) ||| ((f_M_part b 7 1) <<< ((11 : Int32) &&& 31))) ||| ((f_M_part b 25 6) <<< ((5 : Int32) &&& 31))) ||| ((f_M_part b 8 4) <<< ((1 : Int32) &&& 31))) (sReg (f_M_part b 20 5) (sReg (f_M_part b 15 5) z))) (fm_102 41 b (by decide +kernel) (q_branch b).symm _ _ _ _ _)
  | 2, _ => exact rfl
  | 3, _ => exact rfl
  | 4, _ => exact lf (x := sName 7629922 s00) (y := (0, 1, sTx (kW.getD 42 0))) (by decide +kernel) (fun z => g_M_target b (f_M_part b 7 5) (f_M_part b 15 5) (f_M_part b 20 5) (nI 4) (((((b >>> ((31 : Int32) &&& 31)) <<< ((12 : Int32) &&& 31)) ||| ((f_M_part b 7 1) <<< ((11 : Int32) &&& 31))) ||| ((f_M_part b 25 6) <<< ((5 : Int32) &&& 31))) ||| ((f_M_part b 8 4) <<< ((1 : Int32) &&& 31))) (sReg (f_M_part b 20 5) (sReg (f_M_part b 15 5) z))) (fm_102 42 b (by decide +kernel) (q_branch b).symm _ _ _ _ _)
  | 5, _ => exact lf (x := sName 6645602 s00) (y := (0, 1, sTx (kW.getD 43 0))) (by decide +kernel) (fun z => g_M_target b (f_M_part b 7 5) (f_M_part b 15 5) (f_M_part b 20 5) (nI 5) (((((b >>> ((31 : Int32) &&& 31)) <<< ((12 : Int32) &&& 31)) ||| ((f_M_part b 7 1) <<< ((11 : Int32) &&& 31))) ||| ((f_M_part b 25 6) <<< ((5 : Int32) &&& 31))) ||| ((f_M_part b 8 4) <<< ((1 : Int32) &&& 31))) (sReg (f_M_part b 20 5) (sReg (f_M_part b 15 5) z))) (fm_102 43 b (by decide +kernel) (q_branch b).symm _ _ _ _ _)
  | 6, _ => exact lf (x := sName 1970564194 s00) (y := (0, 1, sTx (kW.getD 44 0))) (by decide +kernel) (fun z => g_M_target b (f_M_part b 7 5) (f_M_part b 15 5) (f_M_part b 20 5) (nI 6) (((((b >>> ((31 : Int32) &&& 31)) <<< ((12 : Int32) &&& 31)) ||| ((f_M_part b 7 1) <<< ((11 : Int32) &&& 31))) ||| ((f_M_part b 25 6) <<< ((5 : Int32) &&& 31))) ||| ((f_M_part b 8 4) <<< ((1 : Int32) &&& 31))) (sReg (f_M_part b 20 5) (sReg (f_M_part b 15 5) z))) (fm_102 44 b (by decide +kernel) (q_branch b).symm _ _ _ _ _)
  | 7, _ => exact lf (x := sName 1969579874 s00) (y := (0, 1, sTx (kW.getD 45 0))) (by decide +kernel) (fun z => g_M_target b (f_M_part b 7 5) (f_M_part b 15 5) (f_M_part b 20 5) (nI 7) (((((b >>> ((31 : Int32) &&& 31)) <<< ((12 : Int32) &&& 31)) ||| ((f_M_part b 7 1) <<< ((11 : Int32) &&& 31))) ||| ((f_M_part b 25 6) <<< ((5 : Int32) &&& 31))) ||| ((f_M_part b 8 4) <<< ((1 : Int32) &&& 31))) (sReg (f_M_part b 20 5) (sReg (f_M_part b 15 5) z))) (fm_102 45 b (by decide +kernel) (q_branch b).symm _ _ _ _ _)
  | n + 8, h => exact absurd h (by omega)

set_option maxRecDepth 20000 in
theorem t_plain0 (b : Int32) : g_M_plain b (f_M_part b 7 5) (f_M_part b 15 5) (f_M_part b 20 5) (f_M_part b 12 3) 0 s00 = wl (f_L_ofRegisters (f_M_part b 12 3) 0) b := by
  obtain ⟨j, hj, e⟩ := p_nat 12 3 (by omega) b
  rw [show f_M_part b 12 3 = nI j from e]
  match j, hj with
  | 0, _ => exact lf (x := sName 6579297 s00) (y := (0, 1, sTx (kW.getD 2 0))) (by decide +kernel) (fun z => sReg (f_M_part b 20 5) (sReg (f_M_part b 15 5) (sReg (f_M_part b 7 5) z))) (fm_82 2 b (by decide +kernel))
  | 1, _ => exact lf (x := sName 7105651 s00) (y := (0, 1, sTx (kW.getD 4 0))) (by decide +kernel) (fun z => sReg (f_M_part b 20 5) (sReg (f_M_part b 15 5) (sReg (f_M_part b 7 5) z))) (fm_82 4 b (by decide +kernel))
  | 2, _ => exact lf (x := sName 7629939 s00) (y := (0, 1, sTx (kW.getD 5 0))) (by decide +kernel) (fun z => sReg (f_M_part b 20 5) (sReg (f_M_part b 15 5) (sReg (f_M_part b 7 5) z))) (fm_82 5 b (by decide +kernel))
  | 3, _ => exact lf (x := sName 1970564211 s00) (y := (0, 1, sTx (kW.getD 6 0))) (by decide +kernel) (fun z => sReg (f_M_part b 20 5) (sReg (f_M_part b 15 5) (sReg (f_M_part b 7 5) z))) (fm_82 6 b (by decide +kernel))
  | 4, _ => exact lf (x := sName 7499640 s00) (y := (0, 1, sTx (kW.getD 7 0))) (by decide +kernel) (fun z => sReg (f_M_part b 20 5) (sReg (f_M_part b 15 5) (sReg (f_M_part b 7 5) z))) (fm_82 7 b (by decide +kernel))
  | 5, _ => exact lf (x := sName 7107187 s00) (y := (0, 1, sTx (kW.getD 8 0))) (by decide +kernel) (fun z => sReg (f_M_part b 20 5) (sReg (f_M_part b 15 5) (sReg (f_M_part b 7 5) z))) (fm_82 8 b (by decide +kernel))
  | 6, _ => exact lf (x := sName 29295 s00) (y := (0, 1, sTx (kW.getD 10 0))) (by decide +kernel) (fun z => sReg (f_M_part b 20 5) (sReg (f_M_part b 15 5) (sReg (f_M_part b 7 5) z))) (fm_82 10 b (by decide +kernel))
  | 7, _ => exact lf (x := sName 6581857 s00) (y := (0, 1, sTx (kW.getD 11 0))) (by decide +kernel) (fun z => sReg (f_M_part b 20 5) (sReg (f_M_part b 15 5) (sReg (f_M_part b 7 5) z))) (fm_82 11 b (by decide +kernel))
  | n + 8, h => exact absurd h (by omega)

set_option maxRecDepth 20000 in
theorem t_plain1 (b : Int32) : g_M_plain b (f_M_part b 7 5) (f_M_part b 15 5) (f_M_part b 20 5) (f_M_part b 12 3) 1 s00 = wl (f_L_ofRegisters (f_M_part b 12 3) 1) b := by
  obtain ⟨j, hj, e⟩ := p_nat 12 3 (by omega) b
  rw [show f_M_part b 12 3 = nI j from e]
  match j, hj with
  | 0, _ => exact lf (x := sName 7107949 s00) (y := (0, 1, sTx (kW.getD 12 0))) (by decide +kernel) (fun z => sReg (f_M_part b 20 5) (sReg (f_M_part b 15 5) (sReg (f_M_part b 7 5) z))) (fm_82 12 b (by decide +kernel))
  | 1, _ => exact lf (x := sName 1751938413 s00) (y := (0, 1, sTx (kW.getD 13 0))) (by decide +kernel) (fun z => sReg (f_M_part b 20 5) (sReg (f_M_part b 15 5) (sReg (f_M_part b 7 5) z))) (fm_82 13 b (by decide +kernel))
  | 2, _ => exact lf (x := sName 129138533627245 s00) (y := (0, 1, sTx (kW.getD 14 0))) (by decide +kernel) (fun z => sReg (f_M_part b 20 5) (sReg (f_M_part b 15 5) (sReg (f_M_part b 7 5) z))) (fm_82 14 b (by decide +kernel))
  | 3, _ => exact lf (x := sName 504263112045 s00) (y := (0, 1, sTx (kW.getD 15 0))) (by decide +kernel) (fun z => sReg (f_M_part b 20 5) (sReg (f_M_part b 15 5) (sReg (f_M_part b 7 5) z))) (fm_82 15 b (by decide +kernel))
  | 4, _ => exact lf (x := sName 7760228 s00) (y := (0, 1, sTx (kW.getD 16 0))) (by decide +kernel) (fun z => sReg (f_M_part b 20 5) (sReg (f_M_part b 15 5) (sReg (f_M_part b 7 5) z))) (fm_82 16 b (by decide +kernel))
  | 5, _ => exact lf (x := sName 1970694500 s00) (y := (0, 1, sTx (kW.getD 17 0))) (by decide +kernel) (fun z => sReg (f_M_part b 20 5) (sReg (f_M_part b 15 5) (sReg (f_M_part b 7 5) z))) (fm_82 17 b (by decide +kernel))
  | 6, _ => exact lf (x := sName 7169394 s00) (y := (0, 1, sTx (kW.getD 18 0))) (by decide +kernel) (fun z => sReg (f_M_part b 20 5) (sReg (f_M_part b 15 5) (sReg (f_M_part b 7 5) z))) (fm_82 18 b (by decide +kernel))
  | 7, _ => exact lf (x := sName 1970103666 s00) (y := (0, 1, sTx (kW.getD 19 0))) (by decide +kernel) (fun z => sReg (f_M_part b 20 5) (sReg (f_M_part b 15 5) (sReg (f_M_part b 7 5) z))) (fm_82 19 b (by decide +kernel))
  | n + 8, h => exact absurd h (by omega)

set_option maxRecDepth 20000 in
theorem t_plain32 (b : Int32) : g_M_plain b (f_M_part b 7 5) (f_M_part b 15 5) (f_M_part b 20 5) (f_M_part b 12 3) 32 s00 = wl (f_L_ofRegisters (f_M_part b 12 3) 32) b := by
  obtain ⟨j, hj, e⟩ := p_nat 12 3 (by omega) b
  rw [show f_M_part b 12 3 = nI j from e]
  match j, hj with
  | 0, _ => exact lf (x := sName 6452595 s00) (y := (0, 1, sTx (kW.getD 3 0))) (by decide +kernel) (fun z => sReg (f_M_part b 20 5) (sReg (f_M_part b 15 5) (sReg (f_M_part b 7 5) z))) (fm_82 3 b (by decide +kernel))
  | 1, _ => exact rfl
  | 2, _ => exact rfl
  | 3, _ => exact rfl
  | 4, _ => exact rfl
  | 5, _ => exact lf (x := sName 6386291 s00) (y := (0, 1, sTx (kW.getD 9 0))) (by decide +kernel) (fun z => sReg (f_M_part b 20 5) (sReg (f_M_part b 15 5) (sReg (f_M_part b 7 5) z))) (fm_82 9 b (by decide +kernel))
  | 6, _ => exact rfl
  | 7, _ => exact rfl
  | n + 8, h => exact absurd h (by omega)

theorem t_plain (b g : Int32) : g_M_plain b (f_M_part b 7 5) (f_M_part b 15 5) (f_M_part b 20 5) (f_M_part b 12 3) g s00 = wl (f_L_ofRegisters (f_M_part b 12 3) g) b := by
  by_cases h0 : g = 0
  · subst h0; exact t_plain0 b
  by_cases h1 : g = 1
  · subst h1; exact t_plain1 b
  by_cases h2 : g = 32
  · subst h2; exact t_plain32 b
  rw [g_M_plain, if_neg h0, if_neg h1, if_neg h2, f_L_ofRegisters, if_neg h0, if_neg h1, if_neg h2]
  rfl

set_option maxRecDepth 20000 in
theorem t_twos0 (b : Int32) : g_M_twos b (f_M_part b 7 5) (f_M_part b 15 5) (f_M_part b 20 5) (f_M_part b 12 3) 0 s00 = wl (f_L_withNumber (f_M_part b 12 3) 0) b := by
  obtain ⟨j, hj, e⟩ := p_nat 12 3 (by omega) b
  rw [show f_M_part b 12 3 = nI j from e]
  match j, hj with
  | 0, _ => exact lf (x := sName 1768186977 s00) (y := (0, 1, sTx (kW.getD 20 0))) (by decide +kernel) (fun z => g_M_immediate b (f_M_part b 7 5) (f_M_part b 15 5) (f_M_part b 20 5) (nI 0) (b >>> ((20 : Int32) &&& 31)) (sReg (f_M_part b 15 5) (sReg (f_M_part b 7 5) z))) (fm_52 20 b (by decide +kernel) rfl _ _ _ _ _)
  | 1, _ => exact lf (x := sName 1768713331 s00) (y := (0, 1, sTx (kW.getD 26 0))) (by decide +kernel) (fun z => g_M_immediate b (f_M_part b 7 5) (f_M_part b 15 5) (f_M_part b 20 5) (nI 1) (f_M_part b 20 5) (sReg (f_M_part b 15 5) (sReg (f_M_part b 7 5) z))) (fm_54 26 b (by decide +kernel) rfl _ _ _ _ _)
  | 2, _ => exact lf (x := sName 1769237619 s00) (y := (0, 1, sTx (kW.getD 21 0))) (by decide +kernel) (fun z => g_M_immediate b (f_M_part b 7 5) (f_M_part b 15 5) (f_M_part b 20 5) (nI 2) (b >>> ((20 : Int32) &&& 31)) (sReg (f_M_part b 15 5) (sReg (f_M_part b 7 5) z))) (fm_52 21 b (by decide +kernel) rfl _ _ _ _ _)
  | 3, _ => exact lf (x := sName 504280411251 s00) (y := (0, 1, sTx (kW.getD 22 0))) (by decide +kernel) (fun z => g_M_immediate b (f_M_part b 7 5) (f_M_part b 15 5) (f_M_part b 20 5) (nI 3) (b >>> ((20 : Int32) &&& 31)) (sReg (f_M_part b 15 5) (sReg (f_M_part b 7 5) z))) (fm_52 22 b (by decide +kernel) rfl _ _ _ _ _)
  | 4, _ => exact lf (x := sName 1769107320 s00) (y := (0, 1, sTx (kW.getD 23 0))) (by decide +kernel) (fun z => g_M_immediate b (f_M_part b 7 5) (f_M_part b 15 5) (f_M_part b 20 5) (nI 4) (b >>> ((20 : Int32) &&& 31)) (sReg (f_M_part b 15 5) (sReg (f_M_part b 7 5) z))) (fm_52 23 b (by decide +kernel) rfl _ _ _ _ _)
  | 5, _ => exact lf (x := sName 1768714867 s00) (y := (0, 1, sTx (kW.getD 27 0))) (by decide +kernel) (fun z => g_M_immediate b (f_M_part b 7 5) (f_M_part b 15 5) (f_M_part b 20 5) (nI 5) (f_M_part b 20 5) (sReg (f_M_part b 15 5) (sReg (f_M_part b 7 5) z))) (fm_54 27 b (by decide +kernel) rfl _ _ _ _ _)
  | 6, _ => exact lf (x := sName 6910575 s00) (y := (0, 1, sTx (kW.getD 24 0))) (by decide +kernel) (fun z => g_M_immediate b (f_M_part b 7 5) (f_M_part b 15 5) (f_M_part b 20 5) (nI 6) (b >>> ((20 : Int32) &&& 31)) (sReg (f_M_part b 15 5) (sReg (f_M_part b 7 5) z))) (fm_52 24 b (by decide +kernel) rfl _ _ _ _ _)
  | 7, _ => exact lf (x := sName 1768189537 s00) (y := (0, 1, sTx (kW.getD 25 0))) (by decide +kernel) (fun z => g_M_immediate b (f_M_part b 7 5) (f_M_part b 15 5) (f_M_part b 20 5) (nI 7) (b >>> ((20 : Int32) &&& 31)) (sReg (f_M_part b 15 5) (sReg (f_M_part b 7 5) z))) (fm_52 25 b (by decide +kernel) rfl _ _ _ _ _)
  | n + 8, h => exact absurd h (by omega)

set_option maxRecDepth 20000 in
theorem t_twos32 (b : Int32) : g_M_twos b (f_M_part b 7 5) (f_M_part b 15 5) (f_M_part b 20 5) (f_M_part b 12 3) 32 s00 = wl (f_L_withNumber (f_M_part b 12 3) 32) b := by
  obtain ⟨j, hj, e⟩ := p_nat 12 3 (by omega) b
  rw [show f_M_part b 12 3 = nI j from e]
  match j, hj with
  | 0, _ => exact lf (x := sName 1768186977 s00) (y := (0, 1, sTx (kW.getD 20 0))) (by decide +kernel) (fun z => g_M_immediate b (f_M_part b 7 5) (f_M_part b 15 5) (f_M_part b 20 5) (nI 0) (b >>> ((20 : Int32) &&& 31)) (sReg (f_M_part b 15 5) (sReg (f_M_part b 7 5) z))) (fm_52 20 b (by decide +kernel) rfl _ _ _ _ _)
  | 1, _ => exact rfl
  | 2, _ => exact lf (x := sName 1769237619 s00) (y := (0, 1, sTx (kW.getD 21 0))) (by decide +kernel) (fun z => g_M_immediate b (f_M_part b 7 5) (f_M_part b 15 5) (f_M_part b 20 5) (nI 2) (b >>> ((20 : Int32) &&& 31)) (sReg (f_M_part b 15 5) (sReg (f_M_part b 7 5) z))) (fm_52 21 b (by decide +kernel) rfl _ _ _ _ _)
  | 3, _ => exact lf (x := sName 504280411251 s00) (y := (0, 1, sTx (kW.getD 22 0))) (by decide +kernel) (fun z => g_M_immediate b (f_M_part b 7 5) (f_M_part b 15 5) (f_M_part b 20 5) (nI 3) (b >>> ((20 : Int32) &&& 31)) (sReg (f_M_part b 15 5) (sReg (f_M_part b 7 5) z))) (fm_52 22 b (by decide +kernel) rfl _ _ _ _ _)
  | 4, _ => exact lf (x := sName 1769107320 s00) (y := (0, 1, sTx (kW.getD 23 0))) (by decide +kernel) (fun z => g_M_immediate b (f_M_part b 7 5) (f_M_part b 15 5) (f_M_part b 20 5) (nI 4) (b >>> ((20 : Int32) &&& 31)) (sReg (f_M_part b 15 5) (sReg (f_M_part b 7 5) z))) (fm_52 23 b (by decide +kernel) rfl _ _ _ _ _)
  | 5, _ => exact lf (x := sName 1767993971 s00) (y := (0, 1, sTx (kW.getD 28 0))) (by decide +kernel) (fun z => g_M_immediate b (f_M_part b 7 5) (f_M_part b 15 5) (f_M_part b 20 5) (nI 5) (f_M_part b 20 5) (sReg (f_M_part b 15 5) (sReg (f_M_part b 7 5) z))) (fm_54 28 b (by decide +kernel) rfl _ _ _ _ _)
  | 6, _ => exact lf (x := sName 6910575 s00) (y := (0, 1, sTx (kW.getD 24 0))) (by decide +kernel) (fun z => g_M_immediate b (f_M_part b 7 5) (f_M_part b 15 5) (f_M_part b 20 5) (nI 6) (b >>> ((20 : Int32) &&& 31)) (sReg (f_M_part b 15 5) (sReg (f_M_part b 7 5) z))) (fm_52 24 b (by decide +kernel) rfl _ _ _ _ _)
  | 7, _ => exact lf (x := sName 1768189537 s00) (y := (0, 1, sTx (kW.getD 25 0))) (by decide +kernel) (fun z => g_M_immediate b (f_M_part b 7 5) (f_M_part b 15 5) (f_M_part b 20 5) (nI 7) (b >>> ((20 : Int32) &&& 31)) (sReg (f_M_part b 15 5) (sReg (f_M_part b 7 5) z))) (fm_52 25 b (by decide +kernel) rfl _ _ _ _ _)
  | n + 8, h => exact absurd h (by omega)

set_option maxRecDepth 20000 in
theorem t_twos1 (b : Int32) : g_M_twos b (f_M_part b 7 5) (f_M_part b 15 5) (f_M_part b 20 5) (f_M_part b 12 3) 1 s00 = wl (f_L_withNumber (f_M_part b 12 3) 1) b := by
  obtain ⟨j, hj, e⟩ := p_nat 12 3 (by omega) b
  rw [show f_M_part b 12 3 = nI j from e]
  match j, hj with
  | 0, _ => exact lf (x := sName 1768186977 s00) (y := (0, 1, sTx (kW.getD 20 0))) (by decide +kernel) (fun z => g_M_immediate b (f_M_part b 7 5) (f_M_part b 15 5) (f_M_part b 20 5) (nI 0) (b >>> ((20 : Int32) &&& 31)) (sReg (f_M_part b 15 5) (sReg (f_M_part b 7 5) z))) (fm_52 20 b (by decide +kernel) rfl _ _ _ _ _)
  | 1, _ => exact rfl
  | 2, _ => exact lf (x := sName 1769237619 s00) (y := (0, 1, sTx (kW.getD 21 0))) (by decide +kernel) (fun z => g_M_immediate b (f_M_part b 7 5) (f_M_part b 15 5) (f_M_part b 20 5) (nI 2) (b >>> ((20 : Int32) &&& 31)) (sReg (f_M_part b 15 5) (sReg (f_M_part b 7 5) z))) (fm_52 21 b (by decide +kernel) rfl _ _ _ _ _)
  | 3, _ => exact lf (x := sName 504280411251 s00) (y := (0, 1, sTx (kW.getD 22 0))) (by decide +kernel) (fun z => g_M_immediate b (f_M_part b 7 5) (f_M_part b 15 5) (f_M_part b 20 5) (nI 3) (b >>> ((20 : Int32) &&& 31)) (sReg (f_M_part b 15 5) (sReg (f_M_part b 7 5) z))) (fm_52 22 b (by decide +kernel) rfl _ _ _ _ _)
  | 4, _ => exact lf (x := sName 1769107320 s00) (y := (0, 1, sTx (kW.getD 23 0))) (by decide +kernel) (fun z => g_M_immediate b (f_M_part b 7 5) (f_M_part b 15 5) (f_M_part b 20 5) (nI 4) (b >>> ((20 : Int32) &&& 31)) (sReg (f_M_part b 15 5) (sReg (f_M_part b 7 5) z))) (fm_52 23 b (by decide +kernel) rfl _ _ _ _ _)
  | 5, _ => exact rfl
  | 6, _ => exact lf (x := sName 6910575 s00) (y := (0, 1, sTx (kW.getD 24 0))) (by decide +kernel) (fun z => g_M_immediate b (f_M_part b 7 5) (f_M_part b 15 5) (f_M_part b 20 5) (nI 6) (b >>> ((20 : Int32) &&& 31)) (sReg (f_M_part b 15 5) (sReg (f_M_part b 7 5) z))) (fm_52 24 b (by decide +kernel) rfl _ _ _ _ _)
  | 7, _ => exact lf (x := sName 1768189537 s00) (y := (0, 1, sTx (kW.getD 25 0))) (by decide +kernel) (fun z => g_M_immediate b (f_M_part b 7 5) (f_M_part b 15 5) (f_M_part b 20 5) (nI 7) (b >>> ((20 : Int32) &&& 31)) (sReg (f_M_part b 15 5) (sReg (f_M_part b 7 5) z))) (fm_52 25 b (by decide +kernel) rfl _ _ _ _ _)
  | n + 8, h => exact absurd h (by omega)

theorem t_twos (b g : Int32) : g_M_twos b (f_M_part b 7 5) (f_M_part b 15 5) (f_M_part b 20 5) (f_M_part b 12 3) g s00 = wl (f_L_withNumber (f_M_part b 12 3) g) b := by
  by_cases h0 : g = 0
  · subst h0; exact t_twos0 b
  by_cases h2 : g = 32
  · subst h2; exact t_twos32 b
  have n0 : ¬ (1 : Int32) = 0 := by decide
  have n2 : ¬ (1 : Int32) = 32 := by decide
  have e1 : g_M_twos b (f_M_part b 7 5) (f_M_part b 15 5) (f_M_part b 20 5) (f_M_part b 12 3) g s00 = g_M_twos b (f_M_part b 7 5) (f_M_part b 15 5) (f_M_part b 20 5) (f_M_part b 12 3) 1 s00 := by
    simp only [g_M_twos, q_M_twos_5, q_M_twos_49, q_M_twos_184, if_neg h0, if_neg h2, if_neg n0, if_neg n2]
    rfl
  have e2 : f_L_withNumber (f_M_part b 12 3) g = f_L_withNumber (f_M_part b 12 3) 1 := by
    simp only [f_L_withNumber, f_L_shiftRight, if_neg h0, if_neg h2, if_neg n0, if_neg n2]
  rw [e1, e2]
  exact t_twos1 b

set_option maxRecDepth 20000 in
theorem t_atom0 (b : Int32) : g_M_atomic b (f_M_part b 7 5) (f_M_part b 15 5) (f_M_part b 20 5) 2 0 s00 = tgt 50 b := by
  refine Eq.trans (b := if f_M_part b 25 2 = 0 then sBra (f_M_part b 15 5) (sNext (sReg (f_M_part b 20 5) (sReg (f_M_part b 7 5) (sSay 30510 (sSay 6579297 (0, (sName 7302497 s00).2)))))) else sBra (f_M_part b 15 5) (sNext (sReg (f_M_part b 20 5) (sReg (f_M_part b 7 5) (sSay (if f_M_part b 25 2 = 1 then 7107118 else if f_M_part b 25 2 = 2 then 7430446 else 465776501038) (sSay 30510 (sSay 6579297 (0, (sName 7302497 s00).2)))))))) rfl ?_
  refine Eq.trans ?_ (fm_69 50 b (by decide +kernel))
  obtain ⟨j, hj, e⟩ := p_nat 25 2 (by omega) b
  rw [show f_M_part b 25 2 = nI j from e]
  match j, hj with
  | 0, _ => exact lf (x := (sSay 30510 (sSay 6579297 (0, (sName 7302497 s00).2)))) (y := (0, 1, sTx (kW.getD 50 0) ++ f_T_order (nI 0))) (by decide +kernel) (fun z => sBra (f_M_part b 15 5) (sNext (sReg (f_M_part b 20 5) (sReg (f_M_part b 7 5) z)))) rfl
  | 1, _ => exact lf (x := sSay 7107118 (sSay 30510 (sSay 6579297 (0, (sName 7302497 s00).2)))) (y := (0, 1, sTx (kW.getD 50 0) ++ f_T_order (nI 1))) (by decide +kernel) (fun z => sBra (f_M_part b 15 5) (sNext (sReg (f_M_part b 20 5) (sReg (f_M_part b 7 5) z)))) rfl
  | 2, _ => exact lf (x := sSay 7430446 (sSay 30510 (sSay 6579297 (0, (sName 7302497 s00).2)))) (y := (0, 1, sTx (kW.getD 50 0) ++ f_T_order (nI 2))) (by decide +kernel) (fun z => sBra (f_M_part b 15 5) (sNext (sReg (f_M_part b 20 5) (sReg (f_M_part b 7 5) z)))) rfl
  | 3, _ => exact lf (x := sSay 465776501038 (sSay 30510 (sSay 6579297 (0, (sName 7302497 s00).2)))) (y := (0, 1, sTx (kW.getD 50 0) ++ f_T_order (nI 3))) (by decide +kernel) (fun z => sBra (f_M_part b 15 5) (sNext (sReg (f_M_part b 20 5) (sReg (f_M_part b 7 5) z)))) rfl
  | n + 4, h => exact absurd h (by omega)

set_option maxRecDepth 20000 in
theorem t_atom1 (b : Int32) : g_M_atomic b (f_M_part b 7 5) (f_M_part b 15 5) (f_M_part b 20 5) 2 1 s00 = tgt 49 b := by
  refine Eq.trans (b := if f_M_part b 25 2 = 0 then sBra (f_M_part b 15 5) (sNext (sReg (f_M_part b 20 5) (sReg (f_M_part b 7 5) (sSay 30510 (sSay 1885435763 (0, (sName 7302497 s00).2)))))) else sBra (f_M_part b 15 5) (sNext (sReg (f_M_part b 20 5) (sReg (f_M_part b 7 5) (sSay (if f_M_part b 25 2 = 1 then 7107118 else if f_M_part b 25 2 = 2 then 7430446 else 465776501038) (sSay 30510 (sSay 1885435763 (0, (sName 7302497 s00).2)))))))) rfl ?_
  refine Eq.trans ?_ (fm_69 49 b (by decide +kernel))
  obtain ⟨j, hj, e⟩ := p_nat 25 2 (by omega) b
  rw [show f_M_part b 25 2 = nI j from e]
  match j, hj with
  | 0, _ => exact lf (x := (sSay 30510 (sSay 1885435763 (0, (sName 7302497 s00).2)))) (y := (0, 1, sTx (kW.getD 49 0) ++ f_T_order (nI 0))) (by decide +kernel) (fun z => sBra (f_M_part b 15 5) (sNext (sReg (f_M_part b 20 5) (sReg (f_M_part b 7 5) z)))) rfl
  | 1, _ => exact lf (x := sSay 7107118 (sSay 30510 (sSay 1885435763 (0, (sName 7302497 s00).2)))) (y := (0, 1, sTx (kW.getD 49 0) ++ f_T_order (nI 1))) (by decide +kernel) (fun z => sBra (f_M_part b 15 5) (sNext (sReg (f_M_part b 20 5) (sReg (f_M_part b 7 5) z)))) rfl
  | 2, _ => exact lf (x := sSay 7430446 (sSay 30510 (sSay 1885435763 (0, (sName 7302497 s00).2)))) (y := (0, 1, sTx (kW.getD 49 0) ++ f_T_order (nI 2))) (by decide +kernel) (fun z => sBra (f_M_part b 15 5) (sNext (sReg (f_M_part b 20 5) (sReg (f_M_part b 7 5) z)))) rfl
  | 3, _ => exact lf (x := sSay 465776501038 (sSay 30510 (sSay 1885435763 (0, (sName 7302497 s00).2)))) (y := (0, 1, sTx (kW.getD 49 0) ++ f_T_order (nI 3))) (by decide +kernel) (fun z => sBra (f_M_part b 15 5) (sNext (sReg (f_M_part b 20 5) (sReg (f_M_part b 7 5) z)))) rfl
  | n + 4, h => exact absurd h (by omega)

set_option maxRecDepth 20000 in
theorem t_atom2 (b : Int32) (hB : f_M_part b 20 5 = 0) : g_M_atomic b (f_M_part b 7 5) (f_M_part b 15 5) (f_M_part b 20 5) 2 2 s00 = tgt 47 b := by
  have e0 : g_M_atomic b (f_M_part b 7 5) (f_M_part b 15 5) (f_M_part b 20 5) 2 2 s00 = g_M_atomic b (f_M_part b 7 5) (f_M_part b 15 5) 0 2 2 s00 := by rw [hB]
  rw [e0]
  refine Eq.trans (b := if f_M_part b 25 2 = 0 then sBra (f_M_part b 15 5) (sNext (sReg (f_M_part b 7 5) (sSay 30510 (0, (sName 29292 s00).2)))) else sBra (f_M_part b 15 5) (sNext (sReg (f_M_part b 7 5) (sSay (if f_M_part b 25 2 = 1 then 7107118 else if f_M_part b 25 2 = 2 then 7430446 else 465776501038) (sSay 30510 (0, (sName 29292 s00).2)))))) rfl ?_
  refine Eq.trans ?_ (fm_72 47 b (by decide +kernel))
  obtain ⟨j, hj, e⟩ := p_nat 25 2 (by omega) b
  rw [show f_M_part b 25 2 = nI j from e]
  match j, hj with
  | 0, _ => exact lf (x := (sSay 30510 (0, (sName 29292 s00).2))) (y := (0, 1, sTx (kW.getD 47 0) ++ f_T_order (nI 0))) (by decide +kernel) (fun z => sBra (f_M_part b 15 5) (sNext (sReg (f_M_part b 7 5) z))) rfl
  | 1, _ => exact lf (x := sSay 7107118 (sSay 30510 (0, (sName 29292 s00).2))) (y := (0, 1, sTx (kW.getD 47 0) ++ f_T_order (nI 1))) (by decide +kernel) (fun z => sBra (f_M_part b 15 5) (sNext (sReg (f_M_part b 7 5) z))) rfl
  | 2, _ => exact lf (x := sSay 7430446 (sSay 30510 (0, (sName 29292 s00).2))) (y := (0, 1, sTx (kW.getD 47 0) ++ f_T_order (nI 2))) (by decide +kernel) (fun z => sBra (f_M_part b 15 5) (sNext (sReg (f_M_part b 7 5) z))) rfl
  | 3, _ => exact lf (x := sSay 465776501038 (sSay 30510 (0, (sName 29292 s00).2))) (y := (0, 1, sTx (kW.getD 47 0) ++ f_T_order (nI 3))) (by decide +kernel) (fun z => sBra (f_M_part b 15 5) (sNext (sReg (f_M_part b 7 5) z))) rfl
  | n + 4, h => exact absurd h (by omega)

set_option maxRecDepth 20000 in
theorem t_atom3 (b : Int32) : g_M_atomic b (f_M_part b 7 5) (f_M_part b 15 5) (f_M_part b 20 5) 2 3 s00 = tgt 48 b := by
  refine Eq.trans (b := if f_M_part b 25 2 = 0 then sBra (f_M_part b 15 5) (sNext (sReg (f_M_part b 20 5) (sReg (f_M_part b 7 5) (sSay 30510 (0, (sName 25459 s00).2))))) else sBra (f_M_part b 15 5) (sNext (sReg (f_M_part b 20 5) (sReg (f_M_part b 7 5) (sSay (if f_M_part b 25 2 = 1 then 7107118 else if f_M_part b 25 2 = 2 then 7430446 else 465776501038) (sSay 30510 (0, (sName 25459 s00).2))))))) rfl ?_
  refine Eq.trans ?_ (fm_69 48 b (by decide +kernel))
  obtain ⟨j, hj, e⟩ := p_nat 25 2 (by omega) b
  rw [show f_M_part b 25 2 = nI j from e]
  match j, hj with
  | 0, _ => exact lf (x := (sSay 30510 (0, (sName 25459 s00).2))) (y := (0, 1, sTx (kW.getD 48 0) ++ f_T_order (nI 0))) (by decide +kernel) (fun z => sBra (f_M_part b 15 5) (sNext (sReg (f_M_part b 20 5) (sReg (f_M_part b 7 5) z)))) rfl
  | 1, _ => exact lf (x := sSay 7107118 (sSay 30510 (0, (sName 25459 s00).2))) (y := (0, 1, sTx (kW.getD 48 0) ++ f_T_order (nI 1))) (by decide +kernel) (fun z => sBra (f_M_part b 15 5) (sNext (sReg (f_M_part b 20 5) (sReg (f_M_part b 7 5) z)))) rfl
  | 2, _ => exact lf (x := sSay 7430446 (sSay 30510 (0, (sName 25459 s00).2))) (y := (0, 1, sTx (kW.getD 48 0) ++ f_T_order (nI 2))) (by decide +kernel) (fun z => sBra (f_M_part b 15 5) (sNext (sReg (f_M_part b 20 5) (sReg (f_M_part b 7 5) z)))) rfl
  | 3, _ => exact lf (x := sSay 465776501038 (sSay 30510 (0, (sName 25459 s00).2))) (y := (0, 1, sTx (kW.getD 48 0) ++ f_T_order (nI 3))) (by decide +kernel) (fun z => sBra (f_M_part b 15 5) (sNext (sReg (f_M_part b 20 5) (sReg (f_M_part b 7 5) z)))) rfl
  | n + 4, h => exact absurd h (by omega)

set_option maxRecDepth 20000 in
theorem t_atom4 (b : Int32) : g_M_atomic b (f_M_part b 7 5) (f_M_part b 15 5) (f_M_part b 20 5) 2 4 s00 = tgt 51 b := by
  refine Eq.trans (b := if f_M_part b 25 2 = 0 then sBra (f_M_part b 15 5) (sNext (sReg (f_M_part b 20 5) (sReg (f_M_part b 7 5) (sSay 30510 (sSay 7499640 (0, (sName 7302497 s00).2)))))) else sBra (f_M_part b 15 5) (sNext (sReg (f_M_part b 20 5) (sReg (f_M_part b 7 5) (sSay (if f_M_part b 25 2 = 1 then 7107118 else if f_M_part b 25 2 = 2 then 7430446 else 465776501038) (sSay 30510 (sSay 7499640 (0, (sName 7302497 s00).2)))))))) rfl ?_
  refine Eq.trans ?_ (fm_69 51 b (by decide +kernel))
  obtain ⟨j, hj, e⟩ := p_nat 25 2 (by omega) b
  rw [show f_M_part b 25 2 = nI j from e]
  match j, hj with
  | 0, _ => exact lf (x := (sSay 30510 (sSay 7499640 (0, (sName 7302497 s00).2)))) (y := (0, 1, sTx (kW.getD 51 0) ++ f_T_order (nI 0))) (by decide +kernel) (fun z => sBra (f_M_part b 15 5) (sNext (sReg (f_M_part b 20 5) (sReg (f_M_part b 7 5) z)))) rfl
  | 1, _ => exact lf (x := sSay 7107118 (sSay 30510 (sSay 7499640 (0, (sName 7302497 s00).2)))) (y := (0, 1, sTx (kW.getD 51 0) ++ f_T_order (nI 1))) (by decide +kernel) (fun z => sBra (f_M_part b 15 5) (sNext (sReg (f_M_part b 20 5) (sReg (f_M_part b 7 5) z)))) rfl
  | 2, _ => exact lf (x := sSay 7430446 (sSay 30510 (sSay 7499640 (0, (sName 7302497 s00).2)))) (y := (0, 1, sTx (kW.getD 51 0) ++ f_T_order (nI 2))) (by decide +kernel) (fun z => sBra (f_M_part b 15 5) (sNext (sReg (f_M_part b 20 5) (sReg (f_M_part b 7 5) z)))) rfl
  | 3, _ => exact lf (x := sSay 465776501038 (sSay 30510 (sSay 7499640 (0, (sName 7302497 s00).2)))) (y := (0, 1, sTx (kW.getD 51 0) ++ f_T_order (nI 3))) (by decide +kernel) (fun z => sBra (f_M_part b 15 5) (sNext (sReg (f_M_part b 20 5) (sReg (f_M_part b 7 5) z)))) rfl
  | n + 4, h => exact absurd h (by omega)

set_option maxRecDepth 20000 in
theorem t_atom8 (b : Int32) : g_M_atomic b (f_M_part b 7 5) (f_M_part b 15 5) (f_M_part b 20 5) 2 8 s00 = tgt 53 b := by
  refine Eq.trans (b := if f_M_part b 25 2 = 0 then sBra (f_M_part b 15 5) (sNext (sReg (f_M_part b 20 5) (sReg (f_M_part b 7 5) (sSay 30510 (sSay 29295 (0, (sName 7302497 s00).2)))))) else sBra (f_M_part b 15 5) (sNext (sReg (f_M_part b 20 5) (sReg (f_M_part b 7 5) (sSay (if f_M_part b 25 2 = 1 then 7107118 else if f_M_part b 25 2 = 2 then 7430446 else 465776501038) (sSay 30510 (sSay 29295 (0, (sName 7302497 s00).2)))))))) rfl ?_
  refine Eq.trans ?_ (fm_69 53 b (by decide +kernel))
  obtain ⟨j, hj, e⟩ := p_nat 25 2 (by omega) b
  rw [show f_M_part b 25 2 = nI j from e]
  match j, hj with
  | 0, _ => exact lf (x := (sSay 30510 (sSay 29295 (0, (sName 7302497 s00).2)))) (y := (0, 1, sTx (kW.getD 53 0) ++ f_T_order (nI 0))) (by decide +kernel) (fun z => sBra (f_M_part b 15 5) (sNext (sReg (f_M_part b 20 5) (sReg (f_M_part b 7 5) z)))) rfl
  | 1, _ => exact lf (x := sSay 7107118 (sSay 30510 (sSay 29295 (0, (sName 7302497 s00).2)))) (y := (0, 1, sTx (kW.getD 53 0) ++ f_T_order (nI 1))) (by decide +kernel) (fun z => sBra (f_M_part b 15 5) (sNext (sReg (f_M_part b 20 5) (sReg (f_M_part b 7 5) z)))) rfl
  | 2, _ => exact lf (x := sSay 7430446 (sSay 30510 (sSay 29295 (0, (sName 7302497 s00).2)))) (y := (0, 1, sTx (kW.getD 53 0) ++ f_T_order (nI 2))) (by decide +kernel) (fun z => sBra (f_M_part b 15 5) (sNext (sReg (f_M_part b 20 5) (sReg (f_M_part b 7 5) z)))) rfl
  | 3, _ => exact lf (x := sSay 465776501038 (sSay 30510 (sSay 29295 (0, (sName 7302497 s00).2)))) (y := (0, 1, sTx (kW.getD 53 0) ++ f_T_order (nI 3))) (by decide +kernel) (fun z => sBra (f_M_part b 15 5) (sNext (sReg (f_M_part b 20 5) (sReg (f_M_part b 7 5) z)))) rfl
  | n + 4, h => exact absurd h (by omega)

set_option maxRecDepth 20000 in
theorem t_atom12 (b : Int32) : g_M_atomic b (f_M_part b 7 5) (f_M_part b 15 5) (f_M_part b 20 5) 2 12 s00 = tgt 52 b := by
  refine Eq.trans (b := if f_M_part b 25 2 = 0 then sBra (f_M_part b 15 5) (sNext (sReg (f_M_part b 20 5) (sReg (f_M_part b 7 5) (sSay 30510 (sSay 6581857 (0, (sName 7302497 s00).2)))))) else sBra (f_M_part b 15 5) (sNext (sReg (f_M_part b 20 5) (sReg (f_M_part b 7 5) (sSay (if f_M_part b 25 2 = 1 then 7107118 else if f_M_part b 25 2 = 2 then 7430446 else 465776501038) (sSay 30510 (sSay 6581857 (0, (sName 7302497 s00).2)))))))) rfl ?_
  refine Eq.trans ?_ (fm_69 52 b (by decide +kernel))
  obtain ⟨j, hj, e⟩ := p_nat 25 2 (by omega) b
  rw [show f_M_part b 25 2 = nI j from e]
  match j, hj with
  | 0, _ => exact lf (x := (sSay 30510 (sSay 6581857 (0, (sName 7302497 s00).2)))) (y := (0, 1, sTx (kW.getD 52 0) ++ f_T_order (nI 0))) (by decide +kernel) (fun z => sBra (f_M_part b 15 5) (sNext (sReg (f_M_part b 20 5) (sReg (f_M_part b 7 5) z)))) rfl
  | 1, _ => exact lf (x := sSay 7107118 (sSay 30510 (sSay 6581857 (0, (sName 7302497 s00).2)))) (y := (0, 1, sTx (kW.getD 52 0) ++ f_T_order (nI 1))) (by decide +kernel) (fun z => sBra (f_M_part b 15 5) (sNext (sReg (f_M_part b 20 5) (sReg (f_M_part b 7 5) z)))) rfl
  | 2, _ => exact lf (x := sSay 7430446 (sSay 30510 (sSay 6581857 (0, (sName 7302497 s00).2)))) (y := (0, 1, sTx (kW.getD 52 0) ++ f_T_order (nI 2))) (by decide +kernel) (fun z => sBra (f_M_part b 15 5) (sNext (sReg (f_M_part b 20 5) (sReg (f_M_part b 7 5) z)))) rfl
  | 3, _ => exact lf (x := sSay 465776501038 (sSay 30510 (sSay 6581857 (0, (sName 7302497 s00).2)))) (y := (0, 1, sTx (kW.getD 52 0) ++ f_T_order (nI 3))) (by decide +kernel) (fun z => sBra (f_M_part b 15 5) (sNext (sReg (f_M_part b 20 5) (sReg (f_M_part b 7 5) z)))) rfl
  | n + 4, h => exact absurd h (by omega)

set_option maxRecDepth 20000 in
theorem t_atom16 (b : Int32) : g_M_atomic b (f_M_part b 7 5) (f_M_part b 15 5) (f_M_part b 20 5) 2 16 s00 = tgt 54 b := by
  refine Eq.trans (b := if f_M_part b 25 2 = 0 then sBra (f_M_part b 15 5) (sNext (sReg (f_M_part b 20 5) (sReg (f_M_part b 7 5) (sSay 30510 (sSay 7235949 (0, (sName 7302497 s00).2)))))) else sBra (f_M_part b 15 5) (sNext (sReg (f_M_part b 20 5) (sReg (f_M_part b 7 5) (sSay (if f_M_part b 25 2 = 1 then 7107118 else if f_M_part b 25 2 = 2 then 7430446 else 465776501038) (sSay 30510 (sSay 7235949 (0, (sName 7302497 s00).2)))))))) rfl ?_
  refine Eq.trans ?_ (fm_69 54 b (by decide +kernel))
  obtain ⟨j, hj, e⟩ := p_nat 25 2 (by omega) b
  rw [show f_M_part b 25 2 = nI j from e]
  match j, hj with
  | 0, _ => exact lf (x := (sSay 30510 (sSay 7235949 (0, (sName 7302497 s00).2)))) (y := (0, 1, sTx (kW.getD 54 0) ++ f_T_order (nI 0))) (by decide +kernel) (fun z => sBra (f_M_part b 15 5) (sNext (sReg (f_M_part b 20 5) (sReg (f_M_part b 7 5) z)))) rfl
  | 1, _ => exact lf (x := sSay 7107118 (sSay 30510 (sSay 7235949 (0, (sName 7302497 s00).2)))) (y := (0, 1, sTx (kW.getD 54 0) ++ f_T_order (nI 1))) (by decide +kernel) (fun z => sBra (f_M_part b 15 5) (sNext (sReg (f_M_part b 20 5) (sReg (f_M_part b 7 5) z)))) rfl
  | 2, _ => exact lf (x := sSay 7430446 (sSay 30510 (sSay 7235949 (0, (sName 7302497 s00).2)))) (y := (0, 1, sTx (kW.getD 54 0) ++ f_T_order (nI 2))) (by decide +kernel) (fun z => sBra (f_M_part b 15 5) (sNext (sReg (f_M_part b 20 5) (sReg (f_M_part b 7 5) z)))) rfl
  | 3, _ => exact lf (x := sSay 465776501038 (sSay 30510 (sSay 7235949 (0, (sName 7302497 s00).2)))) (y := (0, 1, sTx (kW.getD 54 0) ++ f_T_order (nI 3))) (by decide +kernel) (fun z => sBra (f_M_part b 15 5) (sNext (sReg (f_M_part b 20 5) (sReg (f_M_part b 7 5) z)))) rfl
  | n + 4, h => exact absurd h (by omega)

set_option maxRecDepth 20000 in
theorem t_atom20 (b : Int32) : g_M_atomic b (f_M_part b 7 5) (f_M_part b 15 5) (f_M_part b 20 5) 2 20 s00 = tgt 55 b := by
  refine Eq.trans (b := if f_M_part b 25 2 = 0 then sBra (f_M_part b 15 5) (sNext (sReg (f_M_part b 20 5) (sReg (f_M_part b 7 5) (sSay 30510 (sSay 7889261 (0, (sName 7302497 s00).2)))))) else sBra (f_M_part b 15 5) (sNext (sReg (f_M_part b 20 5) (sReg (f_M_part b 7 5) (sSay (if f_M_part b 25 2 = 1 then 7107118 else if f_M_part b 25 2 = 2 then 7430446 else 465776501038) (sSay 30510 (sSay 7889261 (0, (sName 7302497 s00).2)))))))) rfl ?_
  refine Eq.trans ?_ (fm_69 55 b (by decide +kernel))
  obtain ⟨j, hj, e⟩ := p_nat 25 2 (by omega) b
  rw [show f_M_part b 25 2 = nI j from e]
  match j, hj with
  | 0, _ => exact lf (x := (sSay 30510 (sSay 7889261 (0, (sName 7302497 s00).2)))) (y := (0, 1, sTx (kW.getD 55 0) ++ f_T_order (nI 0))) (by decide +kernel) (fun z => sBra (f_M_part b 15 5) (sNext (sReg (f_M_part b 20 5) (sReg (f_M_part b 7 5) z)))) rfl
  | 1, _ => exact lf (x := sSay 7107118 (sSay 30510 (sSay 7889261 (0, (sName 7302497 s00).2)))) (y := (0, 1, sTx (kW.getD 55 0) ++ f_T_order (nI 1))) (by decide +kernel) (fun z => sBra (f_M_part b 15 5) (sNext (sReg (f_M_part b 20 5) (sReg (f_M_part b 7 5) z)))) rfl
  | 2, _ => exact lf (x := sSay 7430446 (sSay 30510 (sSay 7889261 (0, (sName 7302497 s00).2)))) (y := (0, 1, sTx (kW.getD 55 0) ++ f_T_order (nI 2))) (by decide +kernel) (fun z => sBra (f_M_part b 15 5) (sNext (sReg (f_M_part b 20 5) (sReg (f_M_part b 7 5) z)))) rfl
  | 3, _ => exact lf (x := sSay 465776501038 (sSay 30510 (sSay 7889261 (0, (sName 7302497 s00).2)))) (y := (0, 1, sTx (kW.getD 55 0) ++ f_T_order (nI 3))) (by decide +kernel) (fun z => sBra (f_M_part b 15 5) (sNext (sReg (f_M_part b 20 5) (sReg (f_M_part b 7 5) z)))) rfl
  | n + 4, h => exact absurd h (by omega)

set_option maxRecDepth 20000 in
theorem t_atom24 (b : Int32) : g_M_atomic b (f_M_part b 7 5) (f_M_part b 15 5) (f_M_part b 20 5) 2 24 s00 = tgt 56 b := by
  refine Eq.trans (b := if f_M_part b 25 2 = 0 then sBra (f_M_part b 15 5) (sNext (sReg (f_M_part b 20 5) (sReg (f_M_part b 7 5) (sSay 30510 (sSay 1970170221 (0, (sName 7302497 s00).2)))))) else sBra (f_M_part b 15 5) (sNext (sReg (f_M_part b 20 5) (sReg (f_M_part b 7 5) (sSay (if f_M_part b 25 2 = 1 then 7107118 else if f_M_part b 25 2 = 2 then 7430446 else 465776501038) (sSay 30510 (sSay 1970170221 (0, (sName 7302497 s00).2)))))))) rfl ?_
  refine Eq.trans ?_ (fm_69 56 b (by decide +kernel))
  obtain ⟨j, hj, e⟩ := p_nat 25 2 (by omega) b
  rw [show f_M_part b 25 2 = nI j from e]
  match j, hj with
  | 0, _ => exact lf (x := (sSay 30510 (sSay 1970170221 (0, (sName 7302497 s00).2)))) (y := (0, 1, sTx (kW.getD 56 0) ++ f_T_order (nI 0))) (by decide +kernel) (fun z => sBra (f_M_part b 15 5) (sNext (sReg (f_M_part b 20 5) (sReg (f_M_part b 7 5) z)))) rfl
  | 1, _ => exact lf (x := sSay 7107118 (sSay 30510 (sSay 1970170221 (0, (sName 7302497 s00).2)))) (y := (0, 1, sTx (kW.getD 56 0) ++ f_T_order (nI 1))) (by decide +kernel) (fun z => sBra (f_M_part b 15 5) (sNext (sReg (f_M_part b 20 5) (sReg (f_M_part b 7 5) z)))) rfl
  | 2, _ => exact lf (x := sSay 7430446 (sSay 30510 (sSay 1970170221 (0, (sName 7302497 s00).2)))) (y := (0, 1, sTx (kW.getD 56 0) ++ f_T_order (nI 2))) (by decide +kernel) (fun z => sBra (f_M_part b 15 5) (sNext (sReg (f_M_part b 20 5) (sReg (f_M_part b 7 5) z)))) rfl
  | 3, _ => exact lf (x := sSay 465776501038 (sSay 30510 (sSay 1970170221 (0, (sName 7302497 s00).2)))) (y := (0, 1, sTx (kW.getD 56 0) ++ f_T_order (nI 3))) (by decide +kernel) (fun z => sBra (f_M_part b 15 5) (sNext (sReg (f_M_part b 20 5) (sReg (f_M_part b 7 5) z)))) rfl
  | n + 4, h => exact absurd h (by omega)

set_option maxRecDepth 20000 in
theorem t_atom28 (b : Int32) : g_M_atomic b (f_M_part b 7 5) (f_M_part b 15 5) (f_M_part b 20 5) 2 28 s00 = tgt 57 b := by
  refine Eq.trans (b := if f_M_part b 25 2 = 0 then sBra (f_M_part b 15 5) (sNext (sReg (f_M_part b 20 5) (sReg (f_M_part b 7 5) (sSay 30510 (sSay 1970823533 (0, (sName 7302497 s00).2)))))) else sBra (f_M_part b 15 5) (sNext (sReg (f_M_part b 20 5) (sReg (f_M_part b 7 5) (sSay (if f_M_part b 25 2 = 1 then 7107118 else if f_M_part b 25 2 = 2 then 7430446 else 465776501038) (sSay 30510 (sSay 1970823533 (0, (sName 7302497 s00).2)))))))) rfl ?_
  refine Eq.trans ?_ (fm_69 57 b (by decide +kernel))
  obtain ⟨j, hj, e⟩ := p_nat 25 2 (by omega) b
  rw [show f_M_part b 25 2 = nI j from e]
  match j, hj with
  | 0, _ => exact lf (x := (sSay 30510 (sSay 1970823533 (0, (sName 7302497 s00).2)))) (y := (0, 1, sTx (kW.getD 57 0) ++ f_T_order (nI 0))) (by decide +kernel) (fun z => sBra (f_M_part b 15 5) (sNext (sReg (f_M_part b 20 5) (sReg (f_M_part b 7 5) z)))) rfl
  | 1, _ => exact lf (x := sSay 7107118 (sSay 30510 (sSay 1970823533 (0, (sName 7302497 s00).2)))) (y := (0, 1, sTx (kW.getD 57 0) ++ f_T_order (nI 1))) (by decide +kernel) (fun z => sBra (f_M_part b 15 5) (sNext (sReg (f_M_part b 20 5) (sReg (f_M_part b 7 5) z)))) rfl
  | 2, _ => exact lf (x := sSay 7430446 (sSay 30510 (sSay 1970823533 (0, (sName 7302497 s00).2)))) (y := (0, 1, sTx (kW.getD 57 0) ++ f_T_order (nI 2))) (by decide +kernel) (fun z => sBra (f_M_part b 15 5) (sNext (sReg (f_M_part b 20 5) (sReg (f_M_part b 7 5) z)))) rfl
  | 3, _ => exact lf (x := sSay 465776501038 (sSay 30510 (sSay 1970823533 (0, (sName 7302497 s00).2)))) (y := (0, 1, sTx (kW.getD 57 0) ++ f_T_order (nI 3))) (by decide +kernel) (fun z => sBra (f_M_part b 15 5) (sNext (sReg (f_M_part b 20 5) (sReg (f_M_part b 7 5) z)))) rfl
  | n + 4, h => exact absurd h (by omega)

set_option maxRecDepth 20000 in
theorem t_atomic2 (b : Int32) : g_M_atomic b (f_M_part b 7 5) (f_M_part b 15 5) (f_M_part b 20 5) 2 (f_M_part b 27 5) s00 = wl (f_L_atomic (f_M_part b 27 5) b) b := by
  obtain ⟨j, hj, e⟩ := p_nat 27 5 (by omega) b
  rw [show f_M_part b 27 5 = nI j from e]
  match j, hj with
  | 0, _ => exact t_atom0 b
  | 1, _ => exact t_atom1 b
  | 2, _ =>
    have e9 : f_L_atomic (nI 2) b = if f_M_part b 20 5 = 0 then 47 else 0 := by
      rw [← show (b >>> ((20 : Int32) &&& 31)) &&& 31 = f_M_part b 20 5 from p_eq 20 5 (by omega) (by omega) (by omega) b]
      rfl
    rw [e9]
    by_cases hB : f_M_part b 20 5 = 0
    · rw [if_pos hB]; exact t_atom2 b hB
    · rw [if_neg hB]
      refine Eq.trans (b := if f_M_part b 20 5 = 0 then g_M_atomic b (f_M_part b 7 5) (f_M_part b 15 5) (f_M_part b 20 5) 2 2 s00 else s00) ?_ (by rw [if_neg hB]; rfl)
      rw [if_neg hB, g_M_atomic, if_pos rfl, if_pos (show nI 2 = 2 from rfl), if_neg hB]
  | 3, _ => exact t_atom3 b
  | 4, _ => exact t_atom4 b
  | 5, _ => exact rfl
  | 6, _ => exact rfl
  | 7, _ => exact rfl
  | 8, _ => exact t_atom8 b
  | 9, _ => exact rfl
  | 10, _ => exact rfl
  | 11, _ => exact rfl
  | 12, _ => exact t_atom12 b
  | 13, _ => exact rfl
  | 14, _ => exact rfl
  | 15, _ => exact rfl
  | 16, _ => exact t_atom16 b
  | 17, _ => exact rfl
  | 18, _ => exact rfl
  | 19, _ => exact rfl
  | 20, _ => exact t_atom20 b
  | 21, _ => exact rfl
  | 22, _ => exact rfl
  | 23, _ => exact rfl
  | 24, _ => exact t_atom24 b
  | 25, _ => exact rfl
  | 26, _ => exact rfl
  | 27, _ => exact rfl
  | 28, _ => exact t_atom28 b
  | 29, _ => exact rfl
  | 30, _ => exact rfl
  | 31, _ => exact rfl
  | n + 32, h => exact absurd h (by omega)

theorem t_atomic (b : Int32) : g_M_atomic b (f_M_part b 7 5) (f_M_part b 15 5) (f_M_part b 20 5) (f_M_part b 12 3) (f_M_part b 27 5) s00 = wl (if f_M_part b 12 3 = 2 then f_L_atomic (f_M_part b 27 5) b else 0) b := by
  by_cases h : f_M_part b 12 3 = 2
  · rw [if_pos h, h]; exact t_atomic2 b
  · rw [if_neg h, g_M_atomic, if_neg h]; rfl
