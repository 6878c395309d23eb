theorem sys_no : ∀ j, j < 4096 → (j = 3072 ∨ j = 3073 ∨ j = 3074 ∨ j = 3200 ∨ j = 3201 ∨ j = 3202) ∨ ((¬ nI j - (nI j &&& 127) = 3072 ∨ ¬ (nI j &&& 127) ≤ 2) ∧ (¬ nI j - (nI j &&& 127) = 3200 ∨ ¬ (nI j &&& 127) ≤ 2) ∧ ¬ nI j = 3072 ∧ ¬ nI j = 3073 ∧ ¬ nI j = 3074 ∧ ¬ nI j = 3200 ∧ ¬ nI j = 3201 ∧ ¬ nI j = 3202) := by
  intro j hj
  have e1 : nI j &&& 127 = nI (j % 128) := pk_andN (by omega) 7 (by decide)
  have e2 : nI j - nI (j % 128) = nI (j - j % 128) := pk_sub (Nat.mod_le _ _)
  have q : ∀ a b : Nat, a < 4096 → b < 4096 → (nI a = nI b ↔ a = b) := fun a b ha hb => nI_eq (by omega) (by omega)
  rw [e1, e2]
  have k1 : (nI (j - j % 128) = 3072) ↔ j - j % 128 = 3072 := q _ 3072 (by omega) (by omega)
  have k2 : (nI (j - j % 128) = 3200) ↔ j - j % 128 = 3200 := q _ 3200 (by omega) (by omega)
  have k3 : (nI (j % 128) ≤ 2) ↔ j % 128 ≤ 2 := nI_leI (b := 2) (by omega) (by omega)
  have k4 : (nI j = 3072) ↔ j = 3072 := q _ 3072 (by omega) (by omega)
  have k5 : (nI j = 3073) ↔ j = 3073 := q _ 3073 (by omega) (by omega)
  have k6 : (nI j = 3074) ↔ j = 3074 := q _ 3074 (by omega) (by omega)
  have k7 : (nI j = 3200) ↔ j = 3200 := q _ 3200 (by omega) (by omega)
  have k8 : (nI j = 3201) ↔ j = 3201 := q _ 3201 (by omega) (by omega)
  have k9 : (nI j = 3202) ↔ j = 3202 := q _ 3202 (by omega) (by omega)
  rw [k1, k2, k3, k4, k5, k6, k7, k8, k9]
  omega

set_option maxRecDepth 20000 in
theorem t_count (b : Int32) : (if (f_M_part b 20 12) - ((f_M_part b 20 12) &&& 127) = 3072 then (if ((f_M_part b 20 12) &&& 127) ≤ 2 then (if (f_M_part b 20 12) < 3200 then sReg (f_M_part b 7 5) (sSay (q_M_system_102 b (f_M_part b 7 5) (f_M_part b 15 5) (f_M_part b 20 5) (f_M_part b 12 3) (f_M_part b 20 12) ((f_M_part b 20 12) &&& 127)) (sName 25714 s00)) else sReg (f_M_part b 7 5) (sPut 104 (sSay (q_M_system_102 b (f_M_part b 7 5) (f_M_part b 15 5) (f_M_part b 20 5) (f_M_part b 12 3) (f_M_part b 20 12) ((f_M_part b 20 12) &&& 127)) (sName 25714 s00)))) else s00) else if (f_M_part b 20 12) - ((f_M_part b 20 12) &&& 127) = 3200 then (if ((f_M_part b 20 12) &&& 127) ≤ 2 then (if (f_M_part b 20 12) < 3200 then sReg (f_M_part b 7 5) (sSay (q_M_system_102 b (f_M_part b 7 5) (f_M_part b 15 5) (f_M_part b 20 5) (f_M_part b 12 3) (f_M_part b 20 12) ((f_M_part b 20 12) &&& 127)) (sName 25714 s00)) else sReg (f_M_part b 7 5) (sPut 104 (sSay (q_M_system_102 b (f_M_part b 7 5) (f_M_part b 15 5) (f_M_part b 20 5) (f_M_part b 12 3) (f_M_part b 20 12) ((f_M_part b 20 12) &&& 127)) (sName 25714 s00)))) else s00) else s00) = wl (if (f_M_part b 20 12) = 3072 then 58 else if (f_M_part b 20 12) = 3073 then 59 else if (f_M_part b 20 12) = 3074 then 60 else if (f_M_part b 20 12) = 3200 then 61 else if (f_M_part b 20 12) = 3201 then 62 else if (f_M_part b 20 12) = 3202 then 63 else 0) b := by
  obtain ⟨j, hj, e⟩ := p_nat 20 12 (by omega) b
  rw [show f_M_part b 20 12 = nI j from e]
  rcases sys_no j hj with h | ⟨h1, h2, n1, n2, n3, n4, n5, n6⟩
  · rcases h with rfl | rfl | rfl | rfl | rfl | rfl
    · exact lf (x := sSay 435610155363 (sName 25714 s00)) (y := (0, 1, sTx (kW.getD 58 0))) (by decide +kernel) (fun z => sReg (f_M_part b 7 5) z) (fm_112 58 b (by decide +kernel))
    · exact lf (x := sSay 1701669236 (sName 25714 s00)) (y := (0, 1, sTx (kW.getD 59 0))) (by decide +kernel) (fun z => sReg (f_M_part b 7 5) z) (fm_112 59 b (by decide +kernel))
    · exact lf (x := sSay 32762639552835177 (sName 25714 s00)) (y := (0, 1, sTx (kW.getD 60 0))) (by decide +kernel) (fun z => sReg (f_M_part b 7 5) z) (fm_112 60 b (by decide +kernel))
    · exact lf (x := sPut 104 (sSay 435610155363 (sName 25714 s00))) (y := (0, 1, sTx (kW.getD 61 0))) (by decide +kernel) (fun z => sReg (f_M_part b 7 5) z) (fm_112 61 b (by decide +kernel))
    · exact lf (x := sPut 104 (sSay 1701669236 (sName 25714 s00))) (y := (0, 1, sTx (kW.getD 62 0))) (by decide +kernel) (fun z => sReg (f_M_part b 7 5) z) (fm_112 62 b (by decide +kernel))
    · exact lf (x := sPut 104 (sSay 32762639552835177 (sName 25714 s00))) (y := (0, 1, sTx (kW.getD 63 0))) (by decide +kernel) (fun z => sReg (f_M_part b 7 5) z) (fm_112 63 b (by decide +kernel))
  · rw [if_neg n1, if_neg n2, if_neg n3, if_neg n4, if_neg n5, if_neg n6]
    by_cases hl : (nI j &&& 127) ≤ 2
    · rw [if_neg (h1.resolve_right (fun z => z hl)), if_neg (h2.resolve_right (fun z => z hl))]; rfl
    · rw [if_neg hl, ite_self, ite_self]; rfl

set_option maxRecDepth 20000 in
theorem t_system (b : Int32) (h : b &&& 127 = 115) : g_M_system b (f_M_part b 7 5) (f_M_part b 15 5) (f_M_part b 20 5) (f_M_part b 12 3) s00 = wl (if (f_M_part b 12 3) = 2 then f_L_counter b else f_L_alone b) b := by
  by_cases h1 : b = 115
  · subst h1; decide +kernel
  by_cases h2 : b = 1048691
  · subst h2; decide +kernel
  have h3 : ¬ b = 4111 := fun z => by subst z; revert h; decide
  have h4 : ¬ b = 267386895 := fun z => by subst z; revert h; decide
  rw [g_M_system, if_neg h1, if_neg h2, f_L_alone, if_neg h1, if_neg h3, if_neg h2, if_neg h4]
  by_cases hF : f_M_part b 12 3 = 2
  · rw [if_pos hF, if_pos hF, f_L_counter, show (b >>> ((15 : Int32) &&& 31)) &&& 31 = f_M_part b 15 5 from p_eq 15 5 (by omega) (by omega) (by omega) b, show ushr b 20 = f_M_part b 20 12 from p_us 20 12 (by omega) (by omega) (by omega) b]
    by_cases hA : f_M_part b 15 5 = 0
    · rw [if_pos hA, if_pos hA]
      exact t_count b
    · rw [if_neg hA, if_neg hA]; rfl
  · rw [if_neg hF, if_neg hF]; rfl

set_option maxRecDepth 20000 in
theorem t_long (b d a bb f : Int32) : g_M_longOne b d a bb f s00 = wl (f_L_ofWord b) b := by
  by_cases h3 : b &&& 127 = 3
  · rw [g_M_longOne, f_L_ofWord, h3, show (b >>> ((12 : Int32) &&& 31)) &&& 7 = f_M_part b 12 3 from p_eq 12 3 (by omega) (by omega) (by omega) b]; exact t_loads b
  by_cases h19 : b &&& 127 = 19
  · rw [g_M_longOne, f_L_ofWord, h19, show (b >>> ((12 : Int32) &&& 31)) &&& 7 = f_M_part b 12 3 from p_eq 12 3 (by omega) (by omega) (by omega) b, show ushr b 25 = f_M_part b 25 7 from p_us 25 7 (by omega) (by omega) (by omega) b]; exact t_twos b _
  by_cases h35 : b &&& 127 = 35
  · rw [g_M_longOne, f_L_ofWord, h35, show (b >>> ((12 : Int32) &&& 31)) &&& 7 = f_M_part b 12 3 from p_eq 12 3 (by omega) (by omega) (by omega) b]; exact t_stores b
  by_cases h47 : b &&& 127 = 47
  · rw [g_M_longOne, f_L_ofWord, h47, show (b >>> ((12 : Int32) &&& 31)) &&& 7 = f_M_part b 12 3 from p_eq 12 3 (by omega) (by omega) (by omega) b, p_g2]; exact t_atomic b
  by_cases h51 : b &&& 127 = 51
  · rw [g_M_longOne, f_L_ofWord, h51, show (b >>> ((12 : Int32) &&& 31)) &&& 7 = f_M_part b 12 3 from p_eq 12 3 (by omega) (by omega) (by omega) b, show ushr b 25 = f_M_part b 25 7 from p_us 25 7 (by omega) (by omega) (by omega) b]; exact t_plain b _
  by_cases h99 : b &&& 127 = 99
  · rw [g_M_longOne, f_L_ofWord, h99, show (b >>> ((12 : Int32) &&& 31)) &&& 7 = f_M_part b 12 3 from p_eq 12 3 (by omega) (by omega) (by omega) b]; exact t_branches b
  by_cases h115 : b &&& 127 = 115
  · have := t_system b h115
    rw [g_M_longOne, f_L_ofWord, h115, show (b >>> ((12 : Int32) &&& 31)) &&& 7 = f_M_part b 12 3 from p_eq 12 3 (by omega) (by omega) (by omega) b]; exact this
  by_cases h55 : b &&& 127 = 55
  · rw [g_M_longOne, f_L_ofWord, h55]
    refine Eq.trans (b := g_M_others b (f_M_part b 7 5) (f_M_part b 15 5) (f_M_part b 20 5) (f_M_part b 12 3) s00) rfl ?_
    rw [g_M_others, h55]
    exact lf (x := sName 6911340 s00) (y := (0, 1, sTx (kW.getD 38 0))) (by decide +kernel) (fun z => g_M_immediate b (f_M_part b 7 5) (f_M_part b 15 5) (f_M_part b 20 5) (f_M_part b 12 3) (ushr b 12) (sReg (f_M_part b 7 5) z)) (fm_63 38 b (by decide +kernel) rfl _ _ _ _ _)
  by_cases h23 : b &&& 127 = 23
  · rw [g_M_longOne, f_L_ofWord, h23]
    refine Eq.trans (b := g_M_others b (f_M_part b 7 5) (f_M_part b 15 5) (f_M_part b 20 5) (f_M_part b 12 3) s00) rfl ?_
    rw [g_M_others, h23]
    exact lf (x := sName 427087721825 s00) (y := (0, 1, sTx (kW.getD 39 0))) (by decide +kernel) (fun z => g_M_immediate b (f_M_part b 7 5) (f_M_part b 15 5) (f_M_part b 20 5) (f_M_part b 12 3) (ushr b 12) (sReg (f_M_part b 7 5) z)) (fm_63 39 b (by decide +kernel) rfl _ _ _ _ _)
  by_cases h111 : b &&& 127 = 111
  · rw [g_M_longOne, f_L_ofWord, h111]
    refine Eq.trans (b := g_M_others b (f_M_part b 7 5) (f_M_part b 15 5) (f_M_part b 20 5) (f_M_part b 12 3) s00) rfl ?_
    rw [g_M_others, h111]
    exact lf (x := sName 7102826 s00) (y := (0, 1, sTx (kW.getD 46 0))) (by decide +kernel) (fun z => g_M_target b (f_M_part b 7 5) (f_M_part b 15 5) (f_M_part b 20 5) (f_M_part b 12 3) (((((b >>> ((31 : Int32) &&& 31)) <<< ((20 : Int32) &&& 31)) ||| ((f_M_part b 12 8) <<< ((12 : Int32) &&& 31))) ||| ((f_M_part b 20 1) <<< ((11 : Int32) &&& 31))) ||| ((f_M_part b 21 10) <<< ((1 : Int32) &&& 31))) (sReg (f_M_part b 7 5) z)) (fm_110 46 b (by decide +kernel) (q_jump b).symm _ _ _ _ _)
  by_cases h103 : b &&& 127 = 103
  · have n1 : ¬ b = 267386895 := (fun z => by subst z; revert h103; decide)
    have n2 : ¬ b = 4111 := (fun z => by subst z; revert h103; decide)
    rw [g_M_longOne, f_L_ofWord, h103, show (b >>> ((12 : Int32) &&& 31)) &&& 7 = f_M_part b 12 3 from p_eq 12 3 (by omega) (by omega) (by omega) b]
    by_cases hF : f_M_part b 12 3 = 0
    · rw [if_pos hF]
      refine Eq.trans (b := g_M_others b (f_M_part b 7 5) (f_M_part b 15 5) (f_M_part b 20 5) (f_M_part b 12 3) s00) rfl ?_
      rw [g_M_others, h103, if_pos hF]
      exact lf (x := sName 1919705450 s00) (y := (0, 1, sTx (kW.getD 34 0))) (by decide +kernel) (fun z => g_M_memory b (f_M_part b 7 5) (f_M_part b 15 5) (f_M_part b 20 5) (f_M_part b 12 3) (b >>> ((20 : Int32) &&& 31)) (f_M_part b 15 5) (sReg (f_M_part b 7 5) z)) (fm_39 34 b (by decide +kernel) rfl _ _ _ _ _)
    · rw [if_neg hF]
      refine Eq.trans (b := g_M_others b (f_M_part b 7 5) (f_M_part b 15 5) (f_M_part b 20 5) (f_M_part b 12 3) s00) rfl ?_
      rw [g_M_others, h103, if_neg hF, if_neg n1, if_neg n2]
      rfl
  by_cases h15 : b &&& 127 = 15
  · by_cases b1 : b = 267386895
    · subst b1; exact Eq.trans (b := g_M_others 267386895 (f_M_part 267386895 7 5) (f_M_part 267386895 15 5) (f_M_part 267386895 20 5) (f_M_part 267386895 12 3) s00) rfl (by decide +kernel)
    by_cases b2 : b = 4111
    · subst b2; exact Eq.trans (b := g_M_others 4111 (f_M_part 4111 7 5) (f_M_part 4111 15 5) (f_M_part 4111 20 5) (f_M_part 4111 12 3) s00) rfl (by decide +kernel)
    have n1 : ¬ b = 115 := (fun z => by subst z; revert h15; decide)
    have n2 : ¬ b = 1048691 := (fun z => by subst z; revert h15; decide)
    rw [g_M_longOne, f_L_ofWord, h15, f_L_alone, if_neg n1, if_neg b2, if_neg n2, if_neg b1]
    refine Eq.trans (b := g_M_others b (f_M_part b 7 5) (f_M_part b 15 5) (f_M_part b 20 5) (f_M_part b 12 3) s00) rfl ?_
    rw [g_M_others, h15, if_neg b1, if_neg b2]
    rfl
  have n1 : ¬ b = 267386895 := (fun z => by subst z; revert h15; decide)
  have n2 : ¬ b = 4111 := (fun z => by subst z; revert h15; decide)
  rw [g_M_longOne, if_neg h3, if_neg h19, if_neg h35, if_neg h47, if_neg h51, if_neg h99, if_neg h115, f_L_ofWord, if_neg h3, if_neg h15, if_neg h19, if_neg h23, if_neg h35, if_neg h47, if_neg h51, if_neg h55, if_neg h99, if_neg h103, if_neg h111, if_neg h115, g_M_others, if_neg h55, if_neg h23, if_neg h103, if_neg h111, if_neg n1, if_neg n2]
  rfl
