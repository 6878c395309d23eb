theorem nneg_of {x : Int32} (h : bz x 31 = false) : 0 ≤ x := by
  have h1 : x.toBitVec.msb = false := by rw [BitVec.msb_eq_getLsbD_last]; exact h
  rw [Int32.le_iff_toInt_le]
  show (0 : Int32).toInt ≤ x.toBitVec.toInt
  rw [BitVec.toInt_eq_msb_cond, h1]
  simp
theorem t4_31 (b : Int32) : bz (f_F_times4 b) 31 = false := by
  rw [f_F_times4, b_or, b_or, b_or, show bz (f_F_part b 11 2 4) 31 = _ from ps_31 11 2 4 (by omega) (by omega) (by omega) b, show bz (f_F_part b 7 4 6) 31 = _ from ps_31 7 4 6 (by omega) (by omega) (by omega) b, show bz (f_F_part b 6 1 2) 31 = _ from ps_31 6 1 2 (by omega) (by omega) (by omega) b, show bz (f_F_part b 5 1 3) 31 = _ from ps_31 5 1 3 (by omega) (by omega) (by omega) b]
  rfl
theorem t4_pos {b : Int32} (h : ¬ f_F_times4 b = 0) : ¬ f_F_times4 b ≤ 0 := fun z => h (Int32.le_antisymm z (nneg_of (t4_31 b)))
theorem six0_all : ∀ p, p < 32 → ∀ q, q < 2 → (nI p - ((32 : Int32) * nI q) = 0 ↔ p = 0 ∧ q = 0) := by decide +kernel
theorem b_ps (n k t : Nat) (hn : n < 32) (hk : k < 32) (ht : t < 32) (b : Int32) {i : Nat} (hi : i < 32) : bz (f_M_part b (nI n) (nI k) <<< (nI t &&& 31)) i = (decide (t ≤ i) && (bz b (n + (i - t)) && decide (i - t < k))) := by
  rw [b_shl t ht _ hi, b_part n k hn hk b (by omega)]
theorem b_sgs (n t : Nat) (hn : n < 32) (ht : t < 32) (b : Int32) {i : Nat} (hi : i < 32) : bz ((-(f_M_part b (nI n) 1)) <<< (nI t &&& 31)) i = (decide (t ≤ i) && bz b n) := by
  rw [b_shl t ht _ hi, b_sg n hn b (by omega)]
theorem t16_bit (b : Int32) {i : Nat} (hi : i < 32) : bz (f_F_times16 b) i = (((((decide (9 ≤ i) && bz b 12) || (decide (4 ≤ i) && (bz b (6 + (i - 4)) && decide (i - 4 < 1)))) || (decide (6 ≤ i) && (bz b (5 + (i - 6)) && decide (i - 6 < 1)))) || (decide (7 ≤ i) && (bz b (3 + (i - 7)) && decide (i - 7 < 2)))) || (decide (5 ≤ i) && (bz b (2 + (i - 5)) && decide (i - 5 < 1)))) := by
  rw [f_F_times16, b_or, b_or, b_or, b_or, show bz (f_F_signed b 12 9) i = _ from b_sgs 12 9 (by omega) (by omega) b hi, show bz (f_F_part b 6 1 4) i = _ from b_ps 6 1 4 (by omega) (by omega) (by omega) b hi, show bz (f_F_part b 5 1 6) i = _ from b_ps 5 1 6 (by omega) (by omega) (by omega) b hi, show bz (f_F_part b 3 2 7) i = _ from b_ps 3 2 7 (by omega) (by omega) (by omega) b hi, show bz (f_F_part b 2 1 5) i = _ from b_ps 2 1 5 (by omega) (by omega) (by omega) b hi]
theorem t16_six (b : Int32) : f_F_times16 b = 0 ↔ f_F_six b = 0 := by
  have hs : f_F_six b = 0 ↔ f_M_part b 2 5 = 0 ∧ f_M_part b 12 1 = 0 := by
    rw [q_six]
    obtain ⟨p, q, hp, hq, e1, e2⟩ := six_of b
    have h := six0_all p hp q hq
    rw [← e1, ← e2] at h
    refine h.trans ?_
    rw [e1, e2]
    exact ⟨fun z => by rw [z.1, z.2]; exact ⟨rfl, rfl⟩, fun z => ⟨(nI_eq (by omega) (by omega)).mp z.1, (nI_eq (by omega) (by omega)).mp z.2⟩⟩
  rw [hs]
  constructor
  · intro h
    have g : ∀ i, i < 32 → bz (f_F_times16 b) i = false := fun i _ => by rw [h]; exact b_0 i
    have g4 := g 4 (by omega); have g5 := g 5 (by omega); have g6 := g 6 (by omega); have g7 := g 7 (by omega); have g8 := g 8 (by omega); have g9 := g 9 (by omega)
    rw [t16_bit b (by omega)] at g4 g5 g6 g7 g8 g9
    simp at g4 g5 g6 g7 g8 g9
    constructor
    · apply b_ext
      intro i hi
      rw [show bz (f_M_part b 2 5) i = _ from b_part 2 5 (by omega) (by omega) b hi, b_0]
      by_cases h5 : i < 5
      · rcases (show i = 0 ∨ i = 1 ∨ i = 2 ∨ i = 3 ∨ i = 4 by omega) with rfl | rfl | rfl | rfl | rfl <;> simp [g4, g5, g6, g7, g8]
      · simp [h5]
    · apply b_ext
      intro i hi
      rw [show bz (f_M_part b 12 1) i = _ from b_part 12 1 (by omega) (by omega) b hi, b_0]
      by_cases h5 : i < 1
      · rw [show i = 0 by omega]; simp [g9]
      · simp [h5]
  · rintro ⟨h1, h2⟩
    have g : ∀ i, i < 32 → (bz b (2 + i) && decide (i < 5)) = false := fun i hi => by rw [← show bz (f_M_part b 2 5) i = _ from b_part 2 5 (by omega) (by omega) b hi, h1]; exact b_0 i
    have g12 : (bz b (12 + 0) && decide (0 < 1)) = false := by rw [← show bz (f_M_part b 12 1) 0 = _ from b_part 12 1 (by omega) (by omega) b (by omega), h2]; exact b_0 0
    have g0 := g 0 (by omega); have g1 := g 1 (by omega); have g2 := g 2 (by omega); have g3 := g 3 (by omega); have g4 := g 4 (by omega)
    simp at g0 g1 g2 g3 g4 g12
    apply b_ext
    intro i hi
    rw [t16_bit b hi, b_0, g12]
    by_cases c4 : i = 4
    · subst c4; simp [g4]
    by_cases c5 : i = 5
    · subst c5; simp [g0]
    by_cases c6 : i = 6
    · subst c6; simp [g3]
    by_cases c7 : i = 7
    · subst c7; simp [g1]
    by_cases c8 : i = 8
    · subst c8; simp [g2]
    simp
    omega

set_option maxRecDepth 20000 in
theorem t_first (b a bb : Int32) : g_M_first b (f_M_part b 7 5) a bb (f_M_part b 13 3) s00 = wl (f_S_ofQ0 (f_M_part b 13 3) b) b := by
  obtain ⟨j, hj, e⟩ := p_nat 13 3 (by omega) b
  rw [show f_M_part b 13 3 = nI j from e]
  match j, hj with
  | 0, _ =>
    show (if f_F_times4 b ≤ 0 then s00 else g_M_immediate b (f_M_part b 7 5) a bb (nI 0) (f_F_times4 b) (sReg ((8 : Int32) + f_M_part b 2 3) (sSay 28272 (sName 8301375893052403299 s00)))) = wl (if f_F_times4 b = 0 then 1 else 68) b
    by_cases hz : f_F_times4 b = 0
    · rw [if_pos hz, if_pos (by rw [hz]; decide)]; rfl
    · rw [if_neg hz, if_neg (t4_pos hz)]
      exact lf (x := sSay 28272 (sName 8301375893052403299 s00)) (y := (0, 1, sTx (kW.getD 68 0))) (by decide +kernel) (fun z => g_M_immediate b (f_M_part b 7 5) a bb (nI 0) (f_F_times4 b) (sReg ((8 : Int32) + f_M_part b 2 3) z)) (fm_119 68 b (by decide +kernel) rfl _ _ _ _ _)
  | 1, _ => exact rfl
  | 2, _ => exact lf (x := sName 2003578467 s00) (y := (0, 1, sTx (kW.getD 69 0))) (by decide +kernel) (fun z => g_M_memory b (f_M_part b 7 5) a bb (nI 2) (f_F_shortWord b) ((8 : Int32) + f_M_part b 7 3) (sReg ((8 : Int32) + f_M_part b 2 3) z)) (fm_122 69 b (by decide +kernel) rfl _ _ _ _ _)
  | 3, _ => exact rfl
  | 4, _ => exact rfl
  | 5, _ => exact rfl
  | 6, _ => exact lf (x := sName 2004037219 s00) (y := (0, 1, sTx (kW.getD 70 0))) (by decide +kernel) (fun z => g_M_memory b (f_M_part b 7 5) a bb (nI 6) (f_F_shortWord b) ((8 : Int32) + f_M_part b 7 3) (sReg ((8 : Int32) + f_M_part b 2 3) z)) (fm_122 70 b (by decide +kernel) rfl _ _ _ _ _)
  | 7, _ => exact rfl
  | n + 8, h => exact absurd h (by omega)

set_option maxRecDepth 20000 in
theorem t_upper (b a bb f : Int32) : g_M_upper b (f_M_part b 7 5) a bb f s00 = wl (f_S_upperOrStack b) b := by
  rw [g_M_upper, q_times16, ← q_six, f_S_upperOrStack, show f_S_firstRegister b = f_M_part b 7 5 from p_eq 7 5 (by omega) (by omega) (by omega) b]
  by_cases h2 : f_M_part b 7 5 = 2
  · by_cases hz : f_F_six b = 0
    · rw [if_pos h2, if_pos ((t16_six b).mpr hz), if_pos hz]; rfl
    · rw [if_pos h2, if_neg (fun q => hz ((t16_six b).mp q)), if_pos h2, if_neg hz, if_pos h2]
      exact lf (x := sSay 28787 (sName 3905018231808667235 s00)) (y := (0, 1, sTx (kW.getD 76 0))) (by decide +kernel) (fun z => g_M_immediate b (f_M_part b 7 5) a bb f (f_F_times16 b) z) (fm_131 76 b (by decide +kernel) rfl _ _ _ _ _)
  · by_cases hz : f_F_six b = 0
    · rw [if_neg h2, if_pos hz, if_pos hz]; rfl
    · rw [if_neg h2, if_neg hz, if_neg h2, if_neg hz, if_neg h2]
      exact lf (x := sName 452941590115 s00) (y := (0, 1, sTx (kW.getD 77 0))) (by decide +kernel) (fun z => g_M_immediate b (f_M_part b 7 5) a bb f (f_F_six b) (sReg (f_M_part b 7 5) z)) (fm_126 77 b (by decide +kernel) rfl _ _ _ _ _)

set_option maxRecDepth 20000 in
theorem t_reckon (b a bb f : Int32) : g_M_reckon b (f_M_part b 7 5) a bb f (f_M_part b 10 2) s00 = wl (f_S_onLesserRegister b) b := by
  rw [f_S_onLesserRegister, f_S_hasBit12, show (b >>> ((10 : Int32) &&& 31)) &&& 3 = f_M_part b 10 2 from p_eq 10 2 (by omega) (by omega) (by omega) b, show (b >>> ((12 : Int32) &&& 31)) &&& 1 = f_M_part b 12 1 from p_eq 12 1 (by omega) (by omega) (by omega) b, show (b >>> ((5 : Int32) &&& 31)) &&& 3 = f_M_part b 5 2 from p_eq 5 2 (by omega) (by omega) (by omega) b]
  obtain ⟨j, hj, e⟩ := p_nat 10 2 (by omega) b
  rw [show f_M_part b 10 2 = nI j from e]
  match j, hj with
  | 0, _ =>
    show (if f_M_part b 12 1 = 1 then s00 else g_M_immediate b (f_M_part b 7 5) a bb f (f_M_part b 2 5) (sReg ((8 : Int32) + f_M_part b 7 3) (sName 115914497535587 s00))) = wl (if (if f_M_part b 12 1 = 1 then (1 : Int32) else 0) = 0 then 78 else 1) b
    by_cases hm : f_M_part b 12 1 = 1
    · simp only [if_pos hm]; rfl
    · simp only [if_neg hm]
      exact lf (x := sName 115914497535587 s00) (y := (0, 1, sTx (kW.getD 78 0))) (by decide +kernel) (fun z => g_M_immediate b (f_M_part b 7 5) a bb f (f_M_part b 2 5) (sReg ((8 : Int32) + f_M_part b 7 3) z)) (fm_136 78 b (by decide +kernel) rfl _ _ _ _ _)
  | 1, _ =>
    show (if f_M_part b 12 1 = 1 then s00 else g_M_immediate b (f_M_part b 7 5) a bb f (f_M_part b 2 5) (sReg ((8 : Int32) + f_M_part b 7 3) (sName 115867252895331 s00))) = wl (if (if f_M_part b 12 1 = 1 then (1 : Int32) else 0) = 0 then 79 else 1) b
    by_cases hm : f_M_part b 12 1 = 1
    · simp only [if_pos hm]; rfl
    · simp only [if_neg hm]
      exact lf (x := sName 115867252895331 s00) (y := (0, 1, sTx (kW.getD 79 0))) (by decide +kernel) (fun z => g_M_immediate b (f_M_part b 7 5) a bb f (f_M_part b 2 5) (sReg ((8 : Int32) + f_M_part b 7 3) z)) (fm_136 79 b (by decide +kernel) rfl _ _ _ _ _)
  | 2, _ => exact lf (x := sName 115880069508707 s00) (y := (0, 1, sTx (kW.getD 80 0))) (by decide +kernel) (fun z => g_M_immediate b (f_M_part b 7 5) a bb f (f_M_six b) (sReg ((8 : Int32) + f_M_part b 7 3) z)) (fm_134 80 b (by decide +kernel) (q_six b).symm _ _ _ _ _)
  | 3, _ =>
    show (if f_M_part b 12 1 = 1 then s00 else sReg ((8 : Int32) + f_M_part b 2 3) (sReg ((8 : Int32) + f_M_part b 7 3) (sName (if f_M_part b 5 2 = 0 then 422877277795 else if f_M_part b 5 2 = 1 then 491496418915 else if f_M_part b 5 2 = 2 then 1919888995 else 431348592227) s00))) = wl (if (if f_M_part b 12 1 = 1 then (1 : Int32) else 0) = 0 then f_S_ofLesserRegisters (f_M_part b 5 2) else 1) b
    by_cases hm : f_M_part b 12 1 = 1
    · simp only [if_pos hm]; rfl
    · simp only [if_neg hm]
      obtain ⟨i, hi, e5⟩ := p_nat 5 2 (by omega) b
      rw [show f_M_part b 5 2 = nI i from e5]
      match i, hi with
      | 0, _ => exact lf (x := sName 422877277795 s00) (y := (0, 1, sTx (kW.getD 81 0))) (by decide +kernel) (fun z => sReg ((8 : Int32) + f_M_part b 2 3) (sReg ((8 : Int32) + f_M_part b 7 3) z)) (fm_139 81 b (by decide +kernel))
      | 1, _ => exact lf (x := sName 491496418915 s00) (y := (0, 1, sTx (kW.getD 82 0))) (by decide +kernel) (fun z => sReg ((8 : Int32) + f_M_part b 2 3) (sReg ((8 : Int32) + f_M_part b 7 3) z)) (fm_139 82 b (by decide +kernel))
      | 2, _ => exact lf (x := sName 1919888995 s00) (y := (0, 1, sTx (kW.getD 83 0))) (by decide +kernel) (fun z => sReg ((8 : Int32) + f_M_part b 2 3) (sReg ((8 : Int32) + f_M_part b 7 3) z)) (fm_139 83 b (by decide +kernel))
      | 3, _ => exact lf (x := sName 431348592227 s00) (y := (0, 1, sTx (kW.getD 84 0))) (by decide +kernel) (fun z => sReg ((8 : Int32) + f_M_part b 2 3) (sReg ((8 : Int32) + f_M_part b 7 3) z)) (fm_139 84 b (by decide +kernel))
      | n + 4, h => exact absurd h (by omega)
  | n + 4, h => exact absurd h (by omega)

set_option maxRecDepth 20000 in
theorem t_second (b a bb : Int32) : g_M_second b (f_M_part b 7 5) a bb (f_M_part b 13 3) s00 = wl (f_S_ofQ1 (f_M_part b 13 3) b) b := by
  by_cases h1 : b = 1
  · subst h1; exact (by decide +kernel : sName 482905828963 s00 = wl (f_S_ofQ1 (f_M_part 1 13 3) 1) 1)
  rw [g_M_second, if_neg h1]
  obtain ⟨j, hj, e⟩ := p_nat 13 3 (by omega) b
  rw [show f_M_part b 13 3 = nI j from e]
  match j, hj with
  | 0, _ => 
    rw [show f_S_ofQ1 (nI 0) b = 72 from if_neg h1]
    exact lf (x := sName 115879901736547 s00) (y := (0, 1, sTx (kW.getD 72 0))) (by decide +kernel) (fun z => g_M_immediate b (f_M_part b 7 5) a bb (nI 0) (f_M_six b) (sReg (f_M_part b 7 5) z)) (fm_126 72 b (by decide +kernel) (q_six b).symm _ _ _ _ _)
  | 1, _ => exact lf (x := sName 465490816611 s00) (y := (0, 1, sTx (kW.getD 73 0))) (by decide +kernel) (fun z => g_M_target b (f_M_part b 7 5) a bb (nI 1) (((((((((f_M_part b 3 3) <<< ((1 : Int32) &&& 31)) ||| ((f_M_part b 11 1) <<< ((4 : Int32) &&& 31))) ||| ((f_M_part b 2 1) <<< ((5 : Int32) &&& 31))) ||| ((f_M_part b 7 1) <<< ((6 : Int32) &&& 31))) ||| ((f_M_part b 6 1) <<< ((7 : Int32) &&& 31))) ||| ((f_M_part b 9 2) <<< ((8 : Int32) &&& 31))) ||| ((f_M_part b 8 1) <<< ((10 : Int32) &&& 31))) ||| ((-(f_M_part b 12 1)) <<< ((11 : Int32) &&& 31))) z) (fm_128 73 b (by decide +kernel) (q_shortJump b) _ _ _ _ _)
  | 2, _ => exact lf (x := sName 1768697443 s00) (y := (0, 1, sTx (kW.getD 75 0))) (by decide +kernel) (fun z => g_M_immediate b (f_M_part b 7 5) a bb (nI 2) (f_M_six b) (sReg (f_M_part b 7 5) z)) (fm_126 75 b (by decide +kernel) (q_six b).symm _ _ _ _ _)
  | 3, _ => exact t_upper b a bb (nI 3)
  | 4, _ => exact t_reckon b a bb (nI 4)
  | 5, _ => exact lf (x := sName 6958691 s00) (y := (0, 1, sTx (kW.getD 74 0))) (by decide +kernel) (fun z => g_M_target b (f_M_part b 7 5) a bb (nI 5) (((((((((f_M_part b 3 3) <<< ((1 : Int32) &&& 31)) ||| ((f_M_part b 11 1) <<< ((4 : Int32) &&& 31))) ||| ((f_M_part b 2 1) <<< ((5 : Int32) &&& 31))) ||| ((f_M_part b 7 1) <<< ((6 : Int32) &&& 31))) ||| ((f_M_part b 6 1) <<< ((7 : Int32) &&& 31))) ||| ((f_M_part b 9 2) <<< ((8 : Int32) &&& 31))) ||| ((f_M_part b 8 1) <<< ((10 : Int32) &&& 31))) ||| ((-(f_M_part b 12 1)) <<< ((11 : Int32) &&& 31))) z) (fm_128 74 b (by decide +kernel) (q_shortJump b) _ _ _ _ _)
  | 6, _ => exact lf (x := sName 134627450826339 s00) (y := (0, 1, sTx (kW.getD 85 0))) (by decide +kernel) (fun z => g_M_target b (f_M_part b 7 5) a bb (nI 6) ((((((f_M_part b 3 2) <<< ((1 : Int32) &&& 31)) ||| ((f_M_part b 10 2) <<< ((3 : Int32) &&& 31))) ||| ((f_M_part b 2 1) <<< ((5 : Int32) &&& 31))) ||| ((f_M_part b 5 2) <<< ((6 : Int32) &&& 31))) ||| ((-(f_M_part b 12 1)) <<< ((8 : Int32) &&& 31))) (sReg ((8 : Int32) + f_M_part b 7 3) z)) (fm_145 85 b (by decide +kernel) (q_shortBranch b) _ _ _ _ _)
  | 7, _ => exact lf (x := sName 134576062213731 s00) (y := (0, 1, sTx (kW.getD 86 0))) (by decide +kernel) (fun z => g_M_target b (f_M_part b 7 5) a bb (nI 7) ((((((f_M_part b 3 2) <<< ((1 : Int32) &&& 31)) ||| ((f_M_part b 10 2) <<< ((3 : Int32) &&& 31))) ||| ((f_M_part b 2 1) <<< ((5 : Int32) &&& 31))) ||| ((f_M_part b 5 2) <<< ((6 : Int32) &&& 31))) ||| ((-(f_M_part b 12 1)) <<< ((8 : Int32) &&& 31))) (sReg ((8 : Int32) + f_M_part b 7 3) z)) (fm_145 86 b (by decide +kernel) (q_shortBranch b) _ _ _ _ _)
  | n + 8, h => exact absurd h (by omega)

set_option maxRecDepth 20000 in
theorem t_third (b a bb : Int32) : g_M_third b (f_M_part b 7 5) a bb (f_M_part b 13 3) s00 = wl (f_S_ofQ2 (f_M_part b 13 3) b) b := by
  rw [f_S_ofQ2, f_S_hasBit12, f_S_moveOrJump, f_S_addOrJump, f_S_firstRegister, f_S_secondRegister, show (b >>> ((12 : Int32) &&& 31)) &&& 1 = f_M_part b 12 1 from p_eq 12 1 (by omega) (by omega) (by omega) b, show (b >>> ((7 : Int32) &&& 31)) &&& 31 = f_M_part b 7 5 from p_eq 7 5 (by omega) (by omega) (by omega) b, show (b >>> ((2 : Int32) &&& 31)) &&& 31 = f_M_part b 2 5 from p_eq 2 5 (by omega) (by omega) (by omega) b]
  obtain ⟨j, hj, e⟩ := p_nat 13 3 (by omega) b
  rw [show f_M_part b 13 3 = nI j from e]
  match j, hj with
  | 0, _ =>
    show (if (if f_M_part b 12 1 = 1 then (1 : Int32) else 0) = 0 then g_M_immediate b (f_M_part b 7 5) a (f_M_part b 2 5) (nI 0) (f_M_part b 2 5) (sReg (f_M_part b 7 5) (sName 115914396872291 s00)) else s00) = wl (if (if f_M_part b 12 1 = 1 then (1 : Int32) else 0) = 0 then 87 else 1) b
    by_cases hm : f_M_part b 12 1 = 1
    · simp only [if_pos hm]; rfl
    · simp only [if_neg hm]
      exact lf (x := sName 115914396872291 s00) (y := (0, 1, sTx (kW.getD 87 0))) (by decide +kernel) (fun z => g_M_immediate b (f_M_part b 7 5) a (f_M_part b 2 5) (nI 0) (f_M_part b 2 5) (sReg (f_M_part b 7 5) z)) (fm_148 87 b (by decide +kernel) rfl _ _ _ _ _)
  | 1, _ => exact rfl
  | 2, _ =>
    show (if (f_M_part b 7 5) = 0 then s00 else g_M_immediate b (f_M_part b 7 5) a (f_M_part b 2 5) (nI 2) (((f_M_part b 12 1 <<< ((5 : Int32) &&& 31)) ||| (f_M_part b 4 3 <<< ((2 : Int32) &&& 31))) ||| (f_M_part b 2 2 <<< ((6 : Int32) &&& 31))) (sReg (f_M_part b 7 5) (sName 123641227128419 s00))) = wl (if (f_M_part b 7 5) = 0 then 1 else 88) b
    by_cases hd : (f_M_part b 7 5) = 0
    · simp only [if_pos hd]; rfl
    · simp only [if_neg hd]
      exact lf (x := sName 123641227128419 s00) (y := (0, 1, sTx (kW.getD 88 0))) (by decide +kernel) (fun z => g_M_immediate b (f_M_part b 7 5) a (f_M_part b 2 5) (nI 2) (((f_M_part b 12 1 <<< ((5 : Int32) &&& 31)) ||| (f_M_part b 4 3 <<< ((2 : Int32) &&& 31))) ||| (f_M_part b 2 2 <<< ((6 : Int32) &&& 31))) (sReg (f_M_part b 7 5) z)) (fm_150 88 b (by decide +kernel) (q_stackLoad b) _ _ _ _ _)
  | 3, _ => exact rfl
  | 4, _ =>
    show (if (f_M_part b 2 5) = 0 then (if (f_M_part b 7 5) = 0 then (if (if f_M_part b 12 1 = 1 then (1 : Int32) else 0) = 0 then s00 else sName 7737577176750698083 s00) else sReg (f_M_part b 7 5) (sName (if (if f_M_part b 12 1 = 1 then (1 : Int32) else 0) = 0 then 1919561315 else 125809816383075) s00)) else sReg (f_M_part b 2 5) (sReg (f_M_part b 7 5) (sName (if (if f_M_part b 12 1 = 1 then (1 : Int32) else 0) = 0 then 1986866787 else 431180820067) s00))) = wl (if (if f_M_part b 12 1 = 1 then (1 : Int32) else 0) = 0 then (if (f_M_part b 2 5) = 0 then (if (f_M_part b 7 5) = 0 then 1 else 89) else 90) else (if (f_M_part b 2 5) = 0 then (if (f_M_part b 7 5) = 0 then 91 else 92) else 93)) b
    by_cases hm : f_M_part b 12 1 = 1
    · by_cases hr : (f_M_part b 2 5) = 0
      · by_cases hd : (f_M_part b 7 5) = 0
        · simp only [if_pos hm, if_pos hr, if_pos hd]
          exact lf (x := sName 7737577176750698083 s00) (y := (0, 1, sTx (kW.getD 91 0))) (by decide +kernel) (fun z => z) (fm_47 91 b (by decide +kernel))
        · simp only [if_pos hm, if_pos hr, if_neg hd]
          exact lf (x := sName 125809816383075 s00) (y := (0, 1, sTx (kW.getD 92 0))) (by decide +kernel) (fun z => sReg (f_M_part b 7 5) z) (fm_112 92 b (by decide +kernel))
      · simp only [if_pos hm, if_neg hr]
        exact lf (x := sName 431180820067 s00) (y := (0, 1, sTx (kW.getD 93 0))) (by decide +kernel) (fun z => sReg (f_M_part b 2 5) (sReg (f_M_part b 7 5) z)) (fm_152 93 b (by decide +kernel))
    · by_cases hr : (f_M_part b 2 5) = 0
      · by_cases hd : (f_M_part b 7 5) = 0
        · simp only [if_neg hm, if_pos hr, if_pos hd]; rfl
        · simp only [if_neg hm, if_pos hr, if_neg hd]
          exact lf (x := sName 1919561315 s00) (y := (0, 1, sTx (kW.getD 89 0))) (by decide +kernel) (fun z => sReg (f_M_part b 7 5) z) (fm_112 89 b (by decide +kernel))
      · simp only [if_neg hm, if_neg hr]
        exact lf (x := sName 1986866787 s00) (y := (0, 1, sTx (kW.getD 90 0))) (by decide +kernel) (fun z => sReg (f_M_part b 2 5) (sReg (f_M_part b 7 5) z)) (fm_152 90 b (by decide +kernel))
  | 5, _ => exact rfl
  | 6, _ => exact lf (x := sName 123641227587171 s00) (y := (0, 1, sTx (kW.getD 94 0))) (by decide +kernel) (fun z => g_M_immediate b (f_M_part b 7 5) a (f_M_part b 2 5) (nI 6) ((f_M_part b 9 4 <<< ((2 : Int32) &&& 31)) ||| (f_M_part b 7 2 <<< ((6 : Int32) &&& 31))) (sReg (f_M_part b 2 5) z)) (fm_158 94 b (by decide +kernel) (q_stackStore b) _ _ _ _ _)
  | 7, _ => exact rfl
  | n + 8, h => exact absurd h (by omega)

theorem t_short (b a bb : Int32) (h : ¬ b &&& 3 = 3) : dis b a bb 0 = wl (f_S_ofHalf b) b := by
  rw [dis, if_pos rfl, f_S_ofHalf, show (b >>> ((13 : Int32) &&& 31)) &&& 7 = f_M_part b 13 3 from p_eq 13 3 (by omega) (by omega) (by omega) b]
  by_cases h0 : b &&& 3 = 0
  · rw [if_pos h0, if_pos h0]; exact t_first b a bb
  by_cases h1 : b &&& 3 = 1
  · rw [if_neg h0, if_pos h1, if_neg h0, if_pos h1]; exact t_second b a bb
  have h2 : b &&& 3 = 2 := by
    obtain ⟨j, hj, e⟩ := pk_andE b (m := 3) 2 (by decide)
    rw [e] at h h0 h1 ⊢
    match j, hj with
    | 0, _ => exact absurd rfl h0
    | 1, _ => exact absurd rfl h1
    | 2, _ => rfl
    | 3, _ => exact absurd rfl h
    | n + 4, z => exact absurd z (by omega)
  rw [if_neg h0, if_neg h1, if_neg h0, if_neg h1, if_pos h2]
  exact t_third b a bb
