theorem b_sg (n : Nat) (hn : n < 32) (b : Int32) {i : Nat} (hi : i < 32) : bz (-(f_M_part b (nI n) 1)) i = bz b n := by
  have h1 : ∀ i, i < 32 → bz (f_M_part b (nI n) 1) i = (bz b (n + i) && decide (i < 1)) := fun i hi => b_part n 1 hn (by omega) b hi
  rcases Bool.eq_false_or_eq_true (bz b n) with h | h
  · have e1 : f_M_part b (nI n) 1 = 1 := by
      apply b_ext
      intro i hi
      rw [h1 i hi]
      by_cases h2 : i < 1
      · rw [show i = 0 by omega, Nat.add_zero, h]; decide
      · rw [show bz 1 i = decide (i < 1) from b_mask 1 (by omega) i hi]; simp [h2]
    rw [e1, h]; exact b_m1 i hi
  · have e1 : f_M_part b (nI n) 1 = 0 := by
      apply b_ext
      intro i hi
      rw [h1 i hi, b_0]
      by_cases h2 : i < 1
      · rw [show i = 0 by omega, Nat.add_zero, h]; rfl
      · simp [h2]
    rw [e1, h]; exact b_0 i
theorem q_store (b : Int32) : f_F_store b = ((b >>> ((25 : Int32) &&& 31)) <<< ((5 : Int32) &&& 31)) ||| f_M_part b 7 5 := by
  rw [f_F_store, show (b >>> ((7 : Int32) &&& 31)) &&& 31 = f_M_part b 7 5 from p_eq 7 5 (by omega) (by omega) (by omega) b]
theorem q_branch (b : Int32) : f_F_branch b = ((((b >>> ((31 : Int32) &&& 31)) <<< ((12 : Int32) &&& 31)) ||| ((f_M_part b 7 1) <<< ((11 : Int32) &&& 31))) ||| ((f_M_part b 25 6) <<< ((5 : Int32) &&& 31))) ||| ((f_M_part b 8 4) <<< ((1 : Int32) &&& 31)) := by
  rw [f_F_branch, f_F_signed, p_neg31]; rfl
theorem q_jump (b : Int32) : f_F_jump b = ((((b >>> ((31 : Int32) &&& 31)) <<< ((20 : Int32) &&& 31)) ||| ((f_M_part b 12 8) <<< ((12 : Int32) &&& 31))) ||| ((f_M_part b 20 1) <<< ((11 : Int32) &&& 31))) ||| ((f_M_part b 21 10) <<< ((1 : Int32) &&& 31)) := by
  rw [f_F_jump, f_F_signed, p_neg31]; rfl
theorem six_all : ∀ p, p < 32 → ∀ q, q < 2 → (((-(nI q)) <<< ((5 : Int32) &&& 31)) ||| ((nI p) <<< ((0 : Int32) &&& 31)) = nI p - ((32 : Int32) * nI q)) ∧ nI p - ((32 : Int32) * nI q) ≠ mI := by decide +kernel
theorem six_of (b : Int32) : ∃ p q, p < 32 ∧ q < 2 ∧ f_M_part b 2 5 = nI p ∧ f_M_part b 12 1 = nI q := by
  obtain ⟨p, hp, e1⟩ := p_nat 2 5 (by omega) b
  obtain ⟨q, hq, e2⟩ := p_nat 12 1 (by omega) b
  exact ⟨p, q, hp, hq, e1, e2⟩
theorem q_six (b : Int32) : f_F_six b = f_M_six b := by
  obtain ⟨p, q, hp, hq, e1, e2⟩ := six_of b
  have h := (six_all p hp q hq).1
  rw [← e1, ← e2] at h
  exact h
theorem q_times4 (b d a bb f : Int32) : u_M_first_60 b d a bb f = f_F_times4 b := rfl
theorem q_shortWord (b d a bb f : Int32) : u_M_first_90 b d a bb f = f_F_shortWord b := rfl
theorem q_stackLoad (b : Int32) : ((f_M_part b 12 1 <<< ((5 : Int32) &&& 31)) ||| (f_M_part b 4 3 <<< ((2 : Int32) &&& 31))) ||| (f_M_part b 2 2 <<< ((6 : Int32) &&& 31)) = f_F_stackLoad b := rfl
theorem q_stackStore (b : Int32) : (f_M_part b 9 4 <<< ((2 : Int32) &&& 31)) ||| (f_M_part b 7 2 <<< ((6 : Int32) &&& 31)) = f_F_stackStore b := rfl
theorem q_times16 (b d a bb f : Int32) : u_M_upper_50 b d a bb f = f_F_times16 b := by
  have h : f_F_times16 b = ((((((-(f_M_part b 12 1)) <<< ((9 : Int32) &&& 31)) ||| (f_M_part b 6 1 <<< ((4 : Int32) &&& 31))) ||| (f_M_part b 5 1 <<< ((6 : Int32) &&& 31))) ||| (f_M_part b 3 2 <<< ((7 : Int32) &&& 31))) ||| (f_M_part b 2 1 <<< ((5 : Int32) &&& 31))) := rfl
  rw [h, u_M_upper_50]
  generalize f_M_part b 6 1 <<< ((4 : Int32) &&& 31) = x1
  generalize f_M_part b 5 1 <<< ((6 : Int32) &&& 31) = x2
  generalize f_M_part b 3 2 <<< ((7 : Int32) &&& 31) = x3
  generalize f_M_part b 2 1 <<< ((5 : Int32) &&& 31) = x4
  generalize (-(f_M_part b 12 1)) <<< ((9 : Int32) &&& 31) = x5
  apply b_ext
  intro i hi
  simp only [b_or]
  cases bz x1 i <;> cases bz x2 i <;> cases bz x3 i <;> cases bz x4 i <;> cases bz x5 i <;> rfl
theorem q_shortJump (b : Int32) : ((((((((f_M_part b 3 3) <<< ((1 : Int32) &&& 31)) ||| ((f_M_part b 11 1) <<< ((4 : Int32) &&& 31))) ||| ((f_M_part b 2 1) <<< ((5 : Int32) &&& 31))) ||| ((f_M_part b 7 1) <<< ((6 : Int32) &&& 31))) ||| ((f_M_part b 6 1) <<< ((7 : Int32) &&& 31))) ||| ((f_M_part b 9 2) <<< ((8 : Int32) &&& 31))) ||| ((f_M_part b 8 1) <<< ((10 : Int32) &&& 31))) ||| ((-(f_M_part b 12 1)) <<< ((11 : Int32) &&& 31)) = f_F_shortJump b := by
  have h : f_F_shortJump b = (((((((((-(f_M_part b 12 1)) <<< ((11 : Int32) &&& 31)) ||| (f_M_part b 11 1 <<< ((4 : Int32) &&& 31))) ||| (f_M_part b 9 2 <<< ((8 : Int32) &&& 31))) ||| (f_M_part b 8 1 <<< ((10 : Int32) &&& 31))) ||| (f_M_part b 7 1 <<< ((6 : Int32) &&& 31))) ||| (f_M_part b 6 1 <<< ((7 : Int32) &&& 31))) ||| (f_M_part b 3 3 <<< ((1 : Int32) &&& 31))) ||| (f_M_part b 2 1 <<< ((5 : Int32) &&& 31))) := rfl
  rw [h]
  generalize f_M_part b 3 3 <<< ((1 : Int32) &&& 31) = x1
  generalize f_M_part b 11 1 <<< ((4 : Int32) &&& 31) = x2
  generalize f_M_part b 2 1 <<< ((5 : Int32) &&& 31) = x3
  generalize f_M_part b 7 1 <<< ((6 : Int32) &&& 31) = x4
  generalize f_M_part b 6 1 <<< ((7 : Int32) &&& 31) = x5
  generalize f_M_part b 9 2 <<< ((8 : Int32) &&& 31) = x6
  generalize f_M_part b 8 1 <<< ((10 : Int32) &&& 31) = x7
  generalize (-(f_M_part b 12 1)) <<< ((11 : Int32) &&& 31) = x8
  apply b_ext
  intro i hi
  simp only [b_or]
  cases bz x1 i <;> cases bz x2 i <;> cases bz x3 i <;> cases bz x4 i <;> cases bz x5 i <;> cases bz x6 i <;> cases bz x7 i <;> cases bz x8 i <;> rfl
theorem q_shortBranch (b : Int32) : (((((f_M_part b 3 2) <<< ((1 : Int32) &&& 31)) ||| ((f_M_part b 10 2) <<< ((3 : Int32) &&& 31))) ||| ((f_M_part b 2 1) <<< ((5 : Int32) &&& 31))) ||| ((f_M_part b 5 2) <<< ((6 : Int32) &&& 31))) ||| ((-(f_M_part b 12 1)) <<< ((8 : Int32) &&& 31)) = f_F_shortBranch b := by
  have h : f_F_shortBranch b = ((((((-(f_M_part b 12 1)) <<< ((8 : Int32) &&& 31)) ||| (f_M_part b 10 2 <<< ((3 : Int32) &&& 31))) ||| (f_M_part b 5 2 <<< ((6 : Int32) &&& 31))) ||| (f_M_part b 3 2 <<< ((1 : Int32) &&& 31))) ||| (f_M_part b 2 1 <<< ((5 : Int32) &&& 31))) := rfl
  rw [h]
  generalize f_M_part b 3 2 <<< ((1 : Int32) &&& 31) = x1
  generalize f_M_part b 10 2 <<< ((3 : Int32) &&& 31) = x2
  generalize f_M_part b 2 1 <<< ((5 : Int32) &&& 31) = x3
  generalize f_M_part b 5 2 <<< ((6 : Int32) &&& 31) = x4
  generalize (-(f_M_part b 12 1)) <<< ((8 : Int32) &&& 31) = x5
  apply b_ext
  intro i hi
  simp only [b_or]
  cases bz x1 i <;> cases bz x2 i <;> cases bz x3 i <;> cases bz x4 i <;> cases bz x5 i <;> rfl
/-! ### none of them is the least number -/
theorem part_ne (n k : Nat) (hn : n < 32) (hk : k ≤ 30) (b : Int32) : f_M_part b (nI n) (nI k) ≠ mI := ne_min (fun h => by
  rw [b_part n k hn (by omega) b (by omega)] at h
  rw [show decide (31 < k) = false from decide_eq_false (by omega)] at h
  simp at h)
theorem ps_31 (n k t : Nat) (hn : n < 32) (hk : k < 32) (ht : t + k ≤ 30) (b : Int32) : bz (f_M_part b (nI n) (nI k) <<< (nI t &&& 31)) 31 = false := by
  rw [b_shl t (by omega) _ (by omega), b_part n k hn hk b (by omega), show decide (31 - t < k) = false from decide_eq_false (by omega)]
  simp
theorem sg_3 (n t : Nat) (hn : n < 32) (ht : t ≤ 30) (b : Int32) : bz ((-(f_M_part b (nI n) 1)) <<< (nI t &&& 31)) 31 = bz b n ∧ bz ((-(f_M_part b (nI n) 1)) <<< (nI t &&& 31)) 30 = bz b n := by
  constructor
  · rw [b_shl t (by omega) _ (by omega), b_sg n hn b (by omega)]; simp; omega
  · rw [b_shl t (by omega) _ (by omega), b_sg n hn b (by omega)]; simp; omega
theorem ss_3 (n t : Nat) (hn : n < 32) (ht : t ≤ 30) (hnt : 32 ≤ n + (30 - t) + 1) (b : Int32) : bz ((b >>> (nI n &&& 31)) <<< (nI t &&& 31)) 31 = bz b 31 ∧ bz ((b >>> (nI n &&& 31)) <<< (nI t &&& 31)) 30 = bz b 31 := by
  constructor
  · rw [b_shl t (by omega) _ (by omega), b_sshr n hn b (by omega)]
    by_cases h : n + (31 - t) < 32
    · omega
    · rw [if_neg h]; simp; omega
  · rw [b_shl t (by omega) _ (by omega), b_sshr n hn b (by omega)]
    by_cases h : n + (30 - t) < 32
    · rw [if_pos h, show n + (30 - t) = 31 by omega]; simp; omega
    · rw [if_neg h]; simp; omega
theorem ne_imm (b : Int32) : b >>> ((20 : Int32) &&& 31) ≠ mI := ne_min (fun h => by
  rw [show bz (b >>> ((20 : Int32) &&& 31)) 31 = _ from b_sshr 20 (by omega) b (by omega)] at h
  rw [show bz (b >>> ((20 : Int32) &&& 31)) 30 = _ from b_sshr 20 (by omega) b (by omega)]
  rw [if_neg (by omega)] at h ⊢
  exact h)
theorem ne_u (b : Int32) : ushr b 12 ≠ mI := ne_min (fun h => by
  rw [show bz (ushr b 12) 31 = bz b (12 + 31) from b_ushr 12 (by omega) b 31, b_big (by omega)] at h
  cases h)
theorem ne_store (b : Int32) : f_F_store b ≠ mI := ne_min (fun h => by
  rw [q_store, b_or] at h ⊢
  have h1 := ss_3 25 5 (by omega) (by omega) (by omega) b
  have h2 : bz (f_M_part b 7 5) 31 = false := by rw [show bz (f_M_part b 7 5) 31 = _ from b_part 7 5 (by omega) (by omega) b (by omega)]; simp
  rw [h2, show bz ((b >>> ((25 : Int32) &&& 31)) <<< ((5 : Int32) &&& 31)) 31 = _ from h1.1] at h
  rw [show bz ((b >>> ((25 : Int32) &&& 31)) <<< ((5 : Int32) &&& 31)) 30 = _ from h1.2]
  simp at h
  rw [h]; rfl)
theorem ne_branch (b : Int32) : f_F_branch b ≠ mI := ne_min (fun h => by
  rw [q_branch, b_or, b_or, b_or] at h ⊢
  have h1 := ss_3 31 12 (by omega) (by omega) (by omega) b
  rw [show bz ((f_M_part b 7 1) <<< ((11 : Int32) &&& 31)) 31 = _ from ps_31 7 1 11 (by omega) (by omega) (by omega) b, show bz ((f_M_part b 25 6) <<< ((5 : Int32) &&& 31)) 31 = _ from ps_31 25 6 5 (by omega) (by omega) (by omega) b, show bz ((f_M_part b 8 4) <<< ((1 : Int32) &&& 31)) 31 = _ from ps_31 8 4 1 (by omega) (by omega) (by omega) b, show bz ((b >>> ((31 : Int32) &&& 31)) <<< ((12 : Int32) &&& 31)) 31 = _ from h1.1] at h
  rw [show bz ((b >>> ((31 : Int32) &&& 31)) <<< ((12 : Int32) &&& 31)) 30 = _ from h1.2]
  simp at h
  rw [h]; rfl)
theorem ne_jump (b : Int32) : f_F_jump b ≠ mI := ne_min (fun h => by
  rw [q_jump, b_or, b_or, b_or] at h ⊢
  have h1 := ss_3 31 20 (by omega) (by omega) (by omega) b
  rw [show bz ((f_M_part b 12 8) <<< ((12 : Int32) &&& 31)) 31 = _ from ps_31 12 8 12 (by omega) (by omega) (by omega) b, show bz ((f_M_part b 20 1) <<< ((11 : Int32) &&& 31)) 31 = _ from ps_31 20 1 11 (by omega) (by omega) (by omega) b, show bz ((f_M_part b 21 10) <<< ((1 : Int32) &&& 31)) 31 = _ from ps_31 21 10 1 (by omega) (by omega) (by omega) b, show bz ((b >>> ((31 : Int32) &&& 31)) <<< ((20 : Int32) &&& 31)) 31 = _ from h1.1] at h
  rw [show bz ((b >>> ((31 : Int32) &&& 31)) <<< ((20 : Int32) &&& 31)) 30 = _ from h1.2]
  simp at h
  rw [h]; rfl)
theorem ne_six (b : Int32) : f_F_six b ≠ mI := by
  rw [q_six]
  obtain ⟨p, q, hp, hq, e1, e2⟩ := six_of b
  have h := (six_all p hp q hq).2
  rw [← e1, ← e2] at h
  exact h
theorem ne_times4 (b : Int32) : f_F_times4 b ≠ mI := ne_min (fun h => by
  rw [f_F_times4, b_or, b_or, b_or, show bz (f_F_part b 11 2 4) 31 = _ from ps_31 11 2 4 (by omega) (by omega) (by omega) b, show bz (f_F_part b 7 4 6) 31 = _ from ps_31 7 4 6 (by omega) (by omega) (by omega) b, show bz (f_F_part b 6 1 2) 31 = _ from ps_31 6 1 2 (by omega) (by omega) (by omega) b, show bz (f_F_part b 5 1 3) 31 = _ from ps_31 5 1 3 (by omega) (by omega) (by omega) b] at h
  cases h)
theorem ne_shortWord (b : Int32) : f_F_shortWord b ≠ mI := ne_min (fun h => by
  rw [f_F_shortWord, b_or, b_or, show bz (f_F_part b 10 3 3) 31 = _ from ps_31 10 3 3 (by omega) (by omega) (by omega) b, show bz (f_F_part b 6 1 2) 31 = _ from ps_31 6 1 2 (by omega) (by omega) (by omega) b, show bz (f_F_part b 5 1 6) 31 = _ from ps_31 5 1 6 (by omega) (by omega) (by omega) b] at h
  cases h)
theorem ne_stackLoad (b : Int32) : f_F_stackLoad b ≠ mI := ne_min (fun h => by
  rw [f_F_stackLoad, b_or, b_or, show bz (f_F_part b 12 1 5) 31 = _ from ps_31 12 1 5 (by omega) (by omega) (by omega) b, show bz (f_F_part b 4 3 2) 31 = _ from ps_31 4 3 2 (by omega) (by omega) (by omega) b, show bz (f_F_part b 2 2 6) 31 = _ from ps_31 2 2 6 (by omega) (by omega) (by omega) b] at h
  cases h)
theorem ne_stackStore (b : Int32) : f_F_stackStore b ≠ mI := ne_min (fun h => by
  rw [f_F_stackStore, b_or, show bz (f_F_part b 9 4 2) 31 = _ from ps_31 9 4 2 (by omega) (by omega) (by omega) b, show bz (f_F_part b 7 2 6) 31 = _ from ps_31 7 2 6 (by omega) (by omega) (by omega) b] at h
  cases h)
theorem ne_times16 (b : Int32) : f_F_times16 b ≠ mI := ne_min (fun h => by
  rw [f_F_times16, b_or, b_or, b_or, b_or] at h ⊢
  have h1 := sg_3 12 9 (by omega) (by omega) b
  rw [show bz (f_F_part b 6 1 4) 31 = _ from ps_31 6 1 4 (by omega) (by omega) (by omega) b, show bz (f_F_part b 5 1 6) 31 = _ from ps_31 5 1 6 (by omega) (by omega) (by omega) b, show bz (f_F_part b 3 2 7) 31 = _ from ps_31 3 2 7 (by omega) (by omega) (by omega) b, show bz (f_F_part b 2 1 5) 31 = _ from ps_31 2 1 5 (by omega) (by omega) (by omega) b, show bz (f_F_signed b 12 9) 31 = _ from h1.1] at h
  rw [show bz (f_F_signed b 12 9) 30 = _ from h1.2]
  simp at h
  rw [h]; rfl)
theorem ne_shortJump (b : Int32) : f_F_shortJump b ≠ mI := ne_min (fun h => by
  rw [f_F_shortJump, b_or, b_or, b_or, b_or, b_or, b_or, b_or] at h ⊢
  have h1 := sg_3 12 11 (by omega) (by omega) b
  rw [show bz (f_F_part b 11 1 4) 31 = _ from ps_31 11 1 4 (by omega) (by omega) (by omega) b, show bz (f_F_part b 9 2 8) 31 = _ from ps_31 9 2 8 (by omega) (by omega) (by omega) b, show bz (f_F_part b 8 1 10) 31 = _ from ps_31 8 1 10 (by omega) (by omega) (by omega) b, show bz (f_F_part b 7 1 6) 31 = _ from ps_31 7 1 6 (by omega) (by omega) (by omega) b, show bz (f_F_part b 6 1 7) 31 = _ from ps_31 6 1 7 (by omega) (by omega) (by omega) b, show bz (f_F_part b 3 3 1) 31 = _ from ps_31 3 3 1 (by omega) (by omega) (by omega) b, show bz (f_F_part b 2 1 5) 31 = _ from ps_31 2 1 5 (by omega) (by omega) (by omega) b, show bz (f_F_signed b 12 11) 31 = _ from h1.1] at h
  rw [show bz (f_F_signed b 12 11) 30 = _ from h1.2]
  simp at h
  rw [h]; rfl)
theorem ne_shortBranch (b : Int32) : f_F_shortBranch b ≠ mI := ne_min (fun h => by
  rw [f_F_shortBranch, b_or, b_or, b_or, b_or] at h ⊢
  have h1 := sg_3 12 8 (by omega) (by omega) b
  rw [show bz (f_F_part b 10 2 3) 31 = _ from ps_31 10 2 3 (by omega) (by omega) (by omega) b, show bz (f_F_part b 5 2 6) 31 = _ from ps_31 5 2 6 (by omega) (by omega) (by omega) b, show bz (f_F_part b 3 2 1) 31 = _ from ps_31 3 2 1 (by omega) (by omega) (by omega) b, show bz (f_F_part b 2 1 5) 31 = _ from ps_31 2 1 5 (by omega) (by omega) (by omega) b, show bz (f_F_signed b 12 8) 31 = _ from h1.1] at h
  rw [show bz (f_F_signed b 12 8) 30 = _ from h1.2]
  simp at h
  rw [h]; rfl)
