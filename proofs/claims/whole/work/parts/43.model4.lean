def q_M_atomic_23 (bi d a b f x1 : Int32) : Int32 :=
  if x1 = 1 then
    1
  else
    0
set_option maxRecDepth 100000 in
set_option maxHeartbeats 4000000 in
theorem rg_M_atomic_23 {p : Program} {l : Launch} {e : Env} {R : Room} {s : State} {m : MethodId} {args : Array Value} {below : List Frame} {meth : Method} {c : Code} {cells slots : Nat} {Q : State → Prop} {Ts : List Cond} {dC : Nat → ClassId} {dI : Nat → Nat → Nat} {cI cC : ClassId} {m0 mt ms mr mk : Nat} {th yb bi d a b f : Int32} {str fk : Nat → Int32} {st : MT} {H : Heap} {locs : List Loc} {ls : Array Slot} {x1 : Int32} (S : CallFix p m c b_M_atomic 5 s args Ts R_M) (hTs : ∀ w ∈ WT, w ∈ Ts) (hT : ∀ w ∈ WT, w.before args s = true) (hfr : 1 ≤ R.frames) (hlo : 1 ≤ R.locals) (hc : cells ≤ R.cells ∧ slots ≤ R.slots) (hK : rK dC dI cI cC s) (hw : mwd dC dI cI cC m0 mt ms mr mk th yb bi d a b f str fk st H) (hl : lv_has ls 5 [(0, .ref m0), (1, .int x1)]) (kk : W p l e R s m args below meth c H locs cells slots Q (F0 m 31 ls (.int (q_M_atomic_23 bi d a b f x1) :: []))) : W p l e R s m args below meth c H locs cells slots Q (F0 m 23 ls (.int 1 :: .int x1 :: [])) := by
  have hx := S.1
  have hb := S.2.1
  have hown := S.2.2.2.1
  refine lv_icmp_ne (tgt := 30) hx hb d_M_atomic_23 (by decide) (fun c_1 => ?_) (fun c_1 => ?_)
  · refine lv_iconst (v := 0) hx hb d_M_atomic_30 (by decide) ?_
    rw [q_M_atomic_23, if_neg c_1] at kk
    exact kk
  · refine lv_iconst (v := 1) hx hb d_M_atomic_26 (by decide) ?_
    refine lv_goto (tgt := 31) hx hb d_M_atomic_27 (by decide) ?_
    rw [q_M_atomic_23, if_pos c_1] at kk
    exact kk
def q_M_atomic_35 (bi d a b f x1 y2 : Int32) : Int32 :=
  if x1 < 16 then
    0
  else
    if (x1 - x1 / 4 * 4) = 0 then
      1
    else
      0
set_option maxRecDepth 100000 in
set_option maxHeartbeats 4000000 in
theorem rg_M_atomic_35 {p : Program} {l : Launch} {e : Env} {R : Room} {s : State} {m : MethodId} {args : Array Value} {below : List Frame} {meth : Method} {c : Code} {cells slots : Nat} {Q : State → Prop} {Ts : List Cond} {dC : Nat → ClassId} {dI : Nat → Nat → Nat} {cI cC : ClassId} {m0 mt ms mr mk : Nat} {th yb bi d a b f : Int32} {str fk : Nat → Int32} {st : MT} {H : Heap} {locs : List Loc} {ls : Array Slot} {x1 y2 : Int32} (S : CallFix p m c b_M_atomic 5 s args Ts R_M) (hTs : ∀ w ∈ WT, w ∈ Ts) (hT : ∀ w ∈ WT, w.before args s = true) (hfr : 1 ≤ R.frames) (hlo : 1 ≤ R.locals) (hc : cells ≤ R.cells ∧ slots ≤ R.slots) (hK : rK dC dI cI cC s) (hw : mwd dC dI cI cC m0 mt ms mr mk th yb bi d a b f str fk st H) (hl : lv_has ls 5 [(2, .int y2), (0, .ref m0), (1, .int x1)]) (kk : W p l e R s m args below meth c H locs cells slots Q (F0 m 49 ls (.int (q_M_atomic_35 bi d a b f x1 y2) :: []))) : W p l e R s m args below meth c H locs cells slots Q (F0 m 35 ls (.int 16 :: .int x1 :: [])) := by
  have hx := S.1
  have hb := S.2.1
  have hown := S.2.2.2.1
  refine lv_icmp_lt (tgt := 48) hx hb d_M_atomic_35 (by decide) (fun c_1 => ?_) (fun c_1 => ?_)
  · refine lv_iconst (v := 0) hx hb d_M_atomic_48 (by decide) ?_
    rw [q_M_atomic_35, if_pos c_1] at kk
    exact kk
  · refine lv_iload_n hx hb d_M_atomic_38 rfl (lv_at hl 2 rfl) ?_
    refine lv_iconst (v := 4) hx hb d_M_atomic_39 (by decide) ?_
    refine lv_irem hx hb d_M_atomic_40 (by decide) ?_
    refine lv_if_ne (tgt := 48) hx hb d_M_atomic_41 (by decide) (fun c_2 => ?_) (fun c_2 => ?_)
    · refine lv_iconst (v := 0) hx hb d_M_atomic_48 (by decide) ?_
      rw [q_M_atomic_35, if_neg c_1, if_neg c_2] at kk
      exact kk
    · refine lv_iconst (v := 1) hx hb d_M_atomic_44 (by decide) ?_
      refine lv_goto (tgt := 49) hx hb d_M_atomic_45 (by decide) ?_
      rw [q_M_atomic_35, if_neg c_1, if_pos c_2] at kk
      exact kk
def u_M_atomic_49 (bi d a b f x1 : Int32) : Int32 := q_M_atomic_35 bi d a b f x1 (q_M_atomic_23 bi d a b f x1)
def q_M_atomic_52 (bi d a b f x1 y2 y3 : Int32) : Int32 :=
  if x1 < 5 then
    1
  else
    if x1 = 8 then
      1
    else
      if x1 = 12 then
        1
      else
        if y3 = 0 then
          0
        else
          1
set_option maxRecDepth 100000 in
set_option maxHeartbeats 4000000 in
theorem rg_M_atomic_52 {p : Program} {l : Launch} {e : Env} {R : Room} {s : State} {m : MethodId} {args : Array Value} {below : List Frame} {meth : Method} {c : Code} {cells slots : Nat} {Q : State → Prop} {Ts : List Cond} {dC : Nat → ClassId} {dI : Nat → Nat → Nat} {cI cC : ClassId} {m0 mt ms mr mk : Nat} {th yb bi d a b f : Int32} {str fk : Nat → Int32} {st : MT} {H : Heap} {locs : List Loc} {ls : Array Slot} {x1 y2 y3 : Int32} (S : CallFix p m c b_M_atomic 5 s args Ts R_M) (hTs : ∀ w ∈ WT, w ∈ Ts) (hT : ∀ w ∈ WT, w.before args s = true) (hfr : 1 ≤ R.frames) (hlo : 1 ≤ R.locals) (hc : cells ≤ R.cells ∧ slots ≤ R.slots) (hK : rK dC dI cI cC s) (hw : mwd dC dI cI cC m0 mt ms mr mk th yb bi d a b f str fk st H) (hl : lv_has ls 5 [(3, .int y3), (2, .int y2), (0, .ref m0), (1, .int x1)]) (kk : W p l e R s m args below meth c H locs cells slots Q (F0 m 76 ls (.int (q_M_atomic_52 bi d a b f x1 y2 y3) :: []))) : W p l e R s m args below meth c H locs cells slots Q (F0 m 52 ls (.int 5 :: .int x1 :: [])) := by
  have hx := S.1
  have hb := S.2.1
  have hown := S.2.2.2.1
  refine lv_icmp_lt (tgt := 71) hx hb d_M_atomic_52 (by decide) (fun c_1 => ?_) (fun c_1 => ?_)
  · refine lv_iconst (v := 1) hx hb d_M_atomic_71 (by decide) ?_
    refine lv_goto (tgt := 76) hx hb d_M_atomic_72 (by decide) ?_
    rw [q_M_atomic_52, if_pos c_1] at kk
    exact kk
  · refine lv_iload_n hx hb d_M_atomic_55 rfl (lv_at hl 3 rfl) ?_
    refine lv_bipush (v := 8) hx hb d_M_atomic_56 (by decide) ?_
    refine lv_icmp_eq (tgt := 71) hx hb d_M_atomic_58 (by decide) (fun c_2 => ?_) (fun c_2 => ?_)
    · refine lv_iconst (v := 1) hx hb d_M_atomic_71 (by decide) ?_
      refine lv_goto (tgt := 76) hx hb d_M_atomic_72 (by decide) ?_
      rw [q_M_atomic_52, if_neg c_1, if_pos c_2] at kk
      exact kk
    · refine lv_iload_n hx hb d_M_atomic_61 rfl (lv_at hl 3 rfl) ?_
      refine lv_bipush (v := 12) hx hb d_M_atomic_62 (by decide) ?_
      refine lv_icmp_eq (tgt := 71) hx hb d_M_atomic_64 (by decide) (fun c_3 => ?_) (fun c_3 => ?_)
      · refine lv_iconst (v := 1) hx hb d_M_atomic_71 (by decide) ?_
        refine lv_goto (tgt := 76) hx hb d_M_atomic_72 (by decide) ?_
        rw [q_M_atomic_52, if_neg c_1, if_neg c_2, if_pos c_3] at kk
        exact kk
      · refine lv_iload_n hx hb d_M_atomic_67 rfl (lv_at hl 0 rfl) ?_
        refine lv_if_eq (tgt := 75) hx hb d_M_atomic_68 (by decide) (fun c_4 => ?_) (fun c_4 => ?_)
        · refine lv_iconst (v := 0) hx hb d_M_atomic_75 (by decide) ?_
          rw [q_M_atomic_52, if_neg c_1, if_neg c_2, if_neg c_3, if_pos c_4] at kk
          exact kk
        · refine lv_iconst (v := 1) hx hb d_M_atomic_71 (by decide) ?_
          refine lv_goto (tgt := 76) hx hb d_M_atomic_72 (by decide) ?_
          rw [q_M_atomic_52, if_neg c_1, if_neg c_2, if_neg c_3, if_neg c_4] at kk
          exact kk
def u_M_atomic_76 (bi d a b f x1 : Int32) : Int32 := q_M_atomic_52 bi d a b f x1 (q_M_atomic_23 bi d a b f x1) (u_M_atomic_49 bi d a b f x1)
def q_M_atomic_87 (bi d a b f x1 y2 y3 y4 : Int32) : Int64 :=
  if x1 = 2 then
    29292
  else
    if x1 = 3 then
      25459
    else
      7302497
set_option maxRecDepth 100000 in
set_option maxHeartbeats 4000000 in
theorem rg_M_atomic_87 {p : Program} {l : Launch} {e : Env} {R : Room} {s : State} {m : MethodId} {args : Array Value} {below : List Frame} {meth : Method} {c : Code} {cells slots : Nat} {Q : State → Prop} {Ts : List Cond} {dC : Nat → ClassId} {dI : Nat → Nat → Nat} {cI cC : ClassId} {m0 mt ms mr mk : Nat} {th yb bi d a b f : Int32} {str fk : Nat → Int32} {st : MT} {H : Heap} {locs : List Loc} {ls : Array Slot} {x1 y2 y3 y4 : Int32} (S : CallFix p m c b_M_atomic 5 s args Ts R_M) (hTs : ∀ w ∈ WT, w ∈ Ts) (hT : ∀ w ∈ WT, w.before args s = true) (hfr : 1 ≤ R.frames) (hlo : 1 ≤ R.locals) (hc : cells ≤ R.cells ∧ slots ≤ R.slots) (hK : rK dC dI cI cC s) (hw : mwd dC dI cI cC m0 mt ms mr mk th yb bi d a b f str fk st H) (hl : lv_has ls 5 [(4, .int y4), (3, .int y3), (2, .int y2), (0, .ref m0), (1, .int x1)]) (kk : W p l e R s m args below meth c H locs cells slots Q (F0 m 110 ls (.long (q_M_atomic_87 bi d a b f x1 y2 y3 y4) :: [.ref m0]))) : W p l e R s m args below meth c H locs cells slots Q (F0 m 87 ls (.int 2 :: .int x1 :: [.ref m0])) := by
  have hx := S.1
  have hb := S.2.1
  have hown := S.2.2.2.1
  refine lv_icmp_ne (tgt := 96) hx hb d_M_atomic_87 (by decide) (fun c_1 => ?_) (fun c_1 => ?_)
  · refine lv_iload_n hx hb d_M_atomic_96 rfl (lv_at hl 4 rfl) ?_
    refine lv_iconst (v := 3) hx hb d_M_atomic_97 (by decide) ?_
    refine lv_icmp_ne (tgt := 107) hx hb d_M_atomic_98 (by decide) (fun c_2 => ?_) (fun c_2 => ?_)
    · refine lv_ldc2 (v := 7302497) hx hb hown (hT _ m_936) d_M_atomic_107 ?_
      rw [q_M_atomic_87, if_neg c_1, if_neg c_2] at kk
      exact kk
    · refine lv_ldc2 (v := 25459) hx hb hown (hT _ m_935) d_M_atomic_101 ?_
      refine lv_goto (tgt := 110) hx hb d_M_atomic_104 (by decide) ?_
      rw [q_M_atomic_87, if_neg c_1, if_pos c_2] at kk
      exact kk
  · refine lv_ldc2 (v := 29292) hx hb hown (hT _ m_934) d_M_atomic_90 ?_
    refine lv_goto (tgt := 110) hx hb d_M_atomic_93 (by decide) ?_
    rw [q_M_atomic_87, if_pos c_1] at kk
    exact kk
def q_M_atomic_252 (bi d a b f x1 y2 y3 y4 : Int32) : Int64 :=
  if (f_M_part bi 25 2) = 1 then
    7107118
  else
    if (f_M_part bi 25 2) = 2 then
      7430446
    else
      465776501038
set_option maxRecDepth 100000 in
set_option maxHeartbeats 4000000 in
theorem rg_M_atomic_252 {p : Program} {l : Launch} {e : Env} {R : Room} {s : State} {m : MethodId} {args : Array Value} {below : List Frame} {meth : Method} {c : Code} {cells slots : Nat} {Q : State → Prop} {Ts : List Cond} {dC : Nat → ClassId} {dI : Nat → Nat → Nat} {cI cC : ClassId} {m0 mt ms mr mk : Nat} {th yb bi d a b f : Int32} {str fk : Nat → Int32} {st : MT} {H : Heap} {locs : List Loc} {ls : Array Slot} {x1 y2 y3 y4 : Int32} (S : CallFix p m c b_M_atomic 5 s args Ts R_M) (hTs : ∀ w ∈ WT, w ∈ Ts) (hT : ∀ w ∈ WT, w.before args s = true) (hfr : 1 ≤ R.frames) (hlo : 22 ≤ R.locals) (hc : cells ≤ R.cells ∧ slots ≤ R.slots) (hK : rK dC dI cI cC s) (hw : mwd dC dI cI cC m0 mt ms mr mk th yb bi d a b f str fk st H) (hl : lv_has ls 5 [(4, .int y4), (3, .int y3), (2, .int y2), (0, .ref m0), (1, .int x1)]) (kk : W p l e R s m args below meth c H locs cells slots Q (F0 m 281 ls (.long (q_M_atomic_252 bi d a b f x1 y2 y3 y4) :: [.ref m0]))) : W p l e R s m args below meth c H locs cells slots Q (F0 m 252 ls (.int 1 :: .int (f_M_part bi 25 2) :: [.ref m0])) := by
  have hx := S.1
  have hb := S.2.1
  have hown := S.2.2.2.1
  refine lv_icmp_ne (tgt := 261) hx hb d_M_atomic_252 (by decide) (fun c_1 => ?_) (fun c_1 => ?_)
  · refine lv_aload_n hx hb d_M_atomic_261 rfl (lv_at hl 3 rfl) ?_
    refine lv_bipush (v := 25) hx hb d_M_atomic_262 (by decide) ?_
    refine lv_iconst (v := 2) hx hb d_M_atomic_264 (by decide) ?_
    refine call_M_part S hTs m_809 ⟨by omega, by omega⟩ hl.1 (Nat.le_of_ble_eq_true rfl) d_M_atomic_265 hc hK hw ?_
    refine lv_iconst (v := 2) hx hb d_M_atomic_268 (by decide) ?_
    refine lv_icmp_ne (tgt := 278) hx hb d_M_atomic_269 (by decide) (fun c_2 => ?_) (fun c_2 => ?_)
    · refine lv_ldc2 (v := 465776501038) hx hb hown (hT _ m_945) d_M_atomic_278 ?_
      rw [q_M_atomic_252, if_neg c_1, if_neg c_2] at kk
      exact kk
    · refine lv_ldc2 (v := 7430446) hx hb hown (hT _ m_944) d_M_atomic_272 ?_
      refine lv_goto (tgt := 281) hx hb d_M_atomic_275 (by decide) ?_
      rw [q_M_atomic_252, if_neg c_1, if_pos c_2] at kk
      exact kk
  · refine lv_ldc2 (v := 7107118) hx hb hown (hT _ m_943) d_M_atomic_255 ?_
    refine lv_goto (tgt := 281) hx hb d_M_atomic_258 (by decide) ?_
    rw [q_M_atomic_252, if_pos c_1] at kk
    exact kk
def q_M_atomic_130 (bi d a b f x1 y2 y3 y4 : Int32) : Int64 :=
  if y2 = 0 then
    if x1 = 0 then
      6579297
    else
      if x1 = 4 then
        7499640
      else
        if x1 = 12 then
          6581857
        else
          if x1 = 8 then
            29295
          else
            if x1 = 16 then
              7235949
            else
              if x1 = 20 then
                7889261
              else
                if x1 = 24 then
                  1970170221
                else
                  1970823533
  else
    1885435763
set_option maxRecDepth 100000 in
set_option maxHeartbeats 4000000 in
theorem rg_M_atomic_130 {p : Program} {l : Launch} {e : Env} {R : Room} {s : State} {m : MethodId} {args : Array Value} {below : List Frame} {meth : Method} {c : Code} {cells slots : Nat} {Q : State → Prop} {Ts : List Cond} {dC : Nat → ClassId} {dI : Nat → Nat → Nat} {cI cC : ClassId} {m0 mt ms mr mk : Nat} {th yb bi d a b f : Int32} {str fk : Nat → Int32} {st : MT} {H : Heap} {locs : List Loc} {ls : Array Slot} {x1 y2 y3 y4 : Int32} (S : CallFix p m c b_M_atomic 5 s args Ts R_M) (hTs : ∀ w ∈ WT, w ∈ Ts) (hT : ∀ w ∈ WT, w.before args s = true) (hfr : 1 ≤ R.frames) (hlo : 1 ≤ R.locals) (hc : cells ≤ R.cells ∧ slots ≤ R.slots) (hK : rK dC dI cI cC s) (hw : mwd dC dI cI cC m0 mt ms mr mk th yb bi d a b f str fk st H) (hl : lv_has ls 5 [(4, .int y4), (3, .int y3), (2, .int y2), (0, .ref m0), (1, .int x1)]) (kk : W p l e R s m args below meth c H locs cells slots Q (F0 m 223 ls (.long (q_M_atomic_130 bi d a b f x1 y2 y3 y4) :: [.ref m0]))) : W p l e R s m args below meth c H locs cells slots Q (F0 m 130 ls (.int y2 :: [.ref m0])) := by
  have hx := S.1
  have hb := S.2.1
  have hown := S.2.2.2.1
  refine lv_if_eq (tgt := 139) hx hb d_M_atomic_130 (by decide) (fun c_1 => ?_) (fun c_1 => ?_)
  · refine lv_iload_n hx hb d_M_atomic_139 rfl (lv_at hl 4 rfl) ?_
    refine lv_if_ne (tgt := 149) hx hb d_M_atomic_140 (by decide) (fun c_2 => ?_) (fun c_2 => ?_)
    · refine lv_iload_n hx hb d_M_atomic_149 rfl (lv_at hl 4 rfl) ?_
      refine lv_iconst (v := 4) hx hb d_M_atomic_150 (by decide) ?_
      refine lv_icmp_ne (tgt := 160) hx hb d_M_atomic_151 (by decide) (fun c_3 => ?_) (fun c_3 => ?_)
      · refine lv_iload_n hx hb d_M_atomic_160 rfl (lv_at hl 4 rfl) ?_
        refine lv_bipush (v := 12) hx hb d_M_atomic_161 (by decide) ?_
        refine lv_icmp_ne (tgt := 172) hx hb d_M_atomic_163 (by decide) (fun c_4 => ?_) (fun c_4 => ?_)
        · refine lv_iload_n hx hb d_M_atomic_172 rfl (lv_at hl 4 rfl) ?_
          refine lv_bipush (v := 8) hx hb d_M_atomic_173 (by decide) ?_
          refine lv_icmp_ne (tgt := 184) hx hb d_M_atomic_175 (by decide) (fun c_5 => ?_) (fun c_5 => ?_)
          · refine lv_iload_n hx hb d_M_atomic_184 rfl (lv_at hl 4 rfl) ?_
            refine lv_bipush (v := 16) hx hb d_M_atomic_185 (by decide) ?_
            refine lv_icmp_ne (tgt := 196) hx hb d_M_atomic_187 (by decide) (fun c_6 => ?_) (fun c_6 => ?_)
            · refine lv_iload_n hx hb d_M_atomic_196 rfl (lv_at hl 4 rfl) ?_
              refine lv_bipush (v := 20) hx hb d_M_atomic_197 (by decide) ?_
              refine lv_icmp_ne (tgt := 208) hx hb d_M_atomic_199 (by decide) (fun c_7 => ?_) (fun c_7 => ?_)
              · refine lv_iload_n hx hb d_M_atomic_208 rfl (lv_at hl 4 rfl) ?_
                refine lv_bipush (v := 24) hx hb d_M_atomic_209 (by decide) ?_
                refine lv_icmp_ne (tgt := 220) hx hb d_M_atomic_211 (by decide) (fun c_8 => ?_) (fun c_8 => ?_)
                · refine lv_ldc2 (v := 1970823533) hx hb hown (hT _ m_941) d_M_atomic_220 ?_
                  rw [q_M_atomic_130, if_pos c_1, if_neg c_2, if_neg c_3, if_neg c_4, if_neg c_5, if_neg c_6, if_neg c_7, if_neg c_8] at kk
                  exact kk
                · refine lv_ldc2 (v := 1970170221) hx hb hown (hT _ m_940) d_M_atomic_214 ?_
                  refine lv_goto (tgt := 223) hx hb d_M_atomic_217 (by decide) ?_
                  rw [q_M_atomic_130, if_pos c_1, if_neg c_2, if_neg c_3, if_neg c_4, if_neg c_5, if_neg c_6, if_neg c_7, if_pos c_8] at kk
                  exact kk
              · refine lv_ldc2 (v := 7889261) hx hb hown (hT _ m_939) d_M_atomic_202 ?_
                refine lv_goto (tgt := 223) hx hb d_M_atomic_205 (by decide) ?_
                rw [q_M_atomic_130, if_pos c_1, if_neg c_2, if_neg c_3, if_neg c_4, if_neg c_5, if_neg c_6, if_pos c_7] at kk
                exact kk
            · refine lv_ldc2 (v := 7235949) hx hb hown (hT _ m_938) d_M_atomic_190 ?_
              refine lv_goto (tgt := 223) hx hb d_M_atomic_193 (by decide) ?_
              rw [q_M_atomic_130, if_pos c_1, if_neg c_2, if_neg c_3, if_neg c_4, if_neg c_5, if_pos c_6] at kk
              exact kk
          · refine lv_ldc2 (v := 29295) hx hb hown (hT _ m_827) d_M_atomic_178 ?_
            refine lv_goto (tgt := 223) hx hb d_M_atomic_181 (by decide) ?_
            rw [q_M_atomic_130, if_pos c_1, if_neg c_2, if_neg c_3, if_neg c_4, if_pos c_5] at kk
            exact kk
        · refine lv_ldc2 (v := 6581857) hx hb hown (hT _ m_828) d_M_atomic_166 ?_
          refine lv_goto (tgt := 223) hx hb d_M_atomic_169 (by decide) ?_
          rw [q_M_atomic_130, if_pos c_1, if_neg c_2, if_neg c_3, if_pos c_4] at kk
          exact kk
      · refine lv_ldc2 (v := 7499640) hx hb hown (hT _ m_825) d_M_atomic_154 ?_
        refine lv_goto (tgt := 223) hx hb d_M_atomic_157 (by decide) ?_
        rw [q_M_atomic_130, if_pos c_1, if_neg c_2, if_pos c_3] at kk
        exact kk
    · refine lv_ldc2 (v := 6579297) hx hb hown (hT _ m_821) d_M_atomic_143 ?_
      refine lv_goto (tgt := 223) hx hb d_M_atomic_146 (by decide) ?_
      rw [q_M_atomic_130, if_pos c_1, if_pos c_2] at kk
      exact kk
  · refine lv_ldc2 (v := 1885435763) hx hb hown (hT _ m_937) d_M_atomic_133 ?_
    refine lv_goto (tgt := 223) hx hb d_M_atomic_136 (by decide) ?_
    rw [q_M_atomic_130, if_neg c_1] at kk
    exact kk
def g_M_atomic (bi d a b f : Int32) (x1 : Int32) (st : MT) : MT :=
  if f = 2 then
    if x1 = 2 then
      if b = 0 then
        if (u_M_atomic_76 bi d a b f x1) = 0 then
          st
        else
          if x1 = 2 then
            if (f_M_part bi 25 2) = 0 then
              if x1 = 2 then
                sBra a (sNext (sReg d (sSay 30510 ((0 : Int32), (sName (q_M_atomic_87 bi d a b f x1 (q_M_atomic_23 bi d a b f x1) (u_M_atomic_49 bi d a b f x1) (u_M_atomic_76 bi d a b f x1)) st).2))))
              else
                sBra a (sNext (sReg b (sReg d (sSay 30510 ((0 : Int32), (sName (q_M_atomic_87 bi d a b f x1 (q_M_atomic_23 bi d a b f x1) (u_M_atomic_49 bi d a b f x1) (u_M_atomic_76 bi d a b f x1)) st).2)))))
            else
              if x1 = 2 then
                sBra a (sNext (sReg d (sSay (q_M_atomic_252 bi d a b f x1 (q_M_atomic_23 bi d a b f x1) (u_M_atomic_49 bi d a b f x1) (u_M_atomic_76 bi d a b f x1)) (sSay 30510 ((0 : Int32), (sName (q_M_atomic_87 bi d a b f x1 (q_M_atomic_23 bi d a b f x1) (u_M_atomic_49 bi d a b f x1) (u_M_atomic_76 bi d a b f x1)) st).2)))))
              else
                sBra a (sNext (sReg b (sReg d (sSay (q_M_atomic_252 bi d a b f x1 (q_M_atomic_23 bi d a b f x1) (u_M_atomic_49 bi d a b f x1) (u_M_atomic_76 bi d a b f x1)) (sSay 30510 ((0 : Int32), (sName (q_M_atomic_87 bi d a b f x1 (q_M_atomic_23 bi d a b f x1) (u_M_atomic_49 bi d a b f x1) (u_M_atomic_76 bi d a b f x1)) st).2))))))
          else
            if x1 = 3 then
              if (f_M_part bi 25 2) = 0 then
                if x1 = 2 then
                  sBra a (sNext (sReg d (sSay 30510 ((0 : Int32), (sName (q_M_atomic_87 bi d a b f x1 (q_M_atomic_23 bi d a b f x1) (u_M_atomic_49 bi d a b f x1) (u_M_atomic_76 bi d a b f x1)) st).2))))
                else
                  sBra a (sNext (sReg b (sReg d (sSay 30510 ((0 : Int32), (sName (q_M_atomic_87 bi d a b f x1 (q_M_atomic_23 bi d a b f x1) (u_M_atomic_49 bi d a b f x1) (u_M_atomic_76 bi d a b f x1)) st).2)))))
              else
                if x1 = 2 then
                  sBra a (sNext (sReg d (sSay (q_M_atomic_252 bi d a b f x1 (q_M_atomic_23 bi d a b f x1) (u_M_atomic_49 bi d a b f x1) (u_M_atomic_76 bi d a b f x1)) (sSay 30510 ((0 : Int32), (sName (q_M_atomic_87 bi d a b f x1 (q_M_atomic_23 bi d a b f x1) (u_M_atomic_49 bi d a b f x1) (u_M_atomic_76 bi d a b f x1)) st).2)))))
                else
                  sBra a (sNext (sReg b (sReg d (sSay (q_M_atomic_252 bi d a b f x1 (q_M_atomic_23 bi d a b f x1) (u_M_atomic_49 bi d a b f x1) (u_M_atomic_76 bi d a b f x1)) (sSay 30510 ((0 : Int32), (sName (q_M_atomic_87 bi d a b f x1 (q_M_atomic_23 bi d a b f x1) (u_M_atomic_49 bi d a b f x1) (u_M_atomic_76 bi d a b f x1)) st).2))))))
            else
              if (f_M_part bi 25 2) = 0 then
                if x1 = 2 then
                  sBra a (sNext (sReg d (sSay 30510 (sSay (q_M_atomic_130 bi d a b f x1 (q_M_atomic_23 bi d a b f x1) (u_M_atomic_49 bi d a b f x1) (u_M_atomic_76 bi d a b f x1)) ((0 : Int32), (sName (q_M_atomic_87 bi d a b f x1 (q_M_atomic_23 bi d a b f x1) (u_M_atomic_49 bi d a b f x1) (u_M_atomic_76 bi d a b f x1)) st).2)))))
                else
                  sBra a (sNext (sReg b (sReg d (sSay 30510 (sSay (q_M_atomic_130 bi d a b f x1 (q_M_atomic_23 bi d a b f x1) (u_M_atomic_49 bi d a b f x1) (u_M_atomic_76 bi d a b f x1)) ((0 : Int32), (sName (q_M_atomic_87 bi d a b f x1 (q_M_atomic_23 bi d a b f x1) (u_M_atomic_49 bi d a b f x1) (u_M_atomic_76 bi d a b f x1)) st).2))))))
              else
                if x1 = 2 then
                  sBra a (sNext (sReg d (sSay (q_M_atomic_252 bi d a b f x1 (q_M_atomic_23 bi d a b f x1) (u_M_atomic_49 bi d a b f x1) (u_M_atomic_76 bi d a b f x1)) (sSay 30510 (sSay (q_M_atomic_130 bi d a b f x1 (q_M_atomic_23 bi d a b f x1) (u_M_atomic_49 bi d a b f x1) (u_M_atomic_76 bi d a b f x1)) ((0 : Int32), (sName (q_M_atomic_87 bi d a b f x1 (q_M_atomic_23 bi d a b f x1) (u_M_atomic_49 bi d a b f x1) (u_M_atomic_76 bi d a b f x1)) st).2))))))
                else
                  sBra a (sNext (sReg b (sReg d (sSay (q_M_atomic_252 bi d a b f x1 (q_M_atomic_23 bi d a b f x1) (u_M_atomic_49 bi d a b f x1) (u_M_atomic_76 bi d a b f x1)) (sSay 30510 (sSay (q_M_atomic_130 bi d a b f x1 (q_M_atomic_23 bi d a b f x1) (u_M_atomic_49 bi d a b f x1) (u_M_atomic_76 bi d a b f x1)) ((0 : Int32), (sName (q_M_atomic_87 bi d a b f x1 (q_M_atomic_23 bi d a b f x1) (u_M_atomic_49 bi d a b f x1) (u_M_atomic_76 bi d a b f x1)) st).2)))))))
      else
        st
    else
      if (u_M_atomic_76 bi d a b f x1) = 0 then
        st
      else
        if x1 = 2 then
          if (f_M_part bi 25 2) = 0 then
            if x1 = 2 then
              sBra a (sNext (sReg d (sSay 30510 ((0 : Int32), (sName (q_M_atomic_87 bi d a b f x1 (q_M_atomic_23 bi d a b f x1) (u_M_atomic_49 bi d a b f x1) (u_M_atomic_76 bi d a b f x1)) st).2))))
            else
              sBra a (sNext (sReg b (sReg d (sSay 30510 ((0 : Int32), (sName (q_M_atomic_87 bi d a b f x1 (q_M_atomic_23 bi d a b f x1) (u_M_atomic_49 bi d a b f x1) (u_M_atomic_76 bi d a b f x1)) st).2)))))
          else
            if x1 = 2 then
              sBra a (sNext (sReg d (sSay (q_M_atomic_252 bi d a b f x1 (q_M_atomic_23 bi d a b f x1) (u_M_atomic_49 bi d a b f x1) (u_M_atomic_76 bi d a b f x1)) (sSay 30510 ((0 : Int32), (sName (q_M_atomic_87 bi d a b f x1 (q_M_atomic_23 bi d a b f x1) (u_M_atomic_49 bi d a b f x1) (u_M_atomic_76 bi d a b f x1)) st).2)))))
            else
              sBra a (sNext (sReg b (sReg d (sSay (q_M_atomic_252 bi d a b f x1 (q_M_atomic_23 bi d a b f x1) (u_M_atomic_49 bi d a b f x1) (u_M_atomic_76 bi d a b f x1)) (sSay 30510 ((0 : Int32), (sName (q_M_atomic_87 bi d a b f x1 (q_M_atomic_23 bi d a b f x1) (u_M_atomic_49 bi d a b f x1) (u_M_atomic_76 bi d a b f x1)) st).2))))))
        else
          if x1 = 3 then
            if (f_M_part bi 25 2) = 0 then
              if x1 = 2 then
                sBra a (sNext (sReg d (sSay 30510 ((0 : Int32), (sName (q_M_atomic_87 bi d a b f x1 (q_M_atomic_23 bi d a b f x1) (u_M_atomic_49 bi d a b f x1) (u_M_atomic_76 bi d a b f x1)) st).2))))
              else
                sBra a (sNext (sReg b (sReg d (sSay 30510 ((0 : Int32), (sName (q_M_atomic_87 bi d a b f x1 (q_M_atomic_23 bi d a b f x1) (u_M_atomic_49 bi d a b f x1) (u_M_atomic_76 bi d a b f x1)) st).2)))))
            else
              if x1 = 2 then
                sBra a (sNext (sReg d (sSay (q_M_atomic_252 bi d a b f x1 (q_M_atomic_23 bi d a b f x1) (u_M_atomic_49 bi d a b f x1) (u_M_atomic_76 bi d a b f x1)) (sSay 30510 ((0 : Int32), (sName (q_M_atomic_87 bi d a b f x1 (q_M_atomic_23 bi d a b f x1) (u_M_atomic_49 bi d a b f x1) (u_M_atomic_76 bi d a b f x1)) st).2)))))
              else
                sBra a (sNext (sReg b (sReg d (sSay (q_M_atomic_252 bi d a b f x1 (q_M_atomic_23 bi d a b f x1) (u_M_atomic_49 bi d a b f x1) (u_M_atomic_76 bi d a b f x1)) (sSay 30510 ((0 : Int32), (sName (q_M_atomic_87 bi d a b f x1 (q_M_atomic_23 bi d a b f x1) (u_M_atomic_49 bi d a b f x1) (u_M_atomic_76 bi d a b f x1)) st).2))))))
          else
            if (f_M_part bi 25 2) = 0 then
              if x1 = 2 then
                sBra a (sNext (sReg d (sSay 30510 (sSay (q_M_atomic_130 bi d a b f x1 (q_M_atomic_23 bi d a b f x1) (u_M_atomic_49 bi d a b f x1) (u_M_atomic_76 bi d a b f x1)) ((0 : Int32), (sName (q_M_atomic_87 bi d a b f x1 (q_M_atomic_23 bi d a b f x1) (u_M_atomic_49 bi d a b f x1) (u_M_atomic_76 bi d a b f x1)) st).2)))))
              else
                sBra a (sNext (sReg b (sReg d (sSay 30510 (sSay (q_M_atomic_130 bi d a b f x1 (q_M_atomic_23 bi d a b f x1) (u_M_atomic_49 bi d a b f x1) (u_M_atomic_76 bi d a b f x1)) ((0 : Int32), (sName (q_M_atomic_87 bi d a b f x1 (q_M_atomic_23 bi d a b f x1) (u_M_atomic_49 bi d a b f x1) (u_M_atomic_76 bi d a b f x1)) st).2))))))
            else
              if x1 = 2 then
                sBra a (sNext (sReg d (sSay (q_M_atomic_252 bi d a b f x1 (q_M_atomic_23 bi d a b f x1) (u_M_atomic_49 bi d a b f x1) (u_M_atomic_76 bi d a b f x1)) (sSay 30510 (sSay (q_M_atomic_130 bi d a b f x1 (q_M_atomic_23 bi d a b f x1) (u_M_atomic_49 bi d a b f x1) (u_M_atomic_76 bi d a b f x1)) ((0 : Int32), (sName (q_M_atomic_87 bi d a b f x1 (q_M_atomic_23 bi d a b f x1) (u_M_atomic_49 bi d a b f x1) (u_M_atomic_76 bi d a b f x1)) st).2))))))
              else
                sBra a (sNext (sReg b (sReg d (sSay (q_M_atomic_252 bi d a b f x1 (q_M_atomic_23 bi d a b f x1) (u_M_atomic_49 bi d a b f x1) (u_M_atomic_76 bi d a b f x1)) (sSay 30510 (sSay (q_M_atomic_130 bi d a b f x1 (q_M_atomic_23 bi d a b f x1) (u_M_atomic_49 bi d a b f x1) (u_M_atomic_76 bi d a b f x1)) ((0 : Int32), (sName (q_M_atomic_87 bi d a b f x1 (q_M_atomic_23 bi d a b f x1) (u_M_atomic_49 bi d a b f x1) (u_M_atomic_76 bi d a b f x1)) st).2)))))))
  else
    st
set_option maxRecDepth 20000 in
theorem gl_M_atomic (bi d a b f : Int32) (x1 : Int32) (st : MT) : (g_M_atomic bi d a b f x1 st).2.2.length ≤ st.2.2.length + 64 := by
  unfold g_M_atomic
  exact (it_len _ (it_len _ (it_len _ (it_len _ (by omega) (it_len _ (it_len _ (it_len _ (by have h0 := sName_le (q_M_atomic_87 bi d a b f x1 (q_M_atomic_23 bi d a b f x1) (u_M_atomic_49 bi d a b f x1) (u_M_atomic_76 bi d a b f x1)) st; have h1 : (((0 : Int32), (sName (q_M_atomic_87 bi d a b f x1 (q_M_atomic_23 bi d a b f x1) (u_M_atomic_49 bi d a b f x1) (u_M_atomic_76 bi d a b f x1)) st).2) : MT).2.2.length = (sName (q_M_atomic_87 bi d a b f x1 (q_M_atomic_23 bi d a b f x1) (u_M_atomic_49 bi d a b f x1) (u_M_atomic_76 bi d a b f x1)) st).2.2.length := rfl; have h2 := sSay_le 30510 ((0 : Int32), (sName (q_M_atomic_87 bi d a b f x1 (q_M_atomic_23 bi d a b f x1) (u_M_atomic_49 bi d a b f x1) (u_M_atomic_76 bi d a b f x1)) st).2); have h3 := sReg_le d (sSay 30510 ((0 : Int32), (sName (q_M_atomic_87 bi d a b f x1 (q_M_atomic_23 bi d a b f x1) (u_M_atomic_49 bi d a b f x1) (u_M_atomic_76 bi d a b f x1)) st).2)); have h4 := sNext_le  (sReg d (sSay 30510 ((0 : Int32), (sName (q_M_atomic_87 bi d a b f x1 (q_M_atomic_23 bi d a b f x1) (u_M_atomic_49 bi d a b f x1) (u_M_atomic_76 bi d a b f x1)) st).2))); have h5 := sBra_le a (sNext (sReg d (sSay 30510 ((0 : Int32), (sName (q_M_atomic_87 bi d a b f x1 (q_M_atomic_23 bi d a b f x1) (u_M_atomic_49 bi d a b f x1) (u_M_atomic_76 bi d a b f x1)) st).2)))); omega) (by have h0 := sName_le (q_M_atomic_87 bi d a b f x1 (q_M_atomic_23 bi d a b f x1) (u_M_atomic_49 bi d a b f x1) (u_M_atomic_76 bi d a b f x1)) st; have h1 : (((0 : Int32), (sName (q_M_atomic_87 bi d a b f x1 (q_M_atomic_23 bi d a b f x1) (u_M_atomic_49 bi d a b f x1) (u_M_atomic_76 bi d a b f x1)) st).2) : MT).2.2.length = (sName (q_M_atomic_87 bi d a b f x1 (q_M_atomic_23 bi d a b f x1) (u_M_atomic_49 bi d a b f x1) (u_M_atomic_76 bi d a b f x1)) st).2.2.length := rfl; have h2 := sSay_le 30510 ((0 : Int32), (sName (q_M_atomic_87 bi d a b f x1 (q_M_atomic_23 bi d a b f x1) (u_M_atomic_49 bi d a b f x1) (u_M_atomic_76 bi d a b f x1)) st).2); have h3 := sReg_le d (sSay 30510 ((0 : Int32), (sName (q_M_atomic_87 bi d a b f x1 (q_M_atomic_23 bi d a b f x1) (u_M_atomic_49 bi d a b f x1) (u_M_atomic_76 bi d a b f x1)) st).2)); have h4 := sReg_le b (sReg d (sSay 30510 ((0 : Int32), (sName (q_M_atomic_87 bi d a b f x1 (q_M_atomic_23 bi d a b f x1) (u_M_atomic_49 bi d a b f x1) (u_M_atomic_76 bi d a b f x1)) st).2))); have h5 := sNext_le  (sReg b (sReg d (sSay 30510 ((0 : Int32), (sName (q_M_atomic_87 bi d a b f x1 (q_M_atomic_23 bi d a b f x1) (u_M_atomic_49 bi d a b f x1) (u_M_atomic_76 bi d a b f x1)) st).2)))); have h6 := sBra_le a (sNext (sReg b (sReg d (sSay 30510 ((0 : Int32), (sName (q_M_atomic_87 bi d a b f x1 (q_M_atomic_23 bi d a b f x1) (u_M_atomic_49 bi d a b f x1) (u_M_atomic_76 bi d a b f x1)) st).2))))); omega)) (it_len _ (by have h0 := sName_le (q_M_atomic_87 bi d a b f x1 (q_M_atomic_23 bi d a b f x1) (u_M_atomic_49 bi d a b f x1) (u_M_atomic_76 bi d a b f x1)) st; have h1 : (((0 : Int32), (sName (q_M_atomic_87 bi d a b f x1 (q_M_atomic_23 bi d a b f x1) (u_M_atomic_49 bi d a b f x1) (u_M_atomic_76 bi d a b f x1)) st).2) : MT).2.2.length = (sName (q_M_atomic_87 bi d a b f x1 (q_M_atomic_23 bi d a b f x1) (u_M_atomic_49 bi d a b f x1) (u_M_atomic_76 bi d a b f x1)) st).2.2.length := rfl; have h2 := sSay_le 30510 ((0 : Int32), (sName (q_M_atomic_87 bi d a b f x1 (q_M_atomic_23 bi d a b f x1) (u_M_atomic_49 bi d a b f x1) (u_M_atomic_76 bi d a b f x1)) st).2); have h3 := sSay_le (q_M_atomic_252 bi d a b f x1 (q_M_atomic_23 bi d a b f x1) (u_M_atomic_49 bi d a b f x1) (u_M_atomic_76 bi d a b f x1)) (sSay 30510 ((0 : Int32), (sName (q_M_atomic_87 bi d a b f x1 (q_M_atomic_23 bi d a b f x1) (u_M_atomic_49 bi d a b f x1) (u_M_atomic_76 bi d a b f x1)) st).2)); have h4 := sReg_le d (sSay (q_M_atomic_252 bi d a b f x1 (q_M_atomic_23 bi d a b f x1) (u_M_atomic_49 bi d a b f x1) (u_M_atomic_76 bi d a b f x1)) (sSay 30510 ((0 : Int32), (sName (q_M_atomic_87 bi d a b f x1 (q_M_atomic_23 bi d a b f x1) (u_M_atomic_49 bi d a b f x1) (u_M_atomic_76 bi d a b f x1)) st).2))); have h5 := sNext_le  (sReg d (sSay (q_M_atomic_252 bi d a b f x1 (q_M_atomic_23 bi d a b f x1) (u_M_atomic_49 bi d a b f x1) (u_M_atomic_76 bi d a b f x1)) (sSay 30510 ((0 : Int32), (sName (q_M_atomic_87 bi d a b f x1 (q_M_atomic_23 bi d a b f x1) (u_M_atomic_49 bi d a b f x1) (u_M_atomic_76 bi d a b f x1)) st).2)))); have h6 := sBra_le a (sNext (sReg d (sSay (q_M_atomic_252 bi d a b f x1 (q_M_atomic_23 bi d a b f x1) (u_M_atomic_49 bi d a b f x1) (u_M_atomic_76 bi d a b f x1)) (sSay 30510 ((0 : Int32), (sName (q_M_atomic_87 bi d a b f x1 (q_M_atomic_23 bi d a b f x1) (u_M_atomic_49 bi d a b f x1) (u_M_atomic_76 bi d a b f x1)) st).2))))); omega) (by have h0 := sName_le (q_M_atomic_87 bi d a b f x1 (q_M_atomic_23 bi d a b f x1) (u_M_atomic_49 bi d a b f x1) (u_M_atomic_76 bi d a b f x1)) st; have h1 : (((0 : Int32), (sName (q_M_atomic_87 bi d a b f x1 (q_M_atomic_23 bi d a b f x1) (u_M_atomic_49 bi d a b f x1) (u_M_atomic_76 bi d a b f x1)) st).2) : MT).2.2.length = (sName (q_M_atomic_87 bi d a b f x1 (q_M_atomic_23 bi d a b f x1) (u_M_atomic_49 bi d a b f x1) (u_M_atomic_76 bi d a b f x1)) st).2.2.length := rfl; have h2 := sSay_le 30510 ((0 : Int32), (sName (q_M_atomic_87 bi d a b f x1 (q_M_atomic_23 bi d a b f x1) (u_M_atomic_49 bi d a b f x1) (u_M_atomic_76 bi d a b f x1)) st).2); have h3 := sSay_le (q_M_atomic_252 bi d a b f x1 (q_M_atomic_23 bi d a b f x1) (u_M_atomic_49 bi d a b f x1) (u_M_atomic_76 bi d a b f x1)) (sSay 30510 ((0 : Int32), (sName (q_M_atomic_87 bi d a b f x1 (q_M_atomic_23 bi d a b f x1) (u_M_atomic_49 bi d a b f x1) (u_M_atomic_76 bi d a b f x1)) st).2)); have h4 := sReg_le d (sSay (q_M_atomic_252 bi d a b f x1 (q_M_atomic_23 bi d a b f x1) (u_M_atomic_49 bi d a b f x1) (u_M_atomic_76 bi d a b f x1)) (sSay 30510 ((0 : Int32), (sName (q_M_atomic_87 bi d a b f x1 (q_M_atomic_23 bi d a b f x1) (u_M_atomic_49 bi d a b f x1) (u_M_atomic_76 bi d a b f x1)) st).2))); have h5 := sReg_le b (sReg d (sSay (q_M_atomic_252 bi d a b f x1 (q_M_atomic_23 bi d a b f x1) (u_M_atomic_49 bi d a b f x1) (u_M_atomic_76 bi d a b f x1)) (sSay 30510 ((0 : Int32), (sName (q_M_atomic_87 bi d a b f x1 (q_M_atomic_23 bi d a b f x1) (u_M_atomic_49 bi d a b f x1) (u_M_atomic_76 bi d a b f x1)) st).2)))); have h6 := sNext_le  (sReg b (sReg d (sSay (q_M_atomic_252 bi d a b f x1 (q_M_atomic_23 bi d a b f x1) (u_M_atomic_49 bi d a b f x1) (u_M_atomic_76 bi d a b f x1)) (sSay 30510 ((0 : Int32), (sName (q_M_atomic_87 bi d a b f x1 (q_M_atomic_23 bi d a b f x1) (u_M_atomic_49 bi d a b f x1) (u_M_atomic_76 bi d a b f x1)) st).2))))); have h7 := sBra_le a (sNext (sReg b (sReg d (sSay (q_M_atomic_252 bi d a b f x1 (q_M_atomic_23 bi d a b f x1) (u_M_atomic_49 bi d a b f x1) (u_M_atomic_76 bi d a b f x1)) (sSay 30510 ((0 : Int32), (sName (q_M_atomic_87 bi d a b f x1 (q_M_atomic_23 bi d a b f x1) (u_M_atomic_49 bi d a b f x1) (u_M_atomic_76 bi d a b f x1)) st).2)))))); omega))) (it_len _ (it_len _ (it_len _ (by have h0 := sName_le (q_M_atomic_87 bi d a b f x1 (q_M_atomic_23 bi d a b f x1) (u_M_atomic_49 bi d a b f x1) (u_M_atomic_76 bi d a b f x1)) st; have h1 : (((0 : Int32), (sName (q_M_atomic_87 bi d a b f x1 (q_M_atomic_23 bi d a b f x1) (u_M_atomic_49 bi d a b f x1) (u_M_atomic_76 bi d a b f x1)) st).2) : MT).2.2.length = (sName (q_M_atomic_87 bi d a b f x1 (q_M_atomic_23 bi d a b f x1) (u_M_atomic_49 bi d a b f x1) (u_M_atomic_76 bi d a b f x1)) st).2.2.length := rfl; have h2 := sSay_le 30510 ((0 : Int32), (sName (q_M_atomic_87 bi d a b f x1 (q_M_atomic_23 bi d a b f x1) (u_M_atomic_49 bi d a b f x1) (u_M_atomic_76 bi d a b f x1)) st).2); have h3 := sReg_le d (sSay 30510 ((0 : Int32), (sName (q_M_atomic_87 bi d a b f x1 (q_M_atomic_23 bi d a b f x1) (u_M_atomic_49 bi d a b f x1) (u_M_atomic_76 bi d a b f x1)) st).2)); have h4 := sNext_le  (sReg d (sSay 30510 ((0 : Int32), (sName (q_M_atomic_87 bi d a b f x1 (q_M_atomic_23 bi d a b f x1) (u_M_atomic_49 bi d a b f x1) (u_M_atomic_76 bi d a b f x1)) st).2))); have h5 := sBra_le a (sNext (sReg d (sSay 30510 ((0 : Int32), (sName (q_M_atomic_87 bi d a b f x1 (q_M_atomic_23 bi d a b f x1) (u_M_atomic_49 bi d a b f x1) (u_M_atomic_76 bi d a b f x1)) st).2)))); omega) (by have h0 := sName_le (q_M_atomic_87 bi d a b f x1 (q_M_atomic_23 bi d a b f x1) (u_M_atomic_49 bi d a b f x1) (u_M_atomic_76 bi d a b f x1)) st; have h1 : (((0 : Int32), (sName (q_M_atomic_87 bi d a b f x1 (q_M_atomic_23 bi d a b f x1) (u_M_atomic_49 bi d a b f x1) (u_M_atomic_76 bi d a b f x1)) st).2) : MT).2.2.length = (sName (q_M_atomic_87 bi d a b f x1 (q_M_atomic_23 bi d a b f x1) (u_M_atomic_49 bi d a b f x1) (u_M_atomic_76 bi d a b f x1)) st).2.2.length := rfl; have h2 := sSay_le 30510 ((0 : Int32), (sName (q_M_atomic_87 bi d a b f x1 (q_M_atomic_23 bi d a b f x1) (u_M_atomic_49 bi d a b f x1) (u_M_atomic_76 bi d a b f x1)) st).2); have h3 := sReg_le d (sSay 30510 ((0 : Int32), (sName (q_M_atomic_87 bi d a b f x1 (q_M_atomic_23 bi d a b f x1) (u_M_atomic_49 bi d a b f x1) (u_M_atomic_76 bi d a b f x1)) st).2)); have h4 := sReg_le b (sReg d (sSay 30510 ((0 : Int32), (sName (q_M_atomic_87 bi d a b f x1 (q_M_atomic_23 bi d a b f x1) (u_M_atomic_49 bi d a b f x1) (u_M_atomic_76 bi d a b f x1)) st).2))); have h5 := sNext_le  (sReg b (sReg d (sSay 30510 ((0 : Int32), (sName (q_M_atomic_87 bi d a b f x1 (q_M_atomic_23 bi d a b f x1) (u_M_atomic_49 bi d a b f x1) (u_M_atomic_76 bi d a b f x1)) st).2)))); have h6 := sBra_le a (sNext (sReg b (sReg d (sSay 30510 ((0 : Int32), (sName (q_M_atomic_87 bi d a b f x1 (q_M_atomic_23 bi d a b f x1) (u_M_atomic_49 bi d a b f x1) (u_M_atomic_76 bi d a b f x1)) st).2))))); omega)) (it_len _ (by have h0 := sName_le (q_M_atomic_87 bi d a b f x1 (q_M_atomic_23 bi d a b f x1) (u_M_atomic_49 bi d a b f x1) (u_M_atomic_76 bi d a b f x1)) st; have h1 : (((0 : Int32), (sName (q_M_atomic_87 bi d a b f x1 (q_M_atomic_23 bi d a b f x1) (u_M_atomic_49 bi d a b f x1) (u_M_atomic_76 bi d a b f x1)) st).2) : MT).2.2.length = (sName (q_M_atomic_87 bi d a b f x1 (q_M_atomic_23 bi d a b f x1) (u_M_atomic_49 bi d a b f x1) (u_M_atomic_76 bi d a b f x1)) st).2.2.length := rfl; have h2 := sSay_le 30510 ((0 : Int32), (sName (q_M_atomic_87 bi d a b f x1 (q_M_atomic_23 bi d a b f x1) (u_M_atomic_49 bi d a b f x1) (u_M_atomic_76 bi d a b f x1)) st).2); have h3 := sSay_le (q_M_atomic_252 bi d a b f x1 (q_M_atomic_23 bi d a b f x1) (u_M_atomic_49 bi d a b f x1) (u_M_atomic_76 bi d a b f x1)) (sSay 30510 ((0 : Int32), (sName (q_M_atomic_87 bi d a b f x1 (q_M_atomic_23 bi d a b f x1) (u_M_atomic_49 bi d a b f x1) (u_M_atomic_76 bi d a b f x1)) st).2)); have h4 := sReg_le d (sSay (q_M_atomic_252 bi d a b f x1 (q_M_atomic_23 bi d a b f x1) (u_M_atomic_49 bi d a b f x1) (u_M_atomic_76 bi d a b f x1)) (sSay 30510 ((0 : Int32), (sName (q_M_atomic_87 bi d a b f x1 (q_M_atomic_23 bi d a b f x1) (u_M_atomic_49 bi d a b f x1) (u_M_atomic_76 bi d a b f x1)) st).2))); have h5 := sNext_le  (sReg d (sSay (q_M_atomic_252 bi d a b f x1 (q_M_atomic_23 bi d a b f x1) (u_M_atomic_49 bi d a b f x1) (u_M_atomic_76 bi d a b f x1)) (sSay 30510 ((0 : Int32), (sName (q_M_atomic_87 bi d a b f x1 (q_M_atomic_23 bi d a b f x1) (u_M_atomic_49 bi d a b f x1) (u_M_atomic_76 bi d a b f x1)) st).2)))); have h6 := sBra_le a (sNext (sReg d (sSay (q_M_atomic_252 bi d a b f x1 (q_M_atomic_23 bi d a b f x1) (u_M_atomic_49 bi d a b f x1) (u_M_atomic_76 bi d a b f x1)) (sSay 30510 ((0 : Int32), (sName (q_M_atomic_87 bi d a b f x1 (q_M_atomic_23 bi d a b f x1) (u_M_atomic_49 bi d a b f x1) (u_M_atomic_76 bi d a b f x1)) st).2))))); omega) (by have h0 := sName_le (q_M_atomic_87 bi d a b f x1 (q_M_atomic_23 bi d a b f x1) (u_M_atomic_49 bi d a b f x1) (u_M_atomic_76 bi d a b f x1)) st; have h1 : (((0 : Int32), (sName (q_M_atomic_87 bi d a b f x1 (q_M_atomic_23 bi d a b f x1) (u_M_atomic_49 bi d a b f x1) (u_M_atomic_76 bi d a b f x1)) st).2) : MT).2.2.length = (sName (q_M_atomic_87 bi d a b f x1 (q_M_atomic_23 bi d a b f x1) (u_M_atomic_49 bi d a b f x1) (u_M_atomic_76 bi d a b f x1)) st).2.2.length := rfl; have h2 := sSay_le 30510 ((0 : Int32), (sName (q_M_atomic_87 bi d a b f x1 (q_M_atomic_23 bi d a b f x1) (u_M_atomic_49 bi d a b f x1) (u_M_atomic_76 bi d a b f x1)) st).2); have h3 := sSay_le (q_M_atomic_252 bi d a b f x1 (q_M_atomic_23 bi d a b f x1) (u_M_atomic_49 bi d a b f x1) (u_M_atomic_76 bi d a b f x1)) (sSay 30510 ((0 : Int32), (sName (q_M_atomic_87 bi d a b f x1 (q_M_atomic_23 bi d a b f x1) (u_M_atomic_49 bi d a b f x1) (u_M_atomic_76 bi d a b f x1)) st).2)); have h4 := sReg_le d (sSay (q_M_atomic_252 bi d a b f x1 (q_M_atomic_23 bi d a b f x1) (u_M_atomic_49 bi d a b f x1) (u_M_atomic_76 bi d a b f x1)) (sSay 30510 ((0 : Int32), (sName (q_M_atomic_87 bi d a b f x1 (q_M_atomic_23 bi d a b f x1) (u_M_atomic_49 bi d a b f x1) (u_M_atomic_76 bi d a b f x1)) st).2))); have h5 := sReg_le b (sReg d (sSay (q_M_atomic_252 bi d a b f x1 (q_M_atomic_23 bi d a b f x1) (u_M_atomic_49 bi d a b f x1) (u_M_atomic_76 bi d a b f x1)) (sSay 30510 ((0 : Int32), (sName (q_M_atomic_87 bi d a b f x1 (q_M_atomic_23 bi d a b f x1) (u_M_atomic_49 bi d a b f x1) (u_M_atomic_76 bi d a b f x1)) st).2)))); have h6 := sNext_le  (sReg b (sReg d (sSay (q_M_atomic_252 bi d a b f x1 (q_M_atomic_23 bi d a b f x1) (u_M_atomic_49 bi d a b f x1) (u_M_atomic_76 bi d a b f x1)) (sSay 30510 ((0 : Int32), (sName (q_M_atomic_87 bi d a b f x1 (q_M_atomic_23 bi d a b f x1) (u_M_atomic_49 bi d a b f x1) (u_M_atomic_76 bi d a b f x1)) st).2))))); have h7 := sBra_le a (sNext (sReg b (sReg d (sSay (q_M_atomic_252 bi d a b f x1 (q_M_atomic_23 bi d a b f x1) (u_M_atomic_49 bi d a b f x1) (u_M_atomic_76 bi d a b f x1)) (sSay 30510 ((0 : Int32), (sName (q_M_atomic_87 bi d a b f x1 (q_M_atomic_23 bi d a b f x1) (u_M_atomic_49 bi d a b f x1) (u_M_atomic_76 bi d a b f x1)) st).2)))))); omega))) (it_len _ (it_len _ (by have h0 := sName_le (q_M_atomic_87 bi d a b f x1 (q_M_atomic_23 bi d a b f x1) (u_M_atomic_49 bi d a b f x1) (u_M_atomic_76 bi d a b f x1)) st; have h1 : (((0 : Int32), (sName (q_M_atomic_87 bi d a b f x1 (q_M_atomic_23 bi d a b f x1) (u_M_atomic_49 bi d a b f x1) (u_M_atomic_76 bi d a b f x1)) st).2) : MT).2.2.length = (sName (q_M_atomic_87 bi d a b f x1 (q_M_atomic_23 bi d a b f x1) (u_M_atomic_49 bi d a b f x1) (u_M_atomic_76 bi d a b f x1)) st).2.2.length := rfl; have h2 := sSay_le (q_M_atomic_130 bi d a b f x1 (q_M_atomic_23 bi d a b f x1) (u_M_atomic_49 bi d a b f x1) (u_M_atomic_76 bi d a b f x1)) ((0 : Int32), (sName (q_M_atomic_87 bi d a b f x1 (q_M_atomic_23 bi d a b f x1) (u_M_atomic_49 bi d a b f x1) (u_M_atomic_76 bi d a b f x1)) st).2); have h3 := sSay_le 30510 (sSay (q_M_atomic_130 bi d a b f x1 (q_M_atomic_23 bi d a b f x1) (u_M_atomic_49 bi d a b f x1) (u_M_atomic_76 bi d a b f x1)) ((0 : Int32), (sName (q_M_atomic_87 bi d a b f x1 (q_M_atomic_23 bi d a b f x1) (u_M_atomic_49 bi d a b f x1) (u_M_atomic_76 bi d a b f x1)) st).2)); have h4 := sReg_le d (sSay 30510 (sSay (q_M_atomic_130 bi d a b f x1 (q_M_atomic_23 bi d a b f x1) (u_M_atomic_49 bi d a b f x1) (u_M_atomic_76 bi d a b f x1)) ((0 : Int32), (sName (q_M_atomic_87 bi d a b f x1 (q_M_atomic_23 bi d a b f x1) (u_M_atomic_49 bi d a b f x1) (u_M_atomic_76 bi d a b f x1)) st).2))); have h5 := sNext_le  (sReg d (sSay 30510 (sSay (q_M_atomic_130 bi d a b f x1 (q_M_atomic_23 bi d a b f x1) (u_M_atomic_49 bi d a b f x1) (u_M_atomic_76 bi d a b f x1)) ((0 : Int32), (sName (q_M_atomic_87 bi d a b f x1 (q_M_atomic_23 bi d a b f x1) (u_M_atomic_49 bi d a b f x1) (u_M_atomic_76 bi d a b f x1)) st).2)))); have h6 := sBra_le a (sNext (sReg d (sSay 30510 (sSay (q_M_atomic_130 bi d a b f x1 (q_M_atomic_23 bi d a b f x1) (u_M_atomic_49 bi d a b f x1) (u_M_atomic_76 bi d a b f x1)) ((0 : Int32), (sName (q_M_atomic_87 bi d a b f x1 (q_M_atomic_23 bi d a b f x1) (u_M_atomic_49 bi d a b f x1) (u_M_atomic_76 bi d a b f x1)) st).2))))); omega) (by have h0 := sName_le (q_M_atomic_87 bi d a b f x1 (q_M_atomic_23 bi d a b f x1) (u_M_atomic_49 bi d a b f x1) (u_M_atomic_76 bi d a b f x1)) st; have h1 : (((0 : Int32), (sName (q_M_atomic_87 bi d a b f x1 (q_M_atomic_23 bi d a b f x1) (u_M_atomic_49 bi d a b f x1) (u_M_atomic_76 bi d a b f x1)) st).2) : MT).2.2.length = (sName (q_M_atomic_87 bi d a b f x1 (q_M_atomic_23 bi d a b f x1) (u_M_atomic_49 bi d a b f x1) (u_M_atomic_76 bi d a b f x1)) st).2.2.length := rfl; have h2 := sSay_le (q_M_atomic_130 bi d a b f x1 (q_M_atomic_23 bi d a b f x1) (u_M_atomic_49 bi d a b f x1) (u_M_atomic_76 bi d a b f x1)) ((0 : Int32), (sName (q_M_atomic_87 bi d a b f x1 (q_M_atomic_23 bi d a b f x1) (u_M_atomic_49 bi d a b f x1) (u_M_atomic_76 bi d a b f x1)) st).2); have h3 := sSay_le 30510 (sSay (q_M_atomic_130 bi d a b f x1 (q_M_atomic_23 bi d a b f x1) (u_M_atomic_49 bi d a b f x1) (u_M_atomic_76 bi d a b f x1)) ((0 : Int32), (sName (q_M_atomic_87 bi d a b f x1 (q_M_atomic_23 bi d a b f x1) (u_M_atomic_49 bi d a b f x1) (u_M_atomic_76 bi d a b f x1)) st).2)); have h4 := sReg_le d (sSay 30510 (sSay (q_M_atomic_130 bi d a b f x1 (q_M_atomic_23 bi d a b f x1) (u_M_atomic_49 bi d a b f x1) (u_M_atomic_76 bi d a b f x1)) ((0 : Int32), (sName (q_M_atomic_87 bi d a b f x1 (q_M_atomic_23 bi d a b f x1) (u_M_atomic_49 bi d a b f x1) (u_M_atomic_76 bi d a b f x1)) st).2))); have h5 := sReg_le b (sReg d (sSay 30510 (sSay (q_M_atomic_130 bi d a b f x1 (q_M_atomic_23 bi d a b f x1) (u_M_atomic_49 bi d a b f x1) (u_M_atomic_76 bi d a b f x1)) ((0 : Int32), (sName (q_M_atomic_87 bi d a b f x1 (q_M_atomic_23 bi d a b f x1) (u_M_atomic_49 bi d a b f x1) (u_M_atomic_76 bi d a b f x1)) st).2)))); have h6 := sNext_le  (sReg b (sReg d (sSay 30510 (sSay (q_M_atomic_130 bi d a b f x1 (q_M_atomic_23 bi d a b f x1) (u_M_atomic_49 bi d a b f x1) (u_M_atomic_76 bi d a b f x1)) ((0 : Int32), (sName (q_M_atomic_87 bi d a b f x1 (q_M_atomic_23 bi d a b f x1) (u_M_atomic_49 bi d a b f x1) (u_M_atomic_76 bi d a b f x1)) st).2))))); have h7 := sBra_le a (sNext (sReg b (sReg d (sSay 30510 (sSay (q_M_atomic_130 bi d a b f x1 (q_M_atomic_23 bi d a b f x1) (u_M_atomic_49 bi d a b f x1) (u_M_atomic_76 bi d a b f x1)) ((0 : Int32), (sName (q_M_atomic_87 bi d a b f x1 (q_M_atomic_23 bi d a b f x1) (u_M_atomic_49 bi d a b f x1) (u_M_atomic_76 bi d a b f x1)) st).2)))))); omega)) (it_len _ (by have h0 := sName_le (q_M_atomic_87 bi d a b f x1 (q_M_atomic_23 bi d a b f x1) (u_M_atomic_49 bi d a b f x1) (u_M_atomic_76 bi d a b f x1)) st; have h1 : (((0 : Int32), (sName (q_M_atomic_87 bi d a b f x1 (q_M_atomic_23 bi d a b f x1) (u_M_atomic_49 bi d a b f x1) (u_M_atomic_76 bi d a b f x1)) st).2) : MT).2.2.length = (sName (q_M_atomic_87 bi d a b f x1 (q_M_atomic_23 bi d a b f x1) (u_M_atomic_49 bi d a b f x1) (u_M_atomic_76 bi d a b f x1)) st).2.2.length := rfl; have h2 := sSay_le (q_M_atomic_130 bi d a b f x1 (q_M_atomic_23 bi d a b f x1) (u_M_atomic_49 bi d a b f x1) (u_M_atomic_76 bi d a b f x1)) ((0 : Int32), (sName (q_M_atomic_87 bi d a b f x1 (q_M_atomic_23 bi d a b f x1) (u_M_atomic_49 bi d a b f x1) (u_M_atomic_76 bi d a b f x1)) st).2); have h3 := sSay_le 30510 (sSay (q_M_atomic_130 bi d a b f x1 (q_M_atomic_23 bi d a b f x1) (u_M_atomic_49 bi d a b f x1) (u_M_atomic_76 bi d a b f x1)) ((0 : Int32), (sName (q_M_atomic_87 bi d a b f x1 (q_M_atomic_23 bi d a b f x1) (u_M_atomic_49 bi d a b f x1) (u_M_atomic_76 bi d a b f x1)) st).2)); have h4 := sSay_le (q_M_atomic_252 bi d a b f x1 (q_M_atomic_23 bi d a b f x1) (u_M_atomic_49 bi d a b f x1) (u_M_atomic_76 bi d a b f x1)) (sSay 30510 (sSay (q_M_atomic_130 bi d a b f x1 (q_M_atomic_23 bi d a b f x1) (u_M_atomic_49 bi d a b f x1) (u_M_atomic_76 bi d a b f x1)) ((0 : Int32), (sName (q_M_atomic_87 bi d a b f x1 (q_M_atomic_23 bi d a b f x1) (u_M_atomic_49 bi d a b f x1) (u_M_atomic_76 bi d a b f x1)) st).2))); have h5 := sReg_le d (sSay (q_M_atomic_252 bi d a b f x1 (q_M_atomic_23 bi d a b f x1) (u_M_atomic_49 bi d a b f x1) (u_M_atomic_76 bi d a b f x1)) (sSay 30510 (sSay (q_M_atomic_130 bi d a b f x1 (q_M_atomic_23 bi d a b f x1) (u_M_atomic_49 bi d a b f x1) (u_M_atomic_76 bi d a b f x1)) ((0 : Int32), (sName (q_M_atomic_87 bi d a b f x1 (q_M_atomic_23 bi d a b f x1) (u_M_atomic_49 bi d a b f x1) (u_M_atomic_76 bi d a b f x1)) st).2)))); have h6 := sNext_le  (sReg d (sSay (q_M_atomic_252 bi d a b f x1 (q_M_atomic_23 bi d a b f x1) (u_M_atomic_49 bi d a b f x1) (u_M_atomic_76 bi d a b f x1)) (sSay 30510 (sSay (q_M_atomic_130 bi d a b f x1 (q_M_atomic_23 bi d a b f x1) (u_M_atomic_49 bi d a b f x1) (u_M_atomic_76 bi d a b f x1)) ((0 : Int32), (sName (q_M_atomic_87 bi d a b f x1 (q_M_atomic_23 bi d a b f x1) (u_M_atomic_49 bi d a b f x1) (u_M_atomic_76 bi d a b f x1)) st).2))))); have h7 := sBra_le a (sNext (sReg d (sSay (q_M_atomic_252 bi d a b f x1 (q_M_atomic_23 bi d a b f x1) (u_M_atomic_49 bi d a b f x1) (u_M_atomic_76 bi d a b f x1)) (sSay 30510 (sSay (q_M_atomic_130 bi d a b f x1 (q_M_atomic_23 bi d a b f x1) (u_M_atomic_49 bi d a b f x1) (u_M_atomic_76 bi d a b f x1)) ((0 : Int32), (sName (q_M_atomic_87 bi d a b f x1 (q_M_atomic_23 bi d a b f x1) (u_M_atomic_49 bi d a b f x1) (u_M_atomic_76 bi d a b f x1)) st).2)))))); omega) (by have h0 := sName_le (q_M_atomic_87 bi d a b f x1 (q_M_atomic_23 bi d a b f x1) (u_M_atomic_49 bi d a b f x1) (u_M_atomic_76 bi d a b f x1)) st; have h1 : (((0 : Int32), (sName (q_M_atomic_87 bi d a b f x1 (q_M_atomic_23 bi d a b f x1) (u_M_atomic_49 bi d a b f x1) (u_M_atomic_76 bi d a b f x1)) st).2) : MT).2.2.length = (sName (q_M_atomic_87 bi d a b f x1 (q_M_atomic_23 bi d a b f x1) (u_M_atomic_49 bi d a b f x1) (u_M_atomic_76 bi d a b f x1)) st).2.2.length := rfl; have h2 := sSay_le (q_M_atomic_130 bi d a b f x1 (q_M_atomic_23 bi d a b f x1) (u_M_atomic_49 bi d a b f x1) (u_M_atomic_76 bi d a b f x1)) ((0 : Int32), (sName (q_M_atomic_87 bi d a b f x1 (q_M_atomic_23 bi d a b f x1) (u_M_atomic_49 bi d a b f x1) (u_M_atomic_76 bi d a b f x1)) st).2); have h3 := sSay_le 30510 (sSay (q_M_atomic_130 bi d a b f x1 (q_M_atomic_23 bi d a b f x1) (u_M_atomic_49 bi d a b f x1) (u_M_atomic_76 bi d a b f x1)) ((0 : Int32), (sName (q_M_atomic_87 bi d a b f x1 (q_M_atomic_23 bi d a b f x1) (u_M_atomic_49 bi d a b f x1) (u_M_atomic_76 bi d a b f x1)) st).2)); have h4 := sSay_le (q_M_atomic_252 bi d a b f x1 (q_M_atomic_23 bi d a b f x1) (u_M_atomic_49 bi d a b f x1) (u_M_atomic_76 bi d a b f x1)) (sSay 30510 (sSay (q_M_atomic_130 bi d a b f x1 (q_M_atomic_23 bi d a b f x1) (u_M_atomic_49 bi d a b f x1) (u_M_atomic_76 bi d a b f x1)) ((0 : Int32), (sName (q_M_atomic_87 bi d a b f x1 (q_M_atomic_23 bi d a b f x1) (u_M_atomic_49 bi d a b f x1) (u_M_atomic_76 bi d a b f x1)) st).2))); have h5 := sReg_le d (sSay (q_M_atomic_252 bi d a b f x1 (q_M_atomic_23 bi d a b f x1) (u_M_atomic_49 bi d a b f x1) (u_M_atomic_76 bi d a b f x1)) (sSay 30510 (sSay (q_M_atomic_130 bi d a b f x1 (q_M_atomic_23 bi d a b f x1) (u_M_atomic_49 bi d a b f x1) (u_M_atomic_76 bi d a b f x1)) ((0 : Int32), (sName (q_M_atomic_87 bi d a b f x1 (q_M_atomic_23 bi d a b f x1) (u_M_atomic_49 bi d a b f x1) (u_M_atomic_76 bi d a b f x1)) st).2)))); have h6 := sReg_le b (sReg d (sSay (q_M_atomic_252 bi d a b f x1 (q_M_atomic_23 bi d a b f x1) (u_M_atomic_49 bi d a b f x1) (u_M_atomic_76 bi d a b f x1)) (sSay 30510 (sSay (q_M_atomic_130 bi d a b f x1 (q_M_atomic_23 bi d a b f x1) (u_M_atomic_49 bi d a b f x1) (u_M_atomic_76 bi d a b f x1)) ((0 : Int32), (sName (q_M_atomic_87 bi d a b f x1 (q_M_atomic_23 bi d a b f x1) (u_M_atomic_49 bi d a b f x1) (u_M_atomic_76 bi d a b f x1)) st).2))))); have h7 := sNext_le  (sReg b (sReg d (sSay (q_M_atomic_252 bi d a b f x1 (q_M_atomic_23 bi d a b f x1) (u_M_atomic_49 bi d a b f x1) (u_M_atomic_76 bi d a b f x1)) (sSay 30510 (sSay (q_M_atomic_130 bi d a b f x1 (q_M_atomic_23 bi d a b f x1) (u_M_atomic_49 bi d a b f x1) (u_M_atomic_76 bi d a b f x1)) ((0 : Int32), (sName (q_M_atomic_87 bi d a b f x1 (q_M_atomic_23 bi d a b f x1) (u_M_atomic_49 bi d a b f x1) (u_M_atomic_76 bi d a b f x1)) st).2)))))); have h8 := sBra_le a (sNext (sReg b (sReg d (sSay (q_M_atomic_252 bi d a b f x1 (q_M_atomic_23 bi d a b f x1) (u_M_atomic_49 bi d a b f x1) (u_M_atomic_76 bi d a b f x1)) (sSay 30510 (sSay (q_M_atomic_130 bi d a b f x1 (q_M_atomic_23 bi d a b f x1) (u_M_atomic_49 bi d a b f x1) (u_M_atomic_76 bi d a b f x1)) ((0 : Int32), (sName (q_M_atomic_87 bi d a b f x1 (q_M_atomic_23 bi d a b f x1) (u_M_atomic_49 bi d a b f x1) (u_M_atomic_76 bi d a b f x1)) st).2))))))); omega)))))) (by omega)) (it_len _ (by omega) (it_len _ (it_len _ (it_len _ (by have h0 := sName_le (q_M_atomic_87 bi d a b f x1 (q_M_atomic_23 bi d a b f x1) (u_M_atomic_49 bi d a b f x1) (u_M_atomic_76 bi d a b f x1)) st; have h1 : (((0 : Int32), (sName (q_M_atomic_87 bi d a b f x1 (q_M_atomic_23 bi d a b f x1) (u_M_atomic_49 bi d a b f x1) (u_M_atomic_76 bi d a b f x1)) st).2) : MT).2.2.length = (sName (q_M_atomic_87 bi d a b f x1 (q_M_atomic_23 bi d a b f x1) (u_M_atomic_49 bi d a b f x1) (u_M_atomic_76 bi d a b f x1)) st).2.2.length := rfl; have h2 := sSay_le 30510 ((0 : Int32), (sName (q_M_atomic_87 bi d a b f x1 (q_M_atomic_23 bi d a b f x1) (u_M_atomic_49 bi d a b f x1) (u_M_atomic_76 bi d a b f x1)) st).2); have h3 := sReg_le d (sSay 30510 ((0 : Int32), (sName (q_M_atomic_87 bi d a b f x1 (q_M_atomic_23 bi d a b f x1) (u_M_atomic_49 bi d a b f x1) (u_M_atomic_76 bi d a b f x1)) st).2)); have h4 := sNext_le  (sReg d (sSay 30510 ((0 : Int32), (sName (q_M_atomic_87 bi d a b f x1 (q_M_atomic_23 bi d a b f x1) (u_M_atomic_49 bi d a b f x1) (u_M_atomic_76 bi d a b f x1)) st).2))); have h5 := sBra_le a (sNext (sReg d (sSay 30510 ((0 : Int32), (sName (q_M_atomic_87 bi d a b f x1 (q_M_atomic_23 bi d a b f x1) (u_M_atomic_49 bi d a b f x1) (u_M_atomic_76 bi d a b f x1)) st).2)))); omega) (by have h0 := sName_le (q_M_atomic_87 bi d a b f x1 (q_M_atomic_23 bi d a b f x1) (u_M_atomic_49 bi d a b f x1) (u_M_atomic_76 bi d a b f x1)) st; have h1 : (((0 : Int32), (sName (q_M_atomic_87 bi d a b f x1 (q_M_atomic_23 bi d a b f x1) (u_M_atomic_49 bi d a b f x1) (u_M_atomic_76 bi d a b f x1)) st).2) : MT).2.2.length = (sName (q_M_atomic_87 bi d a b f x1 (q_M_atomic_23 bi d a b f x1) (u_M_atomic_49 bi d a b f x1) (u_M_atomic_76 bi d a b f x1)) st).2.2.length := rfl; have h2 := sSay_le 30510 ((0 : Int32), (sName (q_M_atomic_87 bi d a b f x1 (q_M_atomic_23 bi d a b f x1) (u_M_atomic_49 bi d a b f x1) (u_M_atomic_76 bi d a b f x1)) st).2); have h3 := sReg_le d (sSay 30510 ((0 : Int32), (sName (q_M_atomic_87 bi d a b f x1 (q_M_atomic_23 bi d a b f x1) (u_M_atomic_49 bi d a b f x1) (u_M_atomic_76 bi d a b f x1)) st).2)); have h4 := sReg_le b (sReg d (sSay 30510 ((0 : Int32), (sName (q_M_atomic_87 bi d a b f x1 (q_M_atomic_23 bi d a b f x1) (u_M_atomic_49 bi d a b f x1) (u_M_atomic_76 bi d a b f x1)) st).2))); have h5 := sNext_le  (sReg b (sReg d (sSay 30510 ((0 : Int32), (sName (q_M_atomic_87 bi d a b f x1 (q_M_atomic_23 bi d a b f x1) (u_M_atomic_49 bi d a b f x1) (u_M_atomic_76 bi d a b f x1)) st).2)))); have h6 := sBra_le a (sNext (sReg b (sReg d (sSay 30510 ((0 : Int32), (sName (q_M_atomic_87 bi d a b f x1 (q_M_atomic_23 bi d a b f x1) (u_M_atomic_49 bi d a b f x1) (u_M_atomic_76 bi d a b f x1)) st).2))))); omega)) (it_len _ (by have h0 := sName_le (q_M_atomic_87 bi d a b f x1 (q_M_atomic_23 bi d a b f x1) (u_M_atomic_49 bi d a b f x1) (u_M_atomic_76 bi d a b f x1)) st; have h1 : (((0 : Int32), (sName (q_M_atomic_87 bi d a b f x1 (q_M_atomic_23 bi d a b f x1) (u_M_atomic_49 bi d a b f x1) (u_M_atomic_76 bi d a b f x1)) st).2) : MT).2.2.length = (sName (q_M_atomic_87 bi d a b f x1 (q_M_atomic_23 bi d a b f x1) (u_M_atomic_49 bi d a b f x1) (u_M_atomic_76 bi d a b f x1)) st).2.2.length := rfl; have h2 := sSay_le 30510 ((0 : Int32), (sName (q_M_atomic_87 bi d a b f x1 (q_M_atomic_23 bi d a b f x1) (u_M_atomic_49 bi d a b f x1) (u_M_atomic_76 bi d a b f x1)) st).2); have h3 := sSay_le (q_M_atomic_252 bi d a b f x1 (q_M_atomic_23 bi d a b f x1) (u_M_atomic_49 bi d a b f x1) (u_M_atomic_76 bi d a b f x1)) (sSay 30510 ((0 : Int32), (sName (q_M_atomic_87 bi d a b f x1 (q_M_atomic_23 bi d a b f x1) (u_M_atomic_49 bi d a b f x1) (u_M_atomic_76 bi d a b f x1)) st).2)); have h4 := sReg_le d (sSay (q_M_atomic_252 bi d a b f x1 (q_M_atomic_23 bi d a b f x1) (u_M_atomic_49 bi d a b f x1) (u_M_atomic_76 bi d a b f x1)) (sSay 30510 ((0 : Int32), (sName (q_M_atomic_87 bi d a b f x1 (q_M_atomic_23 bi d a b f x1) (u_M_atomic_49 bi d a b f x1) (u_M_atomic_76 bi d a b f x1)) st).2))); have h5 := sNext_le  (sReg d (sSay (q_M_atomic_252 bi d a b f x1 (q_M_atomic_23 bi d a b f x1) (u_M_atomic_49 bi d a b f x1) (u_M_atomic_76 bi d a b f x1)) (sSay 30510 ((0 : Int32), (sName (q_M_atomic_87 bi d a b f x1 (q_M_atomic_23 bi d a b f x1) (u_M_atomic_49 bi d a b f x1) (u_M_atomic_76 bi d a b f x1)) st).2)))); have h6 := sBra_le a (sNext (sReg d (sSay (q_M_atomic_252 bi d a b f x1 (q_M_atomic_23 bi d a b f x1) (u_M_atomic_49 bi d a b f x1) (u_M_atomic_76 bi d a b f x1)) (sSay 30510 ((0 : Int32), (sName (q_M_atomic_87 bi d a b f x1 (q_M_atomic_23 bi d a b f x1) (u_M_atomic_49 bi d a b f x1) (u_M_atomic_76 bi d a b f x1)) st).2))))); omega) (by have h0 := sName_le (q_M_atomic_87 bi d a b f x1 (q_M_atomic_23 bi d a b f x1) (u_M_atomic_49 bi d a b f x1) (u_M_atomic_76 bi d a b f x1)) st; have h1 : (((0 : Int32), (sName (q_M_atomic_87 bi d a b f x1 (q_M_atomic_23 bi d a b f x1) (u_M_atomic_49 bi d a b f x1) (u_M_atomic_76 bi d a b f x1)) st).2) : MT).2.2.length = (sName (q_M_atomic_87 bi d a b f x1 (q_M_atomic_23 bi d a b f x1) (u_M_atomic_49 bi d a b f x1) (u_M_atomic_76 bi d a b f x1)) st).2.2.length := rfl; have h2 := sSay_le 30510 ((0 : Int32), (sName (q_M_atomic_87 bi d a b f x1 (q_M_atomic_23 bi d a b f x1) (u_M_atomic_49 bi d a b f x1) (u_M_atomic_76 bi d a b f x1)) st).2); have h3 := sSay_le (q_M_atomic_252 bi d a b f x1 (q_M_atomic_23 bi d a b f x1) (u_M_atomic_49 bi d a b f x1) (u_M_atomic_76 bi d a b f x1)) (sSay 30510 ((0 : Int32), (sName (q_M_atomic_87 bi d a b f x1 (q_M_atomic_23 bi d a b f x1) (u_M_atomic_49 bi d a b f x1) (u_M_atomic_76 bi d a b f x1)) st).2)); have h4 := sReg_le d (sSay (q_M_atomic_252 bi d a b f x1 (q_M_atomic_23 bi d a b f x1) (u_M_atomic_49 bi d a b f x1) (u_M_atomic_76 bi d a b f x1)) (sSay 30510 ((0 : Int32), (sName (q_M_atomic_87 bi d a b f x1 (q_M_atomic_23 bi d a b f x1) (u_M_atomic_49 bi d a b f x1) (u_M_atomic_76 bi d a b f x1)) st).2))); have h5 := sReg_le b (sReg d (sSay (q_M_atomic_252 bi d a b f x1 (q_M_atomic_23 bi d a b f x1) (u_M_atomic_49 bi d a b f x1) (u_M_atomic_76 bi d a b f x1)) (sSay 30510 ((0 : Int32), (sName (q_M_atomic_87 bi d a b f x1 (q_M_atomic_23 bi d a b f x1) (u_M_atomic_49 bi d a b f x1) (u_M_atomic_76 bi d a b f x1)) st).2)))); have h6 := sNext_le  (sReg b (sReg d (sSay (q_M_atomic_252 bi d a b f x1 (q_M_atomic_23 bi d a b f x1) (u_M_atomic_49 bi d a b f x1) (u_M_atomic_76 bi d a b f x1)) (sSay 30510 ((0 : Int32), (sName (q_M_atomic_87 bi d a b f x1 (q_M_atomic_23 bi d a b f x1) (u_M_atomic_49 bi d a b f x1) (u_M_atomic_76 bi d a b f x1)) st).2))))); have h7 := sBra_le a (sNext (sReg b (sReg d (sSay (q_M_atomic_252 bi d a b f x1 (q_M_atomic_23 bi d a b f x1) (u_M_atomic_49 bi d a b f x1) (u_M_atomic_76 bi d a b f x1)) (sSay 30510 ((0 : Int32), (sName (q_M_atomic_87 bi d a b f x1 (q_M_atomic_23 bi d a b f x1) (u_M_atomic_49 bi d a b f x1) (u_M_atomic_76 bi d a b f x1)) st).2)))))); omega))) (it_len _ (it_len _ (it_len _ (by have h0 := sName_le (q_M_atomic_87 bi d a b f x1 (q_M_atomic_23 bi d a b f x1) (u_M_atomic_49 bi d a b f x1) (u_M_atomic_76 bi d a b f x1)) st; have h1 : (((0 : Int32), (sName (q_M_atomic_87 bi d a b f x1 (q_M_atomic_23 bi d a b f x1) (u_M_atomic_49 bi d a b f x1) (u_M_atomic_76 bi d a b f x1)) st).2) : MT).2.2.length = (sName (q_M_atomic_87 bi d a b f x1 (q_M_atomic_23 bi d a b f x1) (u_M_atomic_49 bi d a b f x1) (u_M_atomic_76 bi d a b f x1)) st).2.2.length := rfl; have h2 := sSay_le 30510 ((0 : Int32), (sName (q_M_atomic_87 bi d a b f x1 (q_M_atomic_23 bi d a b f x1) (u_M_atomic_49 bi d a b f x1) (u_M_atomic_76 bi d a b f x1)) st).2); have h3 := sReg_le d (sSay 30510 ((0 : Int32), (sName (q_M_atomic_87 bi d a b f x1 (q_M_atomic_23 bi d a b f x1) (u_M_atomic_49 bi d a b f x1) (u_M_atomic_76 bi d a b f x1)) st).2)); have h4 := sNext_le  (sReg d (sSay 30510 ((0 : Int32), (sName (q_M_atomic_87 bi d a b f x1 (q_M_atomic_23 bi d a b f x1) (u_M_atomic_49 bi d a b f x1) (u_M_atomic_76 bi d a b f x1)) st).2))); have h5 := sBra_le a (sNext (sReg d (sSay 30510 ((0 : Int32), (sName (q_M_atomic_87 bi d a b f x1 (q_M_atomic_23 bi d a b f x1) (u_M_atomic_49 bi d a b f x1) (u_M_atomic_76 bi d a b f x1)) st).2)))); omega) (by have h0 := sName_le (q_M_atomic_87 bi d a b f x1 (q_M_atomic_23 bi d a b f x1) (u_M_atomic_49 bi d a b f x1) (u_M_atomic_76 bi d a b f x1)) st; have h1 : (((0 : Int32), (sName (q_M_atomic_87 bi d a b f x1 (q_M_atomic_23 bi d a b f x1) (u_M_atomic_49 bi d a b f x1) (u_M_atomic_76 bi d a b f x1)) st).2) : MT).2.2.length = (sName (q_M_atomic_87 bi d a b f x1 (q_M_atomic_23 bi d a b f x1) (u_M_atomic_49 bi d a b f x1) (u_M_atomic_76 bi d a b f x1)) st).2.2.length := rfl; have h2 := sSay_le 30510 ((0 : Int32), (sName (q_M_atomic_87 bi d a b f x1 (q_M_atomic_23 bi d a b f x1) (u_M_atomic_49 bi d a b f x1) (u_M_atomic_76 bi d a b f x1)) st).2); have h3 := sReg_le d (sSay 30510 ((0 : Int32), (sName (q_M_atomic_87 bi d a b f x1 (q_M_atomic_23 bi d a b f x1) (u_M_atomic_49 bi d a b f x1) (u_M_atomic_76 bi d a b f x1)) st).2)); have h4 := sReg_le b (sReg d (sSay 30510 ((0 : Int32), (sName (q_M_atomic_87 bi d a b f x1 (q_M_atomic_23 bi d a b f x1) (u_M_atomic_49 bi d a b f x1) (u_M_atomic_76 bi d a b f x1)) st).2))); have h5 := sNext_le  (sReg b (sReg d (sSay 30510 ((0 : Int32), (sName (q_M_atomic_87 bi d a b f x1 (q_M_atomic_23 bi d a b f x1) (u_M_atomic_49 bi d a b f x1) (u_M_atomic_76 bi d a b f x1)) st).2)))); have h6 := sBra_le a (sNext (sReg b (sReg d (sSay 30510 ((0 : Int32), (sName (q_M_atomic_87 bi d a b f x1 (q_M_atomic_23 bi d a b f x1) (u_M_atomic_49 bi d a b f x1) (u_M_atomic_76 bi d a b f x1)) st).2))))); omega)) (it_len _ (by have h0 := sName_le (q_M_atomic_87 bi d a b f x1 (q_M_atomic_23 bi d a b f x1) (u_M_atomic_49 bi d a b f x1) (u_M_atomic_76 bi d a b f x1)) st; have h1 : (((0 : Int32), (sName (q_M_atomic_87 bi d a b f x1 (q_M_atomic_23 bi d a b f x1) (u_M_atomic_49 bi d a b f x1) (u_M_atomic_76 bi d a b f x1)) st).2) : MT).2.2.length = (sName (q_M_atomic_87 bi d a b f x1 (q_M_atomic_23 bi d a b f x1) (u_M_atomic_49 bi d a b f x1) (u_M_atomic_76 bi d a b f x1)) st).2.2.length := rfl; have h2 := sSay_le 30510 ((0 : Int32), (sName (q_M_atomic_87 bi d a b f x1 (q_M_atomic_23 bi d a b f x1) (u_M_atomic_49 bi d a b f x1) (u_M_atomic_76 bi d a b f x1)) st).2); have h3 := sSay_le (q_M_atomic_252 bi d a b f x1 (q_M_atomic_23 bi d a b f x1) (u_M_atomic_49 bi d a b f x1) (u_M_atomic_76 bi d a b f x1)) (sSay 30510 ((0 : Int32), (sName (q_M_atomic_87 bi d a b f x1 (q_M_atomic_23 bi d a b f x1) (u_M_atomic_49 bi d a b f x1) (u_M_atomic_76 bi d a b f x1)) st).2)); have h4 := sReg_le d (sSay (q_M_atomic_252 bi d a b f x1 (q_M_atomic_23 bi d a b f x1) (u_M_atomic_49 bi d a b f x1) (u_M_atomic_76 bi d a b f x1)) (sSay 30510 ((0 : Int32), (sName (q_M_atomic_87 bi d a b f x1 (q_M_atomic_23 bi d a b f x1) (u_M_atomic_49 bi d a b f x1) (u_M_atomic_76 bi d a b f x1)) st).2))); have h5 := sNext_le  (sReg d (sSay (q_M_atomic_252 bi d a b f x1 (q_M_atomic_23 bi d a b f x1) (u_M_atomic_49 bi d a b f x1) (u_M_atomic_76 bi d a b f x1)) (sSay 30510 ((0 : Int32), (sName (q_M_atomic_87 bi d a b f x1 (q_M_atomic_23 bi d a b f x1) (u_M_atomic_49 bi d a b f x1) (u_M_atomic_76 bi d a b f x1)) st).2)))); have h6 := sBra_le a (sNext (sReg d (sSay (q_M_atomic_252 bi d a b f x1 (q_M_atomic_23 bi d a b f x1) (u_M_atomic_49 bi d a b f x1) (u_M_atomic_76 bi d a b f x1)) (sSay 30510 ((0 : Int32), (sName (q_M_atomic_87 bi d a b f x1 (q_M_atomic_23 bi d a b f x1) (u_M_atomic_49 bi d a b f x1) (u_M_atomic_76 bi d a b f x1)) st).2))))); omega) (by have h0 := sName_le (q_M_atomic_87 bi d a b f x1 (q_M_atomic_23 bi d a b f x1) (u_M_atomic_49 bi d a b f x1) (u_M_atomic_76 bi d a b f x1)) st; have h1 : (((0 : Int32), (sName (q_M_atomic_87 bi d a b f x1 (q_M_atomic_23 bi d a b f x1) (u_M_atomic_49 bi d a b f x1) (u_M_atomic_76 bi d a b f x1)) st).2) : MT).2.2.length = (sName (q_M_atomic_87 bi d a b f x1 (q_M_atomic_23 bi d a b f x1) (u_M_atomic_49 bi d a b f x1) (u_M_atomic_76 bi d a b f x1)) st).2.2.length := rfl; have h2 := sSay_le 30510 ((0 : Int32), (sName (q_M_atomic_87 bi d a b f x1 (q_M_atomic_23 bi d a b f x1) (u_M_atomic_49 bi d a b f x1) (u_M_atomic_76 bi d a b f x1)) st).2); have h3 := sSay_le (q_M_atomic_252 bi d a b f x1 (q_M_atomic_23 bi d a b f x1) (u_M_atomic_49 bi d a b f x1) (u_M_atomic_76 bi d a b f x1)) (sSay 30510 ((0 : Int32), (sName (q_M_atomic_87 bi d a b f x1 (q_M_atomic_23 bi d a b f x1) (u_M_atomic_49 bi d a b f x1) (u_M_atomic_76 bi d a b f x1)) st).2)); have h4 := sReg_le d (sSay (q_M_atomic_252 bi d a b f x1 (q_M_atomic_23 bi d a b f x1) (u_M_atomic_49 bi d a b f x1) (u_M_atomic_76 bi d a b f x1)) (sSay 30510 ((0 : Int32), (sName (q_M_atomic_87 bi d a b f x1 (q_M_atomic_23 bi d a b f x1) (u_M_atomic_49 bi d a b f x1) (u_M_atomic_76 bi d a b f x1)) st).2))); have h5 := sReg_le b (sReg d (sSay (q_M_atomic_252 bi d a b f x1 (q_M_atomic_23 bi d a b f x1) (u_M_atomic_49 bi d a b f x1) (u_M_atomic_76 bi d a b f x1)) (sSay 30510 ((0 : Int32), (sName (q_M_atomic_87 bi d a b f x1 (q_M_atomic_23 bi d a b f x1) (u_M_atomic_49 bi d a b f x1) (u_M_atomic_76 bi d a b f x1)) st).2)))); have h6 := sNext_le  (sReg b (sReg d (sSay (q_M_atomic_252 bi d a b f x1 (q_M_atomic_23 bi d a b f x1) (u_M_atomic_49 bi d a b f x1) (u_M_atomic_76 bi d a b f x1)) (sSay 30510 ((0 : Int32), (sName (q_M_atomic_87 bi d a b f x1 (q_M_atomic_23 bi d a b f x1) (u_M_atomic_49 bi d a b f x1) (u_M_atomic_76 bi d a b f x1)) st).2))))); have h7 := sBra_le a (sNext (sReg b (sReg d (sSay (q_M_atomic_252 bi d a b f x1 (q_M_atomic_23 bi d a b f x1) (u_M_atomic_49 bi d a b f x1) (u_M_atomic_76 bi d a b f x1)) (sSay 30510 ((0 : Int32), (sName (q_M_atomic_87 bi d a b f x1 (q_M_atomic_23 bi d a b f x1) (u_M_atomic_49 bi d a b f x1) (u_M_atomic_76 bi d a b f x1)) st).2)))))); omega))) (it_len _ (it_len _ (by have h0 := sName_le (q_M_atomic_87 bi d a b f x1 (q_M_atomic_23 bi d a b f x1) (u_M_atomic_49 bi d a b f x1) (u_M_atomic_76 bi d a b f x1)) st; have h1 : (((0 : Int32), (sName (q_M_atomic_87 bi d a b f x1 (q_M_atomic_23 bi d a b f x1) (u_M_atomic_49 bi d a b f x1) (u_M_atomic_76 bi d a b f x1)) st).2) : MT).2.2.length = (sName (q_M_atomic_87 bi d a b f x1 (q_M_atomic_23 bi d a b f x1) (u_M_atomic_49 bi d a b f x1) (u_M_atomic_76 bi d a b f x1)) st).2.2.length := rfl; have h2 := sSay_le (q_M_atomic_130 bi d a b f x1 (q_M_atomic_23 bi d a b f x1) (u_M_atomic_49 bi d a b f x1) (u_M_atomic_76 bi d a b f x1)) ((0 : Int32), (sName (q_M_atomic_87 bi d a b f x1 (q_M_atomic_23 bi d a b f x1) (u_M_atomic_49 bi d a b f x1) (u_M_atomic_76 bi d a b f x1)) st).2); have h3 := sSay_le 30510 (sSay (q_M_atomic_130 bi d a b f x1 (q_M_atomic_23 bi d a b f x1) (u_M_atomic_49 bi d a b f x1) (u_M_atomic_76 bi d a b f x1)) ((0 : Int32), (sName (q_M_atomic_87 bi d a b f x1 (q_M_atomic_23 bi d a b f x1) (u_M_atomic_49 bi d a b f x1) (u_M_atomic_76 bi d a b f x1)) st).2)); have h4 := sReg_le d (sSay 30510 (sSay (q_M_atomic_130 bi d a b f x1 (q_M_atomic_23 bi d a b f x1) (u_M_atomic_49 bi d a b f x1) (u_M_atomic_76 bi d a b f x1)) ((0 : Int32), (sName (q_M_atomic_87 bi d a b f x1 (q_M_atomic_23 bi d a b f x1) (u_M_atomic_49 bi d a b f x1) (u_M_atomic_76 bi d a b f x1)) st).2))); have h5 := sNext_le  (sReg d (sSay 30510 (sSay (q_M_atomic_130 bi d a b f x1 (q_M_atomic_23 bi d a b f x1) (u_M_atomic_49 bi d a b f x1) (u_M_atomic_76 bi d a b f x1)) ((0 : Int32), (sName (q_M_atomic_87 bi d a b f x1 (q_M_atomic_23 bi d a b f x1) (u_M_atomic_49 bi d a b f x1) (u_M_atomic_76 bi d a b f x1)) st).2)))); have h6 := sBra_le a (sNext (sReg d (sSay 30510 (sSay (q_M_atomic_130 bi d a b f x1 (q_M_atomic_23 bi d a b f x1) (u_M_atomic_49 bi d a b f x1) (u_M_atomic_76 bi d a b f x1)) ((0 : Int32), (sName (q_M_atomic_87 bi d a b f x1 (q_M_atomic_23 bi d a b f x1) (u_M_atomic_49 bi d a b f x1) (u_M_atomic_76 bi d a b f x1)) st).2))))); omega) (by have h0 := sName_le (q_M_atomic_87 bi d a b f x1 (q_M_atomic_23 bi d a b f x1) (u_M_atomic_49 bi d a b f x1) (u_M_atomic_76 bi d a b f x1)) st; have h1 : (((0 : Int32), (sName (q_M_atomic_87 bi d a b f x1 (q_M_atomic_23 bi d a b f x1) (u_M_atomic_49 bi d a b f x1) (u_M_atomic_76 bi d a b f x1)) st).2) : MT).2.2.length = (sName (q_M_atomic_87 bi d a b f x1 (q_M_atomic_23 bi d a b f x1) (u_M_atomic_49 bi d a b f x1) (u_M_atomic_76 bi d a b f x1)) st).2.2.length := rfl; have h2 := sSay_le (q_M_atomic_130 bi d a b f x1 (q_M_atomic_23 bi d a b f x1) (u_M_atomic_49 bi d a b f x1) (u_M_atomic_76 bi d a b f x1)) ((0 : Int32), (sName (q_M_atomic_87 bi d a b f x1 (q_M_atomic_23 bi d a b f x1) (u_M_atomic_49 bi d a b f x1) (u_M_atomic_76 bi d a b f x1)) st).2); have h3 := sSay_le 30510 (sSay (q_M_atomic_130 bi d a b f x1 (q_M_atomic_23 bi d a b f x1) (u_M_atomic_49 bi d a b f x1) (u_M_atomic_76 bi d a b f x1)) ((0 : Int32), (sName (q_M_atomic_87 bi d a b f x1 (q_M_atomic_23 bi d a b f x1) (u_M_atomic_49 bi d a b f x1) (u_M_atomic_76 bi d a b f x1)) st).2)); have h4 := sReg_le d (sSay 30510 (sSay (q_M_atomic_130 bi d a b f x1 (q_M_atomic_23 bi d a b f x1) (u_M_atomic_49 bi d a b f x1) (u_M_atomic_76 bi d a b f x1)) ((0 : Int32), (sName (q_M_atomic_87 bi d a b f x1 (q_M_atomic_23 bi d a b f x1) (u_M_atomic_49 bi d a b f x1) (u_M_atomic_76 bi d a b f x1)) st).2))); have h5 := sReg_le b (sReg d (sSay 30510 (sSay (q_M_atomic_130 bi d a b f x1 (q_M_atomic_23 bi d a b f x1) (u_M_atomic_49 bi d a b f x1) (u_M_atomic_76 bi d a b f x1)) ((0 : Int32), (sName (q_M_atomic_87 bi d a b f x1 (q_M_atomic_23 bi d a b f x1) (u_M_atomic_49 bi d a b f x1) (u_M_atomic_76 bi d a b f x1)) st).2)))); have h6 := sNext_le  (sReg b (sReg d (sSay 30510 (sSay (q_M_atomic_130 bi d a b f x1 (q_M_atomic_23 bi d a b f x1) (u_M_atomic_49 bi d a b f x1) (u_M_atomic_76 bi d a b f x1)) ((0 : Int32), (sName (q_M_atomic_87 bi d a b f x1 (q_M_atomic_23 bi d a b f x1) (u_M_atomic_49 bi d a b f x1) (u_M_atomic_76 bi d a b f x1)) st).2))))); have h7 := sBra_le a (sNext (sReg b (sReg d (sSay 30510 (sSay (q_M_atomic_130 bi d a b f x1 (q_M_atomic_23 bi d a b f x1) (u_M_atomic_49 bi d a b f x1) (u_M_atomic_76 bi d a b f x1)) ((0 : Int32), (sName (q_M_atomic_87 bi d a b f x1 (q_M_atomic_23 bi d a b f x1) (u_M_atomic_49 bi d a b f x1) (u_M_atomic_76 bi d a b f x1)) st).2)))))); omega)) (it_len _ (by have h0 := sName_le (q_M_atomic_87 bi d a b f x1 (q_M_atomic_23 bi d a b f x1) (u_M_atomic_49 bi d a b f x1) (u_M_atomic_76 bi d a b f x1)) st; have h1 : (((0 : Int32), (sName (q_M_atomic_87 bi d a b f x1 (q_M_atomic_23 bi d a b f x1) (u_M_atomic_49 bi d a b f x1) (u_M_atomic_76 bi d a b f x1)) st).2) : MT).2.2.length = (sName (q_M_atomic_87 bi d a b f x1 (q_M_atomic_23 bi d a b f x1) (u_M_atomic_49 bi d a b f x1) (u_M_atomic_76 bi d a b f x1)) st).2.2.length := rfl; have h2 := sSay_le (q_M_atomic_130 bi d a b f x1 (q_M_atomic_23 bi d a b f x1) (u_M_atomic_49 bi d a b f x1) (u_M_atomic_76 bi d a b f x1)) ((0 : Int32), (sName (q_M_atomic_87 bi d a b f x1 (q_M_atomic_23 bi d a b f x1) (u_M_atomic_49 bi d a b f x1) (u_M_atomic_76 bi d a b f x1)) st).2); have h3 := sSay_le 30510 (sSay (q_M_atomic_130 bi d a b f x1 (q_M_atomic_23 bi d a b f x1) (u_M_atomic_49 bi d a b f x1) (u_M_atomic_76 bi d a b f x1)) ((0 : Int32), (sName (q_M_atomic_87 bi d a b f x1 (q_M_atomic_23 bi d a b f x1) (u_M_atomic_49 bi d a b f x1) (u_M_atomic_76 bi d a b f x1)) st).2)); have h4 := sSay_le (q_M_atomic_252 bi d a b f x1 (q_M_atomic_23 bi d a b f x1) (u_M_atomic_49 bi d a b f x1) (u_M_atomic_76 bi d a b f x1)) (sSay 30510 (sSay (q_M_atomic_130 bi d a b f x1 (q_M_atomic_23 bi d a b f x1) (u_M_atomic_49 bi d a b f x1) (u_M_atomic_76 bi d a b f x1)) ((0 : Int32), (sName (q_M_atomic_87 bi d a b f x1 (q_M_atomic_23 bi d a b f x1) (u_M_atomic_49 bi d a b f x1) (u_M_atomic_76 bi d a b f x1)) st).2))); have h5 := sReg_le d (sSay (q_M_atomic_252 bi d a b f x1 (q_M_atomic_23 bi d a b f x1) (u_M_atomic_49 bi d a b f x1) (u_M_atomic_76 bi d a b f x1)) (sSay 30510 (sSay (q_M_atomic_130 bi d a b f x1 (q_M_atomic_23 bi d a b f x1) (u_M_atomic_49 bi d a b f x1) (u_M_atomic_76 bi d a b f x1)) ((0 : Int32), (sName (q_M_atomic_87 bi d a b f x1 (q_M_atomic_23 bi d a b f x1) (u_M_atomic_49 bi d a b f x1) (u_M_atomic_76 bi d a b f x1)) st).2)))); have h6 := sNext_le  (sReg d (sSay (q_M_atomic_252 bi d a b f x1 (q_M_atomic_23 bi d a b f x1) (u_M_atomic_49 bi d a b f x1) (u_M_atomic_76 bi d a b f x1)) (sSay 30510 (sSay (q_M_atomic_130 bi d a b f x1 (q_M_atomic_23 bi d a b f x1) (u_M_atomic_49 bi d a b f x1) (u_M_atomic_76 bi d a b f x1)) ((0 : Int32), (sName (q_M_atomic_87 bi d a b f x1 (q_M_atomic_23 bi d a b f x1) (u_M_atomic_49 bi d a b f x1) (u_M_atomic_76 bi d a b f x1)) st).2))))); have h7 := sBra_le a (sNext (sReg d (sSay (q_M_atomic_252 bi d a b f x1 (q_M_atomic_23 bi d a b f x1) (u_M_atomic_49 bi d a b f x1) (u_M_atomic_76 bi d a b f x1)) (sSay 30510 (sSay (q_M_atomic_130 bi d a b f x1 (q_M_atomic_23 bi d a b f x1) (u_M_atomic_49 bi d a b f x1) (u_M_atomic_76 bi d a b f x1)) ((0 : Int32), (sName (q_M_atomic_87 bi d a b f x1 (q_M_atomic_23 bi d a b f x1) (u_M_atomic_49 bi d a b f x1) (u_M_atomic_76 bi d a b f x1)) st).2)))))); omega) (by have h0 := sName_le (q_M_atomic_87 bi d a b f x1 (q_M_atomic_23 bi d a b f x1) (u_M_atomic_49 bi d a b f x1) (u_M_atomic_76 bi d a b f x1)) st; have h1 : (((0 : Int32), (sName (q_M_atomic_87 bi d a b f x1 (q_M_atomic_23 bi d a b f x1) (u_M_atomic_49 bi d a b f x1) (u_M_atomic_76 bi d a b f x1)) st).2) : MT).2.2.length = (sName (q_M_atomic_87 bi d a b f x1 (q_M_atomic_23 bi d a b f x1) (u_M_atomic_49 bi d a b f x1) (u_M_atomic_76 bi d a b f x1)) st).2.2.length := rfl; have h2 := sSay_le (q_M_atomic_130 bi d a b f x1 (q_M_atomic_23 bi d a b f x1) (u_M_atomic_49 bi d a b f x1) (u_M_atomic_76 bi d a b f x1)) ((0 : Int32), (sName (q_M_atomic_87 bi d a b f x1 (q_M_atomic_23 bi d a b f x1) (u_M_atomic_49 bi d a b f x1) (u_M_atomic_76 bi d a b f x1)) st).2); have h3 := sSay_le 30510 (sSay (q_M_atomic_130 bi d a b f x1 (q_M_atomic_23 bi d a b f x1) (u_M_atomic_49 bi d a b f x1) (u_M_atomic_76 bi d a b f x1)) ((0 : Int32), (sName (q_M_atomic_87 bi d a b f x1 (q_M_atomic_23 bi d a b f x1) (u_M_atomic_49 bi d a b f x1) (u_M_atomic_76 bi d a b f x1)) st).2)); have h4 := sSay_le (q_M_atomic_252 bi d a b f x1 (q_M_atomic_23 bi d a b f x1) (u_M_atomic_49 bi d a b f x1) (u_M_atomic_76 bi d a b f x1)) (sSay 30510 (sSay (q_M_atomic_130 bi d a b f x1 (q_M_atomic_23 bi d a b f x1) (u_M_atomic_49 bi d a b f x1) (u_M_atomic_76 bi d a b f x1)) ((0 : Int32), (sName (q_M_atomic_87 bi d a b f x1 (q_M_atomic_23 bi d a b f x1) (u_M_atomic_49 bi d a b f x1) (u_M_atomic_76 bi d a b f x1)) st).2))); have h5 := sReg_le d (sSay (q_M_atomic_252 bi d a b f x1 (q_M_atomic_23 bi d a b f x1) (u_M_atomic_49 bi d a b f x1) (u_M_atomic_76 bi d a b f x1)) (sSay 30510 (sSay (q_M_atomic_130 bi d a b f x1 (q_M_atomic_23 bi d a b f x1) (u_M_atomic_49 bi d a b f x1) (u_M_atomic_76 bi d a b f x1)) ((0 : Int32), (sName (q_M_atomic_87 bi d a b f x1 (q_M_atomic_23 bi d a b f x1) (u_M_atomic_49 bi d a b f x1) (u_M_atomic_76 bi d a b f x1)) st).2)))); have h6 := sReg_le b (sReg d (sSay (q_M_atomic_252 bi d a b f x1 (q_M_atomic_23 bi d a b f x1) (u_M_atomic_49 bi d a b f x1) (u_M_atomic_76 bi d a b f x1)) (sSay 30510 (sSay (q_M_atomic_130 bi d a b f x1 (q_M_atomic_23 bi d a b f x1) (u_M_atomic_49 bi d a b f x1) (u_M_atomic_76 bi d a b f x1)) ((0 : Int32), (sName (q_M_atomic_87 bi d a b f x1 (q_M_atomic_23 bi d a b f x1) (u_M_atomic_49 bi d a b f x1) (u_M_atomic_76 bi d a b f x1)) st).2))))); have h7 := sNext_le  (sReg b (sReg d (sSay (q_M_atomic_252 bi d a b f x1 (q_M_atomic_23 bi d a b f x1) (u_M_atomic_49 bi d a b f x1) (u_M_atomic_76 bi d a b f x1)) (sSay 30510 (sSay (q_M_atomic_130 bi d a b f x1 (q_M_atomic_23 bi d a b f x1) (u_M_atomic_49 bi d a b f x1) (u_M_atomic_76 bi d a b f x1)) ((0 : Int32), (sName (q_M_atomic_87 bi d a b f x1 (q_M_atomic_23 bi d a b f x1) (u_M_atomic_49 bi d a b f x1) (u_M_atomic_76 bi d a b f x1)) st).2)))))); have h8 := sBra_le a (sNext (sReg b (sReg d (sSay (q_M_atomic_252 bi d a b f x1 (q_M_atomic_23 bi d a b f x1) (u_M_atomic_49 bi d a b f x1) (u_M_atomic_76 bi d a b f x1)) (sSay 30510 (sSay (q_M_atomic_130 bi d a b f x1 (q_M_atomic_23 bi d a b f x1) (u_M_atomic_49 bi d a b f x1) (u_M_atomic_76 bi d a b f x1)) ((0 : Int32), (sName (q_M_atomic_87 bi d a b f x1 (q_M_atomic_23 bi d a b f x1) (u_M_atomic_49 bi d a b f x1) (u_M_atomic_76 bi d a b f x1)) st).2))))))); omega))))))) (by omega))
set_option maxRecDepth 100000 in
set_option maxHeartbeats 4000000 in
theorem c_M_atomic (l : Launch) (dC : Nat → ClassId) (dI : Nat → Nat → Nat) (cI cC : ClassId) (m0 mt ms mr mk : Nat) (th yb bi d a b f : Int32) (str fk : Nat → Int32) (st : MT) (x1 : Int32) : Met l y_M_atomic (Cond.code y_M_atomic b_M_atomic 5 none :: WT) ({ frames := 3, cells := 0, slots := 0, locals := 67 }) (va_Pc [.ref m0, .int x1] (fun U => mU dC dI cI cC m0 mt ms mr mk th yb bi d a b f str fk st U ∧ st.2.2.length + 64 ≤ 64)) (va_Qv (fun _ : Unit => True) (fun _ t => mwd dC dI cI cC m0 mt ms mr mk th yb bi d a b f str fk (g_M_atomic bi d a b f x1 st) t.heap) (aM m0 mt ms mr mk)) 0 0 (aM m0 mt ms mr mk) := by
  refine va_MetF (cc := b_M_atomic) (maxL := 5) (ret := none) (by decide +kernel) rfl ?_
  intro p e s m args below meth c s₁ B hml hv
  obtain ⟨rfl, ⟨hK, ap, ok, hw⟩, hlen⟩ := hv
  have hx := B.exec
  have hb := B.bytes
  have hr := B.returns
  have hts := atoms_spec (ws := (Cond.code y_M_atomic b_M_atomic 5 none :: WT)) B.pre
  have hT : ∀ w ∈ WT, w.before _ s = true := fun w h => hts w (inC w h)
  have hown : s.vm.findClass R_M = some m.cls := findClass_of_methodNamed B.named
  have hlocks := B.notSynchronized
  have hS : va_S (aM m0 mt ms mr mk) s.heap s.heap [] := va_S.rf
  have S : CallFix p m c b_M_atomic 5 s _ (Cond.code y_M_atomic b_M_atomic 5 none :: WT) R_M := ⟨hx, hb, hml, hown, hts⟩
  have hl := lv_entry ([.ref m0, .int x1]) (n := 5) (Nat.le_of_ble_eq_true rfl)
  rw [lg_entry_eq]
  generalize (lg_sl ([.ref m0, .int x1]) ++ List.replicate (5 - (lg_sl ([.ref m0, .int x1])).length) Slot.unset).toArray = ls at hl ⊢
  have hl : lv_has ls 5 [(0, .ref m0), (1, .int x1)] := hl
  have hA : ∀ q, aM m0 mt ms mr mk q → aM m0 mt ms mr mk q := fun _ h => h
  refine lv_aload_n hx hb d_M_atomic_0 rfl (lv_at hl 0 rfl) ?_
  obtain ⟨rg, ft, h1, h2, hP⟩ := id hw
  refine va_get (D := (dC, dI)) (ci := 2) (v := .int f) (C := R_M) (T := F_M) (N := 14) hx hb hT i_M hown hK hP 0 rfl rfl 11 (by decide) (hT _ m_764) (fun _ h9 => h9) rfl d_M_atomic_1 ?_
  refine lv_iconst (v := 2) hx hb d_M_atomic_4 (by decide) ?_
  refine lv_icmp_ne (tgt := 20) hx hb d_M_atomic_5 (by decide) (fun c_1 => ?_) (fun c_1 => ?_)
  · exact W.vret hx hb hr (fun t ht hW => ⟨⟨(), rfl, trivial, mwd_at ht (mwd_eq (by rw [g_M_atomic, if_neg c_1]) hw)⟩, hS.F ht⟩) hS.2.2 d_M_atomic_20
  · refine lv_iload_n hx hb d_M_atomic_8 rfl (lv_at hl 1 rfl) ?_
    refine lv_iconst (v := 2) hx hb d_M_atomic_9 (by decide) ?_
    refine lv_icmp_ne (tgt := 21) hx hb d_M_atomic_10 (by decide) (fun c_2 => ?_) (fun c_2 => ?_)
    · refine lv_iload_n hx hb d_M_atomic_21 rfl (lv_at hl 1 rfl) ?_
      refine lv_iconst (v := 1) hx hb d_M_atomic_22 (by decide) ?_
      refine rg_M_atomic_23 S inC hT (Nat.le_of_ble_eq_true rfl) (Nat.le_of_ble_eq_true rfl) ⟨(Nat.le_of_ble_eq_true rfl), (Nat.le_of_ble_eq_true rfl)⟩ hK hw hl ?_
      refine lv_istore_n (lv' := [(2, .int (q_M_atomic_23 bi d a b f x1)), (0, .ref m0), (1, .int x1)]) hx hb d_M_atomic_31 rfl hl (by decide) rfl (fun ls hl => ?_)
      refine lv_iload_n hx hb d_M_atomic_32 rfl (lv_at hl 2 rfl) ?_
      refine lv_bipush (v := 16) hx hb d_M_atomic_33 (by decide) ?_
      refine rg_M_atomic_35 S inC hT (Nat.le_of_ble_eq_true rfl) (Nat.le_of_ble_eq_true rfl) ⟨(Nat.le_of_ble_eq_true rfl), (Nat.le_of_ble_eq_true rfl)⟩ hK hw hl ?_
      refine lv_istore_n (lv' := [(3, .int (u_M_atomic_49 bi d a b f x1)), (2, .int (q_M_atomic_23 bi d a b f x1)), (0, .ref m0), (1, .int x1)]) hx hb d_M_atomic_49 rfl hl (by decide) rfl (fun ls hl => ?_)
      refine lv_iload_n hx hb d_M_atomic_50 rfl (lv_at hl 3 rfl) ?_
      refine lv_iconst (v := 5) hx hb d_M_atomic_51 (by decide) ?_
      refine rg_M_atomic_52 S inC hT (Nat.le_of_ble_eq_true rfl) (Nat.le_of_ble_eq_true rfl) ⟨(Nat.le_of_ble_eq_true rfl), (Nat.le_of_ble_eq_true rfl)⟩ hK hw hl ?_
      refine lv_istore (lv' := [(4, .int (u_M_atomic_76 bi d a b f x1)), (3, .int (u_M_atomic_49 bi d a b f x1)), (2, .int (q_M_atomic_23 bi d a b f x1)), (0, .ref m0), (1, .int x1)]) hx hb d_M_atomic_76 hl (by decide) rfl (fun ls hl => ?_)
      refine lv_iload hx hb d_M_atomic_78 (lv_at hl 0 rfl) ?_
      refine lv_if_ne (tgt := 84) hx hb d_M_atomic_80 (by decide) (fun c_3 => ?_) (fun c_3 => ?_)
      · refine lv_aload_n hx hb d_M_atomic_84 rfl (lv_at hl 3 rfl) ?_
        refine lv_iload_n hx hb d_M_atomic_85 rfl (lv_at hl 4 rfl) ?_
        refine lv_iconst (v := 2) hx hb d_M_atomic_86 (by decide) ?_
        refine rg_M_atomic_87 S inC hT (Nat.le_of_ble_eq_true rfl) (Nat.le_of_ble_eq_true rfl) ⟨(Nat.le_of_ble_eq_true rfl), (Nat.le_of_ble_eq_true rfl)⟩ hK hw hl ?_
        refine call_M_name S inC m_833 ⟨(Nat.le_of_ble_eq_true rfl), (Nat.le_of_ble_eq_true rfl)⟩ hl.1 (Nat.le_of_ble_eq_true rfl) d_M_atomic_110 ⟨(Nat.le_of_ble_eq_true rfl), (Nat.le_of_ble_eq_true rfl)⟩ hK ap ok hS hA hw (by omega) (fun H locs hw hS _ => ?_)
        have hL1 := sName_le (q_M_atomic_87 bi d a b f x1 (q_M_atomic_23 bi d a b f x1) (u_M_atomic_49 bi d a b f x1) (u_M_atomic_76 bi d a b f x1)) st
        refine lv_aload_n hx hb d_M_atomic_113 rfl (lv_at hl 3 rfl) ?_
        refine lv_iconst (v := 0) hx hb d_M_atomic_114 (by decide) ?_
        obtain ⟨rg, ft, h1, h2, hP⟩ := hw
        have hD := wM_D ap hA (cI := cI) (cC := cC) (th := th) (yb := yb) (bi := bi) (d := d) (a := a) (b := b) (f := f) (op := (sName (q_M_atomic_87 bi d a b f x1 (q_M_atomic_23 bi d a b f x1) (u_M_atomic_49 bi d a b f x1) (u_M_atomic_76 bi d a b f x1)) st).1) (ln := (sName (q_M_atomic_87 bi d a b f x1 (q_M_atomic_23 bi d a b f x1) (u_M_atomic_49 bi d a b f x1) (u_M_atomic_76 bi d a b f x1)) st).2.1) (sz := nI (sName (q_M_atomic_87 bi d a b f x1 (q_M_atomic_23 bi d a b f x1) (u_M_atomic_49 bi d a b f x1) (u_M_atomic_76 bi d a b f x1)) st).2.2.length) (str := str) (rg := rg) (ft := ft) (fk := fk)
        refine va_put (D := (dC, dI)) (ci := 2) (v := .int 0) (ty := .int) (C := R_M) (T := F_M) (N := 14) hx hb hT i_M ft_M ft_M_ok n_M hown hK hP hD hS 0 rfl rfl 4 (by decide) (hT _ m_757) (fun _ h9 => h9) rfl (by decide +kernel) rfl rfl (Nat.le_of_ble_eq_true rfl) d_M_atomic_115 (fun H locs hP hD hS => ?_)
        have hL2 : (((0 : Int32), (sName (q_M_atomic_87 bi d a b f x1 (q_M_atomic_23 bi d a b f x1) (u_M_atomic_49 bi d a b f x1) (u_M_atomic_76 bi d a b f x1)) st).2) : MT).2.2.length = (sName (q_M_atomic_87 bi d a b f x1 (q_M_atomic_23 bi d a b f x1) (u_M_atomic_49 bi d a b f x1) (u_M_atomic_76 bi d a b f x1)) st).2.2.length := rfl
        have hw : mwd dC dI cI cC m0 mt ms mr mk th yb bi d a b f str fk ((0 : Int32), (sName (q_M_atomic_87 bi d a b f x1 (q_M_atomic_23 bi d a b f x1) (u_M_atomic_49 bi d a b f x1) (u_M_atomic_76 bi d a b f x1)) st).2) H := ⟨rg, ft, h1, h2, hP⟩
        refine lv_iload_n hx hb d_M_atomic_118 rfl (lv_at hl 4 rfl) ?_
        refine lv_iconst (v := 2) hx hb d_M_atomic_119 (by decide) ?_
        refine lv_icmp_eq (tgt := 226) hx hb d_M_atomic_120 (by decide) (fun c_4 => ?_) (fun c_4 => ?_)
        · refine lv_aload_n hx hb d_M_atomic_226 rfl (lv_at hl 3 rfl) ?_
          refine lv_ldc2 (v := 30510) hx hb hown (hT _ m_942) d_M_atomic_227 ?_
          refine call_M_say S inC m_837 ⟨(Nat.le_of_ble_eq_true rfl), (Nat.le_of_ble_eq_true rfl)⟩ hl.1 (Nat.le_of_ble_eq_true rfl) d_M_atomic_230 ⟨(Nat.le_of_ble_eq_true rfl), (Nat.le_of_ble_eq_true rfl)⟩ hK ap ok hS hA hw (by omega) (fun H locs hw hS _ => ?_)
          have hL3 := sSay_le 30510 ((0 : Int32), (sName (q_M_atomic_87 bi d a b f x1 (q_M_atomic_23 bi d a b f x1) (u_M_atomic_49 bi d a b f x1) (u_M_atomic_76 bi d a b f x1)) st).2)
          refine lv_aload_n hx hb d_M_atomic_233 rfl (lv_at hl 3 rfl) ?_
          refine lv_bipush (v := 25) hx hb d_M_atomic_234 (by decide) ?_
          refine lv_iconst (v := 2) hx hb d_M_atomic_236 (by decide) ?_
          refine call_M_part S inC m_809 ⟨(Nat.le_of_ble_eq_true rfl), (Nat.le_of_ble_eq_true rfl)⟩ hl.1 (Nat.le_of_ble_eq_true rfl) d_M_atomic_237 ⟨(Nat.le_of_ble_eq_true rfl), (Nat.le_of_ble_eq_true rfl)⟩ hK hw ?_
          refine lv_if_eq (tgt := 284) hx hb d_M_atomic_240 (by decide) (fun c_5 => ?_) (fun c_5 => ?_)
          · refine lv_aload_n hx hb d_M_atomic_284 rfl (lv_at hl 3 rfl) ?_
            refine lv_aload_n hx hb d_M_atomic_285 rfl (lv_at hl 3 rfl) ?_
            obtain ⟨rg, ft, h1, h2, hP⟩ := id hw
            refine va_get (D := (dC, dI)) (ci := 2) (v := .int d) (C := R_M) (T := F_M) (N := 14) hx hb hT i_M hown hK hP 0 rfl rfl 8 (by decide) (hT _ m_761) (fun _ h9 => h9) rfl d_M_atomic_286 ?_
            refine call_M_register S inC m_846 ⟨(Nat.le_of_ble_eq_true rfl), (Nat.le_of_ble_eq_true rfl)⟩ hl.1 (Nat.le_of_ble_eq_true rfl) d_M_atomic_289 ⟨(Nat.le_of_ble_eq_true rfl), (Nat.le_of_ble_eq_true rfl)⟩ hK ap ok hS hA hw ok.1 (by omega) (fun H locs hw hS _ => ?_)
            have hL4 := sReg_le d (sSay 30510 ((0 : Int32), (sName (q_M_atomic_87 bi d a b f x1 (q_M_atomic_23 bi d a b f x1) (u_M_atomic_49 bi d a b f x1) (u_M_atomic_76 bi d a b f x1)) st).2))
            refine lv_iload_n hx hb d_M_atomic_292 rfl (lv_at hl 4 rfl) ?_
            refine lv_iconst (v := 2) hx hb d_M_atomic_293 (by decide) ?_
            refine lv_icmp_eq (tgt := 305) hx hb d_M_atomic_294 (by decide) (fun c_6 => ?_) (fun c_6 => ?_)
            · refine lv_aload_n hx hb d_M_atomic_305 rfl (lv_at hl 3 rfl) ?_
              refine call_M_next S inC m_850 ⟨(Nat.le_of_ble_eq_true rfl), (Nat.le_of_ble_eq_true rfl)⟩ hl.1 (Nat.le_of_ble_eq_true rfl) d_M_atomic_306 ⟨(Nat.le_of_ble_eq_true rfl), (Nat.le_of_ble_eq_true rfl)⟩ hK ap ok hS hA hw (by omega) (fun H locs hw hS _ => ?_)
              have hL5 := sNext_le (sReg d (sSay 30510 ((0 : Int32), (sName (q_M_atomic_87 bi d a b f x1 (q_M_atomic_23 bi d a b f x1) (u_M_atomic_49 bi d a b f x1) (u_M_atomic_76 bi d a b f x1)) st).2)))
              refine lv_aload_n hx hb d_M_atomic_309 rfl (lv_at hl 3 rfl) ?_
              refine lv_aload_n hx hb d_M_atomic_310 rfl (lv_at hl 3 rfl) ?_
              obtain ⟨rg, ft, h1, h2, hP⟩ := id hw
              refine va_get (D := (dC, dI)) (ci := 2) (v := .int a) (C := R_M) (T := F_M) (N := 14) hx hb hT i_M hown hK hP 0 rfl rfl 9 (by decide) (hT _ m_762) (fun _ h9 => h9) rfl d_M_atomic_311 ?_
              refine call_M_bracket S inC m_905 ⟨(Nat.le_of_ble_eq_true rfl), (Nat.le_of_ble_eq_true rfl)⟩ hl.1 (Nat.le_of_ble_eq_true rfl) d_M_atomic_314 ⟨(Nat.le_of_ble_eq_true rfl), (Nat.le_of_ble_eq_true rfl)⟩ hK ap ok hS hA hw ok.2.1 (by omega) (fun H locs hw hS _ => ?_)
              have hL6 := sBra_le a (sNext (sReg d (sSay 30510 ((0 : Int32), (sName (q_M_atomic_87 bi d a b f x1 (q_M_atomic_23 bi d a b f x1) (u_M_atomic_49 bi d a b f x1) (u_M_atomic_76 bi d a b f x1)) st).2))))
              exact W.vret hx hb hr (fun t ht hW => ⟨⟨(), rfl, trivial, mwd_at ht (mwd_eq (by rw [g_M_atomic, if_pos c_1, if_neg c_2, if_neg c_3, if_pos c_4, if_pos c_5, if_pos c_6]) hw)⟩, hS.F ht⟩) hS.2.2 d_M_atomic_317
            · refine lv_aload_n hx hb d_M_atomic_297 rfl (lv_at hl 3 rfl) ?_
              refine lv_aload_n hx hb d_M_atomic_298 rfl (lv_at hl 3 rfl) ?_
              obtain ⟨rg, ft, h1, h2, hP⟩ := id hw
              refine va_get (D := (dC, dI)) (ci := 2) (v := .int b) (C := R_M) (T := F_M) (N := 14) hx hb hT i_M hown hK hP 0 rfl rfl 10 (by decide) (hT _ m_763) (fun _ h9 => h9) rfl d_M_atomic_299 ?_
              refine call_M_register S inC m_846 ⟨(Nat.le_of_ble_eq_true rfl), (Nat.le_of_ble_eq_true rfl)⟩ hl.1 (Nat.le_of_ble_eq_true rfl) d_M_atomic_302 ⟨(Nat.le_of_ble_eq_true rfl), (Nat.le_of_ble_eq_true rfl)⟩ hK ap ok hS hA hw ok.2.2 (by omega) (fun H locs hw hS _ => ?_)
              have hL7 := sReg_le b (sReg d (sSay 30510 ((0 : Int32), (sName (q_M_atomic_87 bi d a b f x1 (q_M_atomic_23 bi d a b f x1) (u_M_atomic_49 bi d a b f x1) (u_M_atomic_76 bi d a b f x1)) st).2)))
              refine lv_aload_n hx hb d_M_atomic_305 rfl (lv_at hl 3 rfl) ?_
              refine call_M_next S inC m_850 ⟨(Nat.le_of_ble_eq_true rfl), (Nat.le_of_ble_eq_true rfl)⟩ hl.1 (Nat.le_of_ble_eq_true rfl) d_M_atomic_306 ⟨(Nat.le_of_ble_eq_true rfl), (Nat.le_of_ble_eq_true rfl)⟩ hK ap ok hS hA hw (by omega) (fun H locs hw hS _ => ?_)
              have hL8 := sNext_le (sReg b (sReg d (sSay 30510 ((0 : Int32), (sName (q_M_atomic_87 bi d a b f x1 (q_M_atomic_23 bi d a b f x1) (u_M_atomic_49 bi d a b f x1) (u_M_atomic_76 bi d a b f x1)) st).2))))
              refine lv_aload_n hx hb d_M_atomic_309 rfl (lv_at hl 3 rfl) ?_
              refine lv_aload_n hx hb d_M_atomic_310 rfl (lv_at hl 3 rfl) ?_
              obtain ⟨rg, ft, h1, h2, hP⟩ := id hw
              refine va_get (D := (dC, dI)) (ci := 2) (v := .int a) (C := R_M) (T := F_M) (N := 14) hx hb hT i_M hown hK hP 0 rfl rfl 9 (by decide) (hT _ m_762) (fun _ h9 => h9) rfl d_M_atomic_311 ?_
              refine call_M_bracket S inC m_905 ⟨(Nat.le_of_ble_eq_true rfl), (Nat.le_of_ble_eq_true rfl)⟩ hl.1 (Nat.le_of_ble_eq_true rfl) d_M_atomic_314 ⟨(Nat.le_of_ble_eq_true rfl), (Nat.le_of_ble_eq_true rfl)⟩ hK ap ok hS hA hw ok.2.1 (by omega) (fun H locs hw hS _ => ?_)
              have hL9 := sBra_le a (sNext (sReg b (sReg d (sSay 30510 ((0 : Int32), (sName (q_M_atomic_87 bi d a b f x1 (q_M_atomic_23 bi d a b f x1) (u_M_atomic_49 bi d a b f x1) (u_M_atomic_76 bi d a b f x1)) st).2)))))
              exact W.vret hx hb hr (fun t ht hW => ⟨⟨(), rfl, trivial, mwd_at ht (mwd_eq (by rw [g_M_atomic, if_pos c_1, if_neg c_2, if_neg c_3, if_pos c_4, if_pos c_5, if_neg c_6]) hw)⟩, hS.F ht⟩) hS.2.2 d_M_atomic_317
          · refine lv_aload_n hx hb d_M_atomic_243 rfl (lv_at hl 3 rfl) ?_
            refine lv_aload_n hx hb d_M_atomic_244 rfl (lv_at hl 3 rfl) ?_
            refine lv_bipush (v := 25) hx hb d_M_atomic_245 (by decide) ?_
            refine lv_iconst (v := 2) hx hb d_M_atomic_247 (by decide) ?_
            refine call_M_part S inC m_809 ⟨(Nat.le_of_ble_eq_true rfl), (Nat.le_of_ble_eq_true rfl)⟩ hl.1 (Nat.le_of_ble_eq_true rfl) d_M_atomic_248 ⟨(Nat.le_of_ble_eq_true rfl), (Nat.le_of_ble_eq_true rfl)⟩ hK hw ?_
            refine lv_iconst (v := 1) hx hb d_M_atomic_251 (by decide) ?_
            refine rg_M_atomic_252 S inC hT (Nat.le_of_ble_eq_true rfl) (Nat.le_of_ble_eq_true rfl) ⟨(Nat.le_of_ble_eq_true rfl), (Nat.le_of_ble_eq_true rfl)⟩ hK hw hl ?_
            refine call_M_say S inC m_837 ⟨(Nat.le_of_ble_eq_true rfl), (Nat.le_of_ble_eq_true rfl)⟩ hl.1 (Nat.le_of_ble_eq_true rfl) d_M_atomic_281 ⟨(Nat.le_of_ble_eq_true rfl), (Nat.le_of_ble_eq_true rfl)⟩ hK ap ok hS hA hw (by omega) (fun H locs hw hS _ => ?_)
            have hL10 := sSay_le (q_M_atomic_252 bi d a b f x1 (q_M_atomic_23 bi d a b f x1) (u_M_atomic_49 bi d a b f x1) (u_M_atomic_76 bi d a b f x1)) (sSay 30510 ((0 : Int32), (sName (q_M_atomic_87 bi d a b f x1 (q_M_atomic_23 bi d a b f x1) (u_M_atomic_49 bi d a b f x1) (u_M_atomic_76 bi d a b f x1)) st).2))
            refine lv_aload_n hx hb d_M_atomic_284 rfl (lv_at hl 3 rfl) ?_
            refine lv_aload_n hx hb d_M_atomic_285 rfl (lv_at hl 3 rfl) ?_
            obtain ⟨rg, ft, h1, h2, hP⟩ := id hw
            refine va_get (D := (dC, dI)) (ci := 2) (v := .int d) (C := R_M) (T := F_M) (N := 14) hx hb hT i_M hown hK hP 0 rfl rfl 8 (by decide) (hT _ m_761) (fun _ h9 => h9) rfl d_M_atomic_286 ?_
            refine call_M_register S inC m_846 ⟨(Nat.le_of_ble_eq_true rfl), (Nat.le_of_ble_eq_true rfl)⟩ hl.1 (Nat.le_of_ble_eq_true rfl) d_M_atomic_289 ⟨(Nat.le_of_ble_eq_true rfl), (Nat.le_of_ble_eq_true rfl)⟩ hK ap ok hS hA hw ok.1 (by omega) (fun H locs hw hS _ => ?_)
            have hL11 := sReg_le d (sSay (q_M_atomic_252 bi d a b f x1 (q_M_atomic_23 bi d a b f x1) (u_M_atomic_49 bi d a b f x1) (u_M_atomic_76 bi d a b f x1)) (sSay 30510 ((0 : Int32), (sName (q_M_atomic_87 bi d a b f x1 (q_M_atomic_23 bi d a b f x1) (u_M_atomic_49 bi d a b f x1) (u_M_atomic_76 bi d a b f x1)) st).2)))
            refine lv_iload_n hx hb d_M_atomic_292 rfl (lv_at hl 4 rfl) ?_
            refine lv_iconst (v := 2) hx hb d_M_atomic_293 (by decide) ?_
            refine lv_icmp_eq (tgt := 305) hx hb d_M_atomic_294 (by decide) (fun c_7 => ?_) (fun c_7 => ?_)
            · refine lv_aload_n hx hb d_M_atomic_305 rfl (lv_at hl 3 rfl) ?_
              refine call_M_next S inC m_850 ⟨(Nat.le_of_ble_eq_true rfl), (Nat.le_of_ble_eq_true rfl)⟩ hl.1 (Nat.le_of_ble_eq_true rfl) d_M_atomic_306 ⟨(Nat.le_of_ble_eq_true rfl), (Nat.le_of_ble_eq_true rfl)⟩ hK ap ok hS hA hw (by omega) (fun H locs hw hS _ => ?_)
              have hL12 := sNext_le (sReg d (sSay (q_M_atomic_252 bi d a b f x1 (q_M_atomic_23 bi d a b f x1) (u_M_atomic_49 bi d a b f x1) (u_M_atomic_76 bi d a b f x1)) (sSay 30510 ((0 : Int32), (sName (q_M_atomic_87 bi d a b f x1 (q_M_atomic_23 bi d a b f x1) (u_M_atomic_49 bi d a b f x1) (u_M_atomic_76 bi d a b f x1)) st).2))))
              refine lv_aload_n hx hb d_M_atomic_309 rfl (lv_at hl 3 rfl) ?_
              refine lv_aload_n hx hb d_M_atomic_310 rfl (lv_at hl 3 rfl) ?_
              obtain ⟨rg, ft, h1, h2, hP⟩ := id hw
              refine va_get (D := (dC, dI)) (ci := 2) (v := .int a) (C := R_M) (T := F_M) (N := 14) hx hb hT i_M hown hK hP 0 rfl rfl 9 (by decide) (hT _ m_762) (fun _ h9 => h9) rfl d_M_atomic_311 ?_
              refine call_M_bracket S inC m_905 ⟨(Nat.le_of_ble_eq_true rfl), (Nat.le_of_ble_eq_true rfl)⟩ hl.1 (Nat.le_of_ble_eq_true rfl) d_M_atomic_314 ⟨(Nat.le_of_ble_eq_true rfl), (Nat.le_of_ble_eq_true rfl)⟩ hK ap ok hS hA hw ok.2.1 (by omega) (fun H locs hw hS _ => ?_)
              have hL13 := sBra_le a (sNext (sReg d (sSay (q_M_atomic_252 bi d a b f x1 (q_M_atomic_23 bi d a b f x1) (u_M_atomic_49 bi d a b f x1) (u_M_atomic_76 bi d a b f x1)) (sSay 30510 ((0 : Int32), (sName (q_M_atomic_87 bi d a b f x1 (q_M_atomic_23 bi d a b f x1) (u_M_atomic_49 bi d a b f x1) (u_M_atomic_76 bi d a b f x1)) st).2)))))
              exact W.vret hx hb hr (fun t ht hW => ⟨⟨(), rfl, trivial, mwd_at ht (mwd_eq (by rw [g_M_atomic, if_pos c_1, if_neg c_2, if_neg c_3, if_pos c_4, if_neg c_5, if_pos c_7]) hw)⟩, hS.F ht⟩) hS.2.2 d_M_atomic_317
            · refine lv_aload_n hx hb d_M_atomic_297 rfl (lv_at hl 3 rfl) ?_
              refine lv_aload_n hx hb d_M_atomic_298 rfl (lv_at hl 3 rfl) ?_
              obtain ⟨rg, ft, h1, h2, hP⟩ := id hw
              refine va_get (D := (dC, dI)) (ci := 2) (v := .int b) (C := R_M) (T := F_M) (N := 14) hx hb hT i_M hown hK hP 0 rfl rfl 10 (by decide) (hT _ m_763) (fun _ h9 => h9) rfl d_M_atomic_299 ?_
              refine call_M_register S inC m_846 ⟨(Nat.le_of_ble_eq_true rfl), (Nat.le_of_ble_eq_true rfl)⟩ hl.1 (Nat.le_of_ble_eq_true rfl) d_M_atomic_302 ⟨(Nat.le_of_ble_eq_true rfl), (Nat.le_of_ble_eq_true rfl)⟩ hK ap ok hS hA hw ok.2.2 (by omega) (fun H locs hw hS _ => ?_)
              have hL14 := sReg_le b (sReg d (sSay (q_M_atomic_252 bi d a b f x1 (q_M_atomic_23 bi d a b f x1) (u_M_atomic_49 bi d a b f x1) (u_M_atomic_76 bi d a b f x1)) (sSay 30510 ((0 : Int32), (sName (q_M_atomic_87 bi d a b f x1 (q_M_atomic_23 bi d a b f x1) (u_M_atomic_49 bi d a b f x1) (u_M_atomic_76 bi d a b f x1)) st).2))))
              refine lv_aload_n hx hb d_M_atomic_305 rfl (lv_at hl 3 rfl) ?_
              refine call_M_next S inC m_850 ⟨(Nat.le_of_ble_eq_true rfl), (Nat.le_of_ble_eq_true rfl)⟩ hl.1 (Nat.le_of_ble_eq_true rfl) d_M_atomic_306 ⟨(Nat.le_of_ble_eq_true rfl), (Nat.le_of_ble_eq_true rfl)⟩ hK ap ok hS hA hw (by omega) (fun H locs hw hS _ => ?_)
              have hL15 := sNext_le (sReg b (sReg d (sSay (q_M_atomic_252 bi d a b f x1 (q_M_atomic_23 bi d a b f x1) (u_M_atomic_49 bi d a b f x1) (u_M_atomic_76 bi d a b f x1)) (sSay 30510 ((0 : Int32), (sName (q_M_atomic_87 bi d a b f x1 (q_M_atomic_23 bi d a b f x1) (u_M_atomic_49 bi d a b f x1) (u_M_atomic_76 bi d a b f x1)) st).2)))))
              refine lv_aload_n hx hb d_M_atomic_309 rfl (lv_at hl 3 rfl) ?_
              refine lv_aload_n hx hb d_M_atomic_310 rfl (lv_at hl 3 rfl) ?_
              obtain ⟨rg, ft, h1, h2, hP⟩ := id hw
              refine va_get (D := (dC, dI)) (ci := 2) (v := .int a) (C := R_M) (T := F_M) (N := 14) hx hb hT i_M hown hK hP 0 rfl rfl 9 (by decide) (hT _ m_762) (fun _ h9 => h9) rfl d_M_atomic_311 ?_
              refine call_M_bracket S inC m_905 ⟨(Nat.le_of_ble_eq_true rfl), (Nat.le_of_ble_eq_true rfl)⟩ hl.1 (Nat.le_of_ble_eq_true rfl) d_M_atomic_314 ⟨(Nat.le_of_ble_eq_true rfl), (Nat.le_of_ble_eq_true rfl)⟩ hK ap ok hS hA hw ok.2.1 (by omega) (fun H locs hw hS _ => ?_)
              have hL16 := sBra_le a (sNext (sReg b (sReg d (sSay (q_M_atomic_252 bi d a b f x1 (q_M_atomic_23 bi d a b f x1) (u_M_atomic_49 bi d a b f x1) (u_M_atomic_76 bi d a b f x1)) (sSay 30510 ((0 : Int32), (sName (q_M_atomic_87 bi d a b f x1 (q_M_atomic_23 bi d a b f x1) (u_M_atomic_49 bi d a b f x1) (u_M_atomic_76 bi d a b f x1)) st).2))))))
              exact W.vret hx hb hr (fun t ht hW => ⟨⟨(), rfl, trivial, mwd_at ht (mwd_eq (by rw [g_M_atomic, if_pos c_1, if_neg c_2, if_neg c_3, if_pos c_4, if_neg c_5, if_neg c_7]) hw)⟩, hS.F ht⟩) hS.2.2 d_M_atomic_317
        · refine lv_iload_n hx hb d_M_atomic_123 rfl (lv_at hl 4 rfl) ?_
          refine lv_iconst (v := 3) hx hb d_M_atomic_124 (by decide) ?_
          refine lv_icmp_eq (tgt := 226) hx hb d_M_atomic_125 (by decide) (fun c_8 => ?_) (fun c_8 => ?_)
          · refine lv_aload_n hx hb d_M_atomic_226 rfl (lv_at hl 3 rfl) ?_
            refine lv_ldc2 (v := 30510) hx hb hown (hT _ m_942) d_M_atomic_227 ?_
            refine call_M_say S inC m_837 ⟨(Nat.le_of_ble_eq_true rfl), (Nat.le_of_ble_eq_true rfl)⟩ hl.1 (Nat.le_of_ble_eq_true rfl) d_M_atomic_230 ⟨(Nat.le_of_ble_eq_true rfl), (Nat.le_of_ble_eq_true rfl)⟩ hK ap ok hS hA hw (by omega) (fun H locs hw hS _ => ?_)
            have hL17 := sSay_le 30510 ((0 : Int32), (sName (q_M_atomic_87 bi d a b f x1 (q_M_atomic_23 bi d a b f x1) (u_M_atomic_49 bi d a b f x1) (u_M_atomic_76 bi d a b f x1)) st).2)
            refine lv_aload_n hx hb d_M_atomic_233 rfl (lv_at hl 3 rfl) ?_
            refine lv_bipush (v := 25) hx hb d_M_atomic_234 (by decide) ?_
            refine lv_iconst (v := 2) hx hb d_M_atomic_236 (by decide) ?_
            refine call_M_part S inC m_809 ⟨(Nat.le_of_ble_eq_true rfl), (Nat.le_of_ble_eq_true rfl)⟩ hl.1 (Nat.le_of_ble_eq_true rfl) d_M_atomic_237 ⟨(Nat.le_of_ble_eq_true rfl), (Nat.le_of_ble_eq_true rfl)⟩ hK hw ?_
            refine lv_if_eq (tgt := 284) hx hb d_M_atomic_240 (by decide) (fun c_9 => ?_) (fun c_9 => ?_)
            · refine lv_aload_n hx hb d_M_atomic_284 rfl (lv_at hl 3 rfl) ?_
              refine lv_aload_n hx hb d_M_atomic_285 rfl (lv_at hl 3 rfl) ?_
              obtain ⟨rg, ft, h1, h2, hP⟩ := id hw
              refine va_get (D := (dC, dI)) (ci := 2) (v := .int d) (C := R_M) (T := F_M) (N := 14) hx hb hT i_M hown hK hP 0 rfl rfl 8 (by decide) (hT _ m_761) (fun _ h9 => h9) rfl d_M_atomic_286 ?_
              refine call_M_register S inC m_846 ⟨(Nat.le_of_ble_eq_true rfl), (Nat.le_of_ble_eq_true rfl)⟩ hl.1 (Nat.le_of_ble_eq_true rfl) d_M_atomic_289 ⟨(Nat.le_of_ble_eq_true rfl), (Nat.le_of_ble_eq_true rfl)⟩ hK ap ok hS hA hw ok.1 (by omega) (fun H locs hw hS _ => ?_)
              have hL18 := sReg_le d (sSay 30510 ((0 : Int32), (sName (q_M_atomic_87 bi d a b f x1 (q_M_atomic_23 bi d a b f x1) (u_M_atomic_49 bi d a b f x1) (u_M_atomic_76 bi d a b f x1)) st).2))
              refine lv_iload_n hx hb d_M_atomic_292 rfl (lv_at hl 4 rfl) ?_
              refine lv_iconst (v := 2) hx hb d_M_atomic_293 (by decide) ?_
              refine lv_icmp_eq (tgt := 305) hx hb d_M_atomic_294 (by decide) (fun c_10 => ?_) (fun c_10 => ?_)
              · refine lv_aload_n hx hb d_M_atomic_305 rfl (lv_at hl 3 rfl) ?_
                refine call_M_next S inC m_850 ⟨(Nat.le_of_ble_eq_true rfl), (Nat.le_of_ble_eq_true rfl)⟩ hl.1 (Nat.le_of_ble_eq_true rfl) d_M_atomic_306 ⟨(Nat.le_of_ble_eq_true rfl), (Nat.le_of_ble_eq_true rfl)⟩ hK ap ok hS hA hw (by omega) (fun H locs hw hS _ => ?_)
                have hL19 := sNext_le (sReg d (sSay 30510 ((0 : Int32), (sName (q_M_atomic_87 bi d a b f x1 (q_M_atomic_23 bi d a b f x1) (u_M_atomic_49 bi d a b f x1) (u_M_atomic_76 bi d a b f x1)) st).2)))
                refine lv_aload_n hx hb d_M_atomic_309 rfl (lv_at hl 3 rfl) ?_
                refine lv_aload_n hx hb d_M_atomic_310 rfl (lv_at hl 3 rfl) ?_
                obtain ⟨rg, ft, h1, h2, hP⟩ := id hw
                refine va_get (D := (dC, dI)) (ci := 2) (v := .int a) (C := R_M) (T := F_M) (N := 14) hx hb hT i_M hown hK hP 0 rfl rfl 9 (by decide) (hT _ m_762) (fun _ h9 => h9) rfl d_M_atomic_311 ?_
                refine call_M_bracket S inC m_905 ⟨(Nat.le_of_ble_eq_true rfl), (Nat.le_of_ble_eq_true rfl)⟩ hl.1 (Nat.le_of_ble_eq_true rfl) d_M_atomic_314 ⟨(Nat.le_of_ble_eq_true rfl), (Nat.le_of_ble_eq_true rfl)⟩ hK ap ok hS hA hw ok.2.1 (by omega) (fun H locs hw hS _ => ?_)
                have hL20 := sBra_le a (sNext (sReg d (sSay 30510 ((0 : Int32), (sName (q_M_atomic_87 bi d a b f x1 (q_M_atomic_23 bi d a b f x1) (u_M_atomic_49 bi d a b f x1) (u_M_atomic_76 bi d a b f x1)) st).2))))
                exact W.vret hx hb hr (fun t ht hW => ⟨⟨(), rfl, trivial, mwd_at ht (mwd_eq (by rw [g_M_atomic, if_pos c_1, if_neg c_2, if_neg c_3, if_neg c_4, if_pos c_8, if_pos c_9, if_pos c_10]) hw)⟩, hS.F ht⟩) hS.2.2 d_M_atomic_317
              · refine lv_aload_n hx hb d_M_atomic_297 rfl (lv_at hl 3 rfl) ?_
                refine lv_aload_n hx hb d_M_atomic_298 rfl (lv_at hl 3 rfl) ?_
                obtain ⟨rg, ft, h1, h2, hP⟩ := id hw
                refine va_get (D := (dC, dI)) (ci := 2) (v := .int b) (C := R_M) (T := F_M) (N := 14) hx hb hT i_M hown hK hP 0 rfl rfl 10 (by decide) (hT _ m_763) (fun _ h9 => h9) rfl d_M_atomic_299 ?_
                refine call_M_register S inC m_846 ⟨(Nat.le_of_ble_eq_true rfl), (Nat.le_of_ble_eq_true rfl)⟩ hl.1 (Nat.le_of_ble_eq_true rfl) d_M_atomic_302 ⟨(Nat.le_of_ble_eq_true rfl), (Nat.le_of_ble_eq_true rfl)⟩ hK ap ok hS hA hw ok.2.2 (by omega) (fun H locs hw hS _ => ?_)
                have hL21 := sReg_le b (sReg d (sSay 30510 ((0 : Int32), (sName (q_M_atomic_87 bi d a b f x1 (q_M_atomic_23 bi d a b f x1) (u_M_atomic_49 bi d a b f x1) (u_M_atomic_76 bi d a b f x1)) st).2)))
                refine lv_aload_n hx hb d_M_atomic_305 rfl (lv_at hl 3 rfl) ?_
                refine call_M_next S inC m_850 ⟨(Nat.le_of_ble_eq_true rfl), (Nat.le_of_ble_eq_true rfl)⟩ hl.1 (Nat.le_of_ble_eq_true rfl) d_M_atomic_306 ⟨(Nat.le_of_ble_eq_true rfl), (Nat.le_of_ble_eq_true rfl)⟩ hK ap ok hS hA hw (by omega) (fun H locs hw hS _ => ?_)
                have hL22 := sNext_le (sReg b (sReg d (sSay 30510 ((0 : Int32), (sName (q_M_atomic_87 bi d a b f x1 (q_M_atomic_23 bi d a b f x1) (u_M_atomic_49 bi d a b f x1) (u_M_atomic_76 bi d a b f x1)) st).2))))
                refine lv_aload_n hx hb d_M_atomic_309 rfl (lv_at hl 3 rfl) ?_
                refine lv_aload_n hx hb d_M_atomic_310 rfl (lv_at hl 3 rfl) ?_
                obtain ⟨rg, ft, h1, h2, hP⟩ := id hw
                refine va_get (D := (dC, dI)) (ci := 2) (v := .int a) (C := R_M) (T := F_M) (N := 14) hx hb hT i_M hown hK hP 0 rfl rfl 9 (by decide) (hT _ m_762) (fun _ h9 => h9) rfl d_M_atomic_311 ?_
                refine call_M_bracket S inC m_905 ⟨(Nat.le_of_ble_eq_true rfl), (Nat.le_of_ble_eq_true rfl)⟩ hl.1 (Nat.le_of_ble_eq_true rfl) d_M_atomic_314 ⟨(Nat.le_of_ble_eq_true rfl), (Nat.le_of_ble_eq_true rfl)⟩ hK ap ok hS hA hw ok.2.1 (by omega) (fun H locs hw hS _ => ?_)
                have hL23 := sBra_le a (sNext (sReg b (sReg d (sSay 30510 ((0 : Int32), (sName (q_M_atomic_87 bi d a b f x1 (q_M_atomic_23 bi d a b f x1) (u_M_atomic_49 bi d a b f x1) (u_M_atomic_76 bi d a b f x1)) st).2)))))
                exact W.vret hx hb hr (fun t ht hW => ⟨⟨(), rfl, trivial, mwd_at ht (mwd_eq (by rw [g_M_atomic, if_pos c_1, if_neg c_2, if_neg c_3, if_neg c_4, if_pos c_8, if_pos c_9, if_neg c_10]) hw)⟩, hS.F ht⟩) hS.2.2 d_M_atomic_317
            · refine lv_aload_n hx hb d_M_atomic_243 rfl (lv_at hl 3 rfl) ?_
              refine lv_aload_n hx hb d_M_atomic_244 rfl (lv_at hl 3 rfl) ?_
              refine lv_bipush (v := 25) hx hb d_M_atomic_245 (by decide) ?_
              refine lv_iconst (v := 2) hx hb d_M_atomic_247 (by decide) ?_
              refine call_M_part S inC m_809 ⟨(Nat.le_of_ble_eq_true rfl), (Nat.le_of_ble_eq_true rfl)⟩ hl.1 (Nat.le_of_ble_eq_true rfl) d_M_atomic_248 ⟨(Nat.le_of_ble_eq_true rfl), (Nat.le_of_ble_eq_true rfl)⟩ hK hw ?_
              refine lv_iconst (v := 1) hx hb d_M_atomic_251 (by decide) ?_
              refine rg_M_atomic_252 S inC hT (Nat.le_of_ble_eq_true rfl) (Nat.le_of_ble_eq_true rfl) ⟨(Nat.le_of_ble_eq_true rfl), (Nat.le_of_ble_eq_true rfl)⟩ hK hw hl ?_
              refine call_M_say S inC m_837 ⟨(Nat.le_of_ble_eq_true rfl), (Nat.le_of_ble_eq_true rfl)⟩ hl.1 (Nat.le_of_ble_eq_true rfl) d_M_atomic_281 ⟨(Nat.le_of_ble_eq_true rfl), (Nat.le_of_ble_eq_true rfl)⟩ hK ap ok hS hA hw (by omega) (fun H locs hw hS _ => ?_)
              have hL24 := sSay_le (q_M_atomic_252 bi d a b f x1 (q_M_atomic_23 bi d a b f x1) (u_M_atomic_49 bi d a b f x1) (u_M_atomic_76 bi d a b f x1)) (sSay 30510 ((0 : Int32), (sName (q_M_atomic_87 bi d a b f x1 (q_M_atomic_23 bi d a b f x1) (u_M_atomic_49 bi d a b f x1) (u_M_atomic_76 bi d a b f x1)) st).2))
              refine lv_aload_n hx hb d_M_atomic_284 rfl (lv_at hl 3 rfl) ?_
              refine lv_aload_n hx hb d_M_atomic_285 rfl (lv_at hl 3 rfl) ?_
              obtain ⟨rg, ft, h1, h2, hP⟩ := id hw
              refine va_get (D := (dC, dI)) (ci := 2) (v := .int d) (C := R_M) (T := F_M) (N := 14) hx hb hT i_M hown hK hP 0 rfl rfl 8 (by decide) (hT _ m_761) (fun _ h9 => h9) rfl d_M_atomic_286 ?_
              refine call_M_register S inC m_846 ⟨(Nat.le_of_ble_eq_true rfl), (Nat.le_of_ble_eq_true rfl)⟩ hl.1 (Nat.le_of_ble_eq_true rfl) d_M_atomic_289 ⟨(Nat.le_of_ble_eq_true rfl), (Nat.le_of_ble_eq_true rfl)⟩ hK ap ok hS hA hw ok.1 (by omega) (fun H locs hw hS _ => ?_)
              have hL25 := sReg_le d (sSay (q_M_atomic_252 bi d a b f x1 (q_M_atomic_23 bi d a b f x1) (u_M_atomic_49 bi d a b f x1) (u_M_atomic_76 bi d a b f x1)) (sSay 30510 ((0 : Int32), (sName (q_M_atomic_87 bi d a b f x1 (q_M_atomic_23 bi d a b f x1) (u_M_atomic_49 bi d a b f x1) (u_M_atomic_76 bi d a b f x1)) st).2)))
              refine lv_iload_n hx hb d_M_atomic_292 rfl (lv_at hl 4 rfl) ?_
              refine lv_iconst (v := 2) hx hb d_M_atomic_293 (by decide) ?_
              refine lv_icmp_eq (tgt := 305) hx hb d_M_atomic_294 (by decide) (fun c_11 => ?_) (fun c_11 => ?_)
              · refine lv_aload_n hx hb d_M_atomic_305 rfl (lv_at hl 3 rfl) ?_
                refine call_M_next S inC m_850 ⟨(Nat.le_of_ble_eq_true rfl), (Nat.le_of_ble_eq_true rfl)⟩ hl.1 (Nat.le_of_ble_eq_true rfl) d_M_atomic_306 ⟨(Nat.le_of_ble_eq_true rfl), (Nat.le_of_ble_eq_true rfl)⟩ hK ap ok hS hA hw (by omega) (fun H locs hw hS _ => ?_)
                have hL26 := sNext_le (sReg d (sSay (q_M_atomic_252 bi d a b f x1 (q_M_atomic_23 bi d a b f x1) (u_M_atomic_49 bi d a b f x1) (u_M_atomic_76 bi d a b f x1)) (sSay 30510 ((0 : Int32), (sName (q_M_atomic_87 bi d a b f x1 (q_M_atomic_23 bi d a b f x1) (u_M_atomic_49 bi d a b f x1) (u_M_atomic_76 bi d a b f x1)) st).2))))
                refine lv_aload_n hx hb d_M_atomic_309 rfl (lv_at hl 3 rfl) ?_
                refine lv_aload_n hx hb d_M_atomic_310 rfl (lv_at hl 3 rfl) ?_
                obtain ⟨rg, ft, h1, h2, hP⟩ := id hw
                refine va_get (D := (dC, dI)) (ci := 2) (v := .int a) (C := R_M) (T := F_M) (N := 14) hx hb hT i_M hown hK hP 0 rfl rfl 9 (by decide) (hT _ m_762) (fun _ h9 => h9) rfl d_M_atomic_311 ?_
                refine call_M_bracket S inC m_905 ⟨(Nat.le_of_ble_eq_true rfl), (Nat.le_of_ble_eq_true rfl)⟩ hl.1 (Nat.le_of_ble_eq_true rfl) d_M_atomic_314 ⟨(Nat.le_of_ble_eq_true rfl), (Nat.le_of_ble_eq_true rfl)⟩ hK ap ok hS hA hw ok.2.1 (by omega) (fun H locs hw hS _ => ?_)
                have hL27 := sBra_le a (sNext (sReg d (sSay (q_M_atomic_252 bi d a b f x1 (q_M_atomic_23 bi d a b f x1) (u_M_atomic_49 bi d a b f x1) (u_M_atomic_76 bi d a b f x1)) (sSay 30510 ((0 : Int32), (sName (q_M_atomic_87 bi d a b f x1 (q_M_atomic_23 bi d a b f x1) (u_M_atomic_49 bi d a b f x1) (u_M_atomic_76 bi d a b f x1)) st).2)))))
                exact W.vret hx hb hr (fun t ht hW => ⟨⟨(), rfl, trivial, mwd_at ht (mwd_eq (by rw [g_M_atomic, if_pos c_1, if_neg c_2, if_neg c_3, if_neg c_4, if_pos c_8, if_neg c_9, if_pos c_11]) hw)⟩, hS.F ht⟩) hS.2.2 d_M_atomic_317
              · refine lv_aload_n hx hb d_M_atomic_297 rfl (lv_at hl 3 rfl) ?_
                refine lv_aload_n hx hb d_M_atomic_298 rfl (lv_at hl 3 rfl) ?_
                obtain ⟨rg, ft, h1, h2, hP⟩ := id hw
                refine va_get (D := (dC, dI)) (ci := 2) (v := .int b) (C := R_M) (T := F_M) (N := 14) hx hb hT i_M hown hK hP 0 rfl rfl 10 (by decide) (hT _ m_763) (fun _ h9 => h9) rfl d_M_atomic_299 ?_
                refine call_M_register S inC m_846 ⟨(Nat.le_of_ble_eq_true rfl), (Nat.le_of_ble_eq_true rfl)⟩ hl.1 (Nat.le_of_ble_eq_true rfl) d_M_atomic_302 ⟨(Nat.le_of_ble_eq_true rfl), (Nat.le_of_ble_eq_true rfl)⟩ hK ap ok hS hA hw ok.2.2 (by omega) (fun H locs hw hS _ => ?_)
                have hL28 := sReg_le b (sReg d (sSay (q_M_atomic_252 bi d a b f x1 (q_M_atomic_23 bi d a b f x1) (u_M_atomic_49 bi d a b f x1) (u_M_atomic_76 bi d a b f x1)) (sSay 30510 ((0 : Int32), (sName (q_M_atomic_87 bi d a b f x1 (q_M_atomic_23 bi d a b f x1) (u_M_atomic_49 bi d a b f x1) (u_M_atomic_76 bi d a b f x1)) st).2))))
                refine lv_aload_n hx hb d_M_atomic_305 rfl (lv_at hl 3 rfl) ?_
                refine call_M_next S inC m_850 ⟨(Nat.le_of_ble_eq_true rfl), (Nat.le_of_ble_eq_true rfl)⟩ hl.1 (Nat.le_of_ble_eq_true rfl) d_M_atomic_306 ⟨(Nat.le_of_ble_eq_true rfl), (Nat.le_of_ble_eq_true rfl)⟩ hK ap ok hS hA hw (by omega) (fun H locs hw hS _ => ?_)
                have hL29 := sNext_le (sReg b (sReg d (sSay (q_M_atomic_252 bi d a b f x1 (q_M_atomic_23 bi d a b f x1) (u_M_atomic_49 bi d a b f x1) (u_M_atomic_76 bi d a b f x1)) (sSay 30510 ((0 : Int32), (sName (q_M_atomic_87 bi d a b f x1 (q_M_atomic_23 bi d a b f x1) (u_M_atomic_49 bi d a b f x1) (u_M_atomic_76 bi d a b f x1)) st).2)))))
                refine lv_aload_n hx hb d_M_atomic_309 rfl (lv_at hl 3 rfl) ?_
                refine lv_aload_n hx hb d_M_atomic_310 rfl (lv_at hl 3 rfl) ?_
                obtain ⟨rg, ft, h1, h2, hP⟩ := id hw
                refine va_get (D := (dC, dI)) (ci := 2) (v := .int a) (C := R_M) (T := F_M) (N := 14) hx hb hT i_M hown hK hP 0 rfl rfl 9 (by decide) (hT _ m_762) (fun _ h9 => h9) rfl d_M_atomic_311 ?_
                refine call_M_bracket S inC m_905 ⟨(Nat.le_of_ble_eq_true rfl), (Nat.le_of_ble_eq_true rfl)⟩ hl.1 (Nat.le_of_ble_eq_true rfl) d_M_atomic_314 ⟨(Nat.le_of_ble_eq_true rfl), (Nat.le_of_ble_eq_true rfl)⟩ hK ap ok hS hA hw ok.2.1 (by omega) (fun H locs hw hS _ => ?_)
                have hL30 := sBra_le a (sNext (sReg b (sReg d (sSay (q_M_atomic_252 bi d a b f x1 (q_M_atomic_23 bi d a b f x1) (u_M_atomic_49 bi d a b f x1) (u_M_atomic_76 bi d a b f x1)) (sSay 30510 ((0 : Int32), (sName (q_M_atomic_87 bi d a b f x1 (q_M_atomic_23 bi d a b f x1) (u_M_atomic_49 bi d a b f x1) (u_M_atomic_76 bi d a b f x1)) st).2))))))
                exact W.vret hx hb hr (fun t ht hW => ⟨⟨(), rfl, trivial, mwd_at ht (mwd_eq (by rw [g_M_atomic, if_pos c_1, if_neg c_2, if_neg c_3, if_neg c_4, if_pos c_8, if_neg c_9, if_neg c_11]) hw)⟩, hS.F ht⟩) hS.2.2 d_M_atomic_317
          · refine lv_aload_n hx hb d_M_atomic_128 rfl (lv_at hl 3 rfl) ?_
            refine lv_iload_n hx hb d_M_atomic_129 rfl (lv_at hl 2 rfl) ?_
            refine rg_M_atomic_130 S inC hT (Nat.le_of_ble_eq_true rfl) (Nat.le_of_ble_eq_true rfl) ⟨(Nat.le_of_ble_eq_true rfl), (Nat.le_of_ble_eq_true rfl)⟩ hK hw hl ?_
            refine call_M_say S inC m_837 ⟨(Nat.le_of_ble_eq_true rfl), (Nat.le_of_ble_eq_true rfl)⟩ hl.1 (Nat.le_of_ble_eq_true rfl) d_M_atomic_223 ⟨(Nat.le_of_ble_eq_true rfl), (Nat.le_of_ble_eq_true rfl)⟩ hK ap ok hS hA hw (by omega) (fun H locs hw hS _ => ?_)
            have hL31 := sSay_le (q_M_atomic_130 bi d a b f x1 (q_M_atomic_23 bi d a b f x1) (u_M_atomic_49 bi d a b f x1) (u_M_atomic_76 bi d a b f x1)) ((0 : Int32), (sName (q_M_atomic_87 bi d a b f x1 (q_M_atomic_23 bi d a b f x1) (u_M_atomic_49 bi d a b f x1) (u_M_atomic_76 bi d a b f x1)) st).2)
            refine lv_aload_n hx hb d_M_atomic_226 rfl (lv_at hl 3 rfl) ?_
            refine lv_ldc2 (v := 30510) hx hb hown (hT _ m_942) d_M_atomic_227 ?_
            refine call_M_say S inC m_837 ⟨(Nat.le_of_ble_eq_true rfl), (Nat.le_of_ble_eq_true rfl)⟩ hl.1 (Nat.le_of_ble_eq_true rfl) d_M_atomic_230 ⟨(Nat.le_of_ble_eq_true rfl), (Nat.le_of_ble_eq_true rfl)⟩ hK ap ok hS hA hw (by omega) (fun H locs hw hS _ => ?_)
            have hL32 := sSay_le 30510 (sSay (q_M_atomic_130 bi d a b f x1 (q_M_atomic_23 bi d a b f x1) (u_M_atomic_49 bi d a b f x1) (u_M_atomic_76 bi d a b f x1)) ((0 : Int32), (sName (q_M_atomic_87 bi d a b f x1 (q_M_atomic_23 bi d a b f x1) (u_M_atomic_49 bi d a b f x1) (u_M_atomic_76 bi d a b f x1)) st).2))
            refine lv_aload_n hx hb d_M_atomic_233 rfl (lv_at hl 3 rfl) ?_
            refine lv_bipush (v := 25) hx hb d_M_atomic_234 (by decide) ?_
            refine lv_iconst (v := 2) hx hb d_M_atomic_236 (by decide) ?_
            refine call_M_part S inC m_809 ⟨(Nat.le_of_ble_eq_true rfl), (Nat.le_of_ble_eq_true rfl)⟩ hl.1 (Nat.le_of_ble_eq_true rfl) d_M_atomic_237 ⟨(Nat.le_of_ble_eq_true rfl), (Nat.le_of_ble_eq_true rfl)⟩ hK hw ?_
            refine lv_if_eq (tgt := 284) hx hb d_M_atomic_240 (by decide) (fun c_12 => ?_) (fun c_12 => ?_)
            · refine lv_aload_n hx hb d_M_atomic_284 rfl (lv_at hl 3 rfl) ?_
              refine lv_aload_n hx hb d_M_atomic_285 rfl (lv_at hl 3 rfl) ?_
              obtain ⟨rg, ft, h1, h2, hP⟩ := id hw
              refine va_get (D := (dC, dI)) (ci := 2) (v := .int d) (C := R_M) (T := F_M) (N := 14) hx hb hT i_M hown hK hP 0 rfl rfl 8 (by decide) (hT _ m_761) (fun _ h9 => h9) rfl d_M_atomic_286 ?_
              refine call_M_register S inC m_846 ⟨(Nat.le_of_ble_eq_true rfl), (Nat.le_of_ble_eq_true rfl)⟩ hl.1 (Nat.le_of_ble_eq_true rfl) d_M_atomic_289 ⟨(Nat.le_of_ble_eq_true rfl), (Nat.le_of_ble_eq_true rfl)⟩ hK ap ok hS hA hw ok.1 (by omega) (fun H locs hw hS _ => ?_)
              have hL33 := sReg_le d (sSay 30510 (sSay (q_M_atomic_130 bi d a b f x1 (q_M_atomic_23 bi d a b f x1) (u_M_atomic_49 bi d a b f x1) (u_M_atomic_76 bi d a b f x1)) ((0 : Int32), (sName (q_M_atomic_87 bi d a b f x1 (q_M_atomic_23 bi d a b f x1) (u_M_atomic_49 bi d a b f x1) (u_M_atomic_76 bi d a b f x1)) st).2)))
              refine lv_iload_n hx hb d_M_atomic_292 rfl (lv_at hl 4 rfl) ?_
              refine lv_iconst (v := 2) hx hb d_M_atomic_293 (by decide) ?_
              refine lv_icmp_eq (tgt := 305) hx hb d_M_atomic_294 (by decide) (fun c_13 => ?_) (fun c_13 => ?_)
              · refine lv_aload_n hx hb d_M_atomic_305 rfl (lv_at hl 3 rfl) ?_
                refine call_M_next S inC m_850 ⟨(Nat.le_of_ble_eq_true rfl), (Nat.le_of_ble_eq_true rfl)⟩ hl.1 (Nat.le_of_ble_eq_true rfl) d_M_atomic_306 ⟨(Nat.le_of_ble_eq_true rfl), (Nat.le_of_ble_eq_true rfl)⟩ hK ap ok hS hA hw (by omega) (fun H locs hw hS _ => ?_)
                have hL34 := sNext_le (sReg d (sSay 30510 (sSay (q_M_atomic_130 bi d a b f x1 (q_M_atomic_23 bi d a b f x1) (u_M_atomic_49 bi d a b f x1) (u_M_atomic_76 bi d a b f x1)) ((0 : Int32), (sName (q_M_atomic_87 bi d a b f x1 (q_M_atomic_23 bi d a b f x1) (u_M_atomic_49 bi d a b f x1) (u_M_atomic_76 bi d a b f x1)) st).2))))
                refine lv_aload_n hx hb d_M_atomic_309 rfl (lv_at hl 3 rfl) ?_
                refine lv_aload_n hx hb d_M_atomic_310 rfl (lv_at hl 3 rfl) ?_
                obtain ⟨rg, ft, h1, h2, hP⟩ := id hw
                refine va_get (D := (dC, dI)) (ci := 2) (v := .int a) (C := R_M) (T := F_M) (N := 14) hx hb hT i_M hown hK hP 0 rfl rfl 9 (by decide) (hT _ m_762) (fun _ h9 => h9) rfl d_M_atomic_311 ?_
                refine call_M_bracket S inC m_905 ⟨(Nat.le_of_ble_eq_true rfl), (Nat.le_of_ble_eq_true rfl)⟩ hl.1 (Nat.le_of_ble_eq_true rfl) d_M_atomic_314 ⟨(Nat.le_of_ble_eq_true rfl), (Nat.le_of_ble_eq_true rfl)⟩ hK ap ok hS hA hw ok.2.1 (by omega) (fun H locs hw hS _ => ?_)
                have hL35 := sBra_le a (sNext (sReg d (sSay 30510 (sSay (q_M_atomic_130 bi d a b f x1 (q_M_atomic_23 bi d a b f x1) (u_M_atomic_49 bi d a b f x1) (u_M_atomic_76 bi d a b f x1)) ((0 : Int32), (sName (q_M_atomic_87 bi d a b f x1 (q_M_atomic_23 bi d a b f x1) (u_M_atomic_49 bi d a b f x1) (u_M_atomic_76 bi d a b f x1)) st).2)))))
                exact W.vret hx hb hr (fun t ht hW => ⟨⟨(), rfl, trivial, mwd_at ht (mwd_eq (by rw [g_M_atomic, if_pos c_1, if_neg c_2, if_neg c_3, if_neg c_4, if_neg c_8, if_pos c_12, if_pos c_13]) hw)⟩, hS.F ht⟩) hS.2.2 d_M_atomic_317
              · refine lv_aload_n hx hb d_M_atomic_297 rfl (lv_at hl 3 rfl) ?_
                refine lv_aload_n hx hb d_M_atomic_298 rfl (lv_at hl 3 rfl) ?_
                obtain ⟨rg, ft, h1, h2, hP⟩ := id hw
                refine va_get (D := (dC, dI)) (ci := 2) (v := .int b) (C := R_M) (T := F_M) (N := 14) hx hb hT i_M hown hK hP 0 rfl rfl 10 (by decide) (hT _ m_763) (fun _ h9 => h9) rfl d_M_atomic_299 ?_
                refine call_M_register S inC m_846 ⟨(Nat.le_of_ble_eq_true rfl), (Nat.le_of_ble_eq_true rfl)⟩ hl.1 (Nat.le_of_ble_eq_true rfl) d_M_atomic_302 ⟨(Nat.le_of_ble_eq_true rfl), (Nat.le_of_ble_eq_true rfl)⟩ hK ap ok hS hA hw ok.2.2 (by omega) (fun H locs hw hS _ => ?_)
                have hL36 := sReg_le b (sReg d (sSay 30510 (sSay (q_M_atomic_130 bi d a b f x1 (q_M_atomic_23 bi d a b f x1) (u_M_atomic_49 bi d a b f x1) (u_M_atomic_76 bi d a b f x1)) ((0 : Int32), (sName (q_M_atomic_87 bi d a b f x1 (q_M_atomic_23 bi d a b f x1) (u_M_atomic_49 bi d a b f x1) (u_M_atomic_76 bi d a b f x1)) st).2))))
                refine lv_aload_n hx hb d_M_atomic_305 rfl (lv_at hl 3 rfl) ?_
                refine call_M_next S inC m_850 ⟨(Nat.le_of_ble_eq_true rfl), (Nat.le_of_ble_eq_true rfl)⟩ hl.1 (Nat.le_of_ble_eq_true rfl) d_M_atomic_306 ⟨(Nat.le_of_ble_eq_true rfl), (Nat.le_of_ble_eq_true rfl)⟩ hK ap ok hS hA hw (by omega) (fun H locs hw hS _ => ?_)
                have hL37 := sNext_le (sReg b (sReg d (sSay 30510 (sSay (q_M_atomic_130 bi d a b f x1 (q_M_atomic_23 bi d a b f x1) (u_M_atomic_49 bi d a b f x1) (u_M_atomic_76 bi d a b f x1)) ((0 : Int32), (sName (q_M_atomic_87 bi d a b f x1 (q_M_atomic_23 bi d a b f x1) (u_M_atomic_49 bi d a b f x1) (u_M_atomic_76 bi d a b f x1)) st).2)))))
                refine lv_aload_n hx hb d_M_atomic_309 rfl (lv_at hl 3 rfl) ?_
                refine lv_aload_n hx hb d_M_atomic_310 rfl (lv_at hl 3 rfl) ?_
                obtain ⟨rg, ft, h1, h2, hP⟩ := id hw
                refine va_get (D := (dC, dI)) (ci := 2) (v := .int a) (C := R_M) (T := F_M) (N := 14) hx hb hT i_M hown hK hP 0 rfl rfl 9 (by decide) (hT _ m_762) (fun _ h9 => h9) rfl d_M_atomic_311 ?_
                refine call_M_bracket S inC m_905 ⟨(Nat.le_of_ble_eq_true rfl), (Nat.le_of_ble_eq_true rfl)⟩ hl.1 (Nat.le_of_ble_eq_true rfl) d_M_atomic_314 ⟨(Nat.le_of_ble_eq_true rfl), (Nat.le_of_ble_eq_true rfl)⟩ hK ap ok hS hA hw ok.2.1 (by omega) (fun H locs hw hS _ => ?_)
                have hL38 := sBra_le a (sNext (sReg b (sReg d (sSay 30510 (sSay (q_M_atomic_130 bi d a b f x1 (q_M_atomic_23 bi d a b f x1) (u_M_atomic_49 bi d a b f x1) (u_M_atomic_76 bi d a b f x1)) ((0 : Int32), (sName (q_M_atomic_87 bi d a b f x1 (q_M_atomic_23 bi d a b f x1) (u_M_atomic_49 bi d a b f x1) (u_M_atomic_76 bi d a b f x1)) st).2))))))
                exact W.vret hx hb hr (fun t ht hW => ⟨⟨(), rfl, trivial, mwd_at ht (mwd_eq (by rw [g_M_atomic, if_pos c_1, if_neg c_2, if_neg c_3, if_neg c_4, if_neg c_8, if_pos c_12, if_neg c_13]) hw)⟩, hS.F ht⟩) hS.2.2 d_M_atomic_317
            · refine lv_aload_n hx hb d_M_atomic_243 rfl (lv_at hl 3 rfl) ?_
              refine lv_aload_n hx hb d_M_atomic_244 rfl (lv_at hl 3 rfl) ?_
              refine lv_bipush (v := 25) hx hb d_M_atomic_245 (by decide) ?_
              refine lv_iconst (v := 2) hx hb d_M_atomic_247 (by decide) ?_
              refine call_M_part S inC m_809 ⟨(Nat.le_of_ble_eq_true rfl), (Nat.le_of_ble_eq_true rfl)⟩ hl.1 (Nat.le_of_ble_eq_true rfl) d_M_atomic_248 ⟨(Nat.le_of_ble_eq_true rfl), (Nat.le_of_ble_eq_true rfl)⟩ hK hw ?_
              refine lv_iconst (v := 1) hx hb d_M_atomic_251 (by decide) ?_
              refine rg_M_atomic_252 S inC hT (Nat.le_of_ble_eq_true rfl) (Nat.le_of_ble_eq_true rfl) ⟨(Nat.le_of_ble_eq_true rfl), (Nat.le_of_ble_eq_true rfl)⟩ hK hw hl ?_
              refine call_M_say S inC m_837 ⟨(Nat.le_of_ble_eq_true rfl), (Nat.le_of_ble_eq_true rfl)⟩ hl.1 (Nat.le_of_ble_eq_true rfl) d_M_atomic_281 ⟨(Nat.le_of_ble_eq_true rfl), (Nat.le_of_ble_eq_true rfl)⟩ hK ap ok hS hA hw (by omega) (fun H locs hw hS _ => ?_)
              have hL39 := sSay_le (q_M_atomic_252 bi d a b f x1 (q_M_atomic_23 bi d a b f x1) (u_M_atomic_49 bi d a b f x1) (u_M_atomic_76 bi d a b f x1)) (sSay 30510 (sSay (q_M_atomic_130 bi d a b f x1 (q_M_atomic_23 bi d a b f x1) (u_M_atomic_49 bi d a b f x1) (u_M_atomic_76 bi d a b f x1)) ((0 : Int32), (sName (q_M_atomic_87 bi d a b f x1 (q_M_atomic_23 bi d a b f x1) (u_M_atomic_49 bi d a b f x1) (u_M_atomic_76 bi d a b f x1)) st).2)))
              refine lv_aload_n hx hb d_M_atomic_284 rfl (lv_at hl 3 rfl) ?_
              refine lv_aload_n hx hb d_M_atomic_285 rfl (lv_at hl 3 rfl) ?_
              obtain ⟨rg, ft, h1, h2, hP⟩ := id hw
              refine va_get (D := (dC, dI)) (ci := 2) (v := .int d) (C := R_M) (T := F_M) (N := 14) hx hb hT i_M hown hK hP 0 rfl rfl 8 (by decide) (hT _ m_761) (fun _ h9 => h9) rfl d_M_atomic_286 ?_
              refine call_M_register S inC m_846 ⟨(Nat.le_of_ble_eq_true rfl), (Nat.le_of_ble_eq_true rfl)⟩ hl.1 (Nat.le_of_ble_eq_true rfl) d_M_atomic_289 ⟨(Nat.le_of_ble_eq_true rfl), (Nat.le_of_ble_eq_true rfl)⟩ hK ap ok hS hA hw ok.1 (by omega) (fun H locs hw hS _ => ?_)
              have hL40 := sReg_le d (sSay (q_M_atomic_252 bi d a b f x1 (q_M_atomic_23 bi d a b f x1) (u_M_atomic_49 bi d a b f x1) (u_M_atomic_76 bi d a b f x1)) (sSay 30510 (sSay (q_M_atomic_130 bi d a b f x1 (q_M_atomic_23 bi d a b f x1) (u_M_atomic_49 bi d a b f x1) (u_M_atomic_76 bi d a b f x1)) ((0 : Int32), (sName (q_M_atomic_87 bi d a b f x1 (q_M_atomic_23 bi d a b f x1) (u_M_atomic_49 bi d a b f x1) (u_M_atomic_76 bi d a b f x1)) st).2))))
              refine lv_iload_n hx hb d_M_atomic_292 rfl (lv_at hl 4 rfl) ?_
              refine lv_iconst (v := 2) hx hb d_M_atomic_293 (by decide) ?_
              refine lv_icmp_eq (tgt := 305) hx hb d_M_atomic_294 (by decide) (fun c_14 => ?_) (fun c_14 => ?_)
              · refine lv_aload_n hx hb d_M_atomic_305 rfl (lv_at hl 3 rfl) ?_
                refine call_M_next S inC m_850 ⟨(Nat.le_of_ble_eq_true rfl), (Nat.le_of_ble_eq_true rfl)⟩ hl.1 (Nat.le_of_ble_eq_true rfl) d_M_atomic_306 ⟨(Nat.le_of_ble_eq_true rfl), (Nat.le_of_ble_eq_true rfl)⟩ hK ap ok hS hA hw (by omega) (fun H locs hw hS _ => ?_)
                have hL41 := sNext_le (sReg d (sSay (q_M_atomic_252 bi d a b f x1 (q_M_atomic_23 bi d a b f x1) (u_M_atomic_49 bi d a b f x1) (u_M_atomic_76 bi d a b f x1)) (sSay 30510 (sSay (q_M_atomic_130 bi d a b f x1 (q_M_atomic_23 bi d a b f x1) (u_M_atomic_49 bi d a b f x1) (u_M_atomic_76 bi d a b f x1)) ((0 : Int32), (sName (q_M_atomic_87 bi d a b f x1 (q_M_atomic_23 bi d a b f x1) (u_M_atomic_49 bi d a b f x1) (u_M_atomic_76 bi d a b f x1)) st).2)))))
                refine lv_aload_n hx hb d_M_atomic_309 rfl (lv_at hl 3 rfl) ?_
                refine lv_aload_n hx hb d_M_atomic_310 rfl (lv_at hl 3 rfl) ?_
                obtain ⟨rg, ft, h1, h2, hP⟩ := id hw
                refine va_get (D := (dC, dI)) (ci := 2) (v := .int a) (C := R_M) (T := F_M) (N := 14) hx hb hT i_M hown hK hP 0 rfl rfl 9 (by decide) (hT _ m_762) (fun _ h9 => h9) rfl d_M_atomic_311 ?_
                refine call_M_bracket S inC m_905 ⟨(Nat.le_of_ble_eq_true rfl), (Nat.le_of_ble_eq_true rfl)⟩ hl.1 (Nat.le_of_ble_eq_true rfl) d_M_atomic_314 ⟨(Nat.le_of_ble_eq_true rfl), (Nat.le_of_ble_eq_true rfl)⟩ hK ap ok hS hA hw ok.2.1 (by omega) (fun H locs hw hS _ => ?_)
                have hL42 := sBra_le a (sNext (sReg d (sSay (q_M_atomic_252 bi d a b f x1 (q_M_atomic_23 bi d a b f x1) (u_M_atomic_49 bi d a b f x1) (u_M_atomic_76 bi d a b f x1)) (sSay 30510 (sSay (q_M_atomic_130 bi d a b f x1 (q_M_atomic_23 bi d a b f x1) (u_M_atomic_49 bi d a b f x1) (u_M_atomic_76 bi d a b f x1)) ((0 : Int32), (sName (q_M_atomic_87 bi d a b f x1 (q_M_atomic_23 bi d a b f x1) (u_M_atomic_49 bi d a b f x1) (u_M_atomic_76 bi d a b f x1)) st).2))))))
                exact W.vret hx hb hr (fun t ht hW => ⟨⟨(), rfl, trivial, mwd_at ht (mwd_eq (by rw [g_M_atomic, if_pos c_1, if_neg c_2, if_neg c_3, if_neg c_4, if_neg c_8, if_neg c_12, if_pos c_14]) hw)⟩, hS.F ht⟩) hS.2.2 d_M_atomic_317
              · refine lv_aload_n hx hb d_M_atomic_297 rfl (lv_at hl 3 rfl) ?_
                refine lv_aload_n hx hb d_M_atomic_298 rfl (lv_at hl 3 rfl) ?_
                obtain ⟨rg, ft, h1, h2, hP⟩ := id hw
                refine va_get (D := (dC, dI)) (ci := 2) (v := .int b) (C := R_M) (T := F_M) (N := 14) hx hb hT i_M hown hK hP 0 rfl rfl 10 (by decide) (hT _ m_763) (fun _ h9 => h9) rfl d_M_atomic_299 ?_
                refine call_M_register S inC m_846 ⟨(Nat.le_of_ble_eq_true rfl), (Nat.le_of_ble_eq_true rfl)⟩ hl.1 (Nat.le_of_ble_eq_true rfl) d_M_atomic_302 ⟨(Nat.le_of_ble_eq_true rfl), (Nat.le_of_ble_eq_true rfl)⟩ hK ap ok hS hA hw ok.2.2 (by omega) (fun H locs hw hS _ => ?_)
                have hL43 := sReg_le b (sReg d (sSay (q_M_atomic_252 bi d a b f x1 (q_M_atomic_23 bi d a b f x1) (u_M_atomic_49 bi d a b f x1) (u_M_atomic_76 bi d a b f x1)) (sSay 30510 (sSay (q_M_atomic_130 bi d a b f x1 (q_M_atomic_23 bi d a b f x1) (u_M_atomic_49 bi d a b f x1) (u_M_atomic_76 bi d a b f x1)) ((0 : Int32), (sName (q_M_atomic_87 bi d a b f x1 (q_M_atomic_23 bi d a b f x1) (u_M_atomic_49 bi d a b f x1) (u_M_atomic_76 bi d a b f x1)) st).2)))))
                refine lv_aload_n hx hb d_M_atomic_305 rfl (lv_at hl 3 rfl) ?_
                refine call_M_next S inC m_850 ⟨(Nat.le_of_ble_eq_true rfl), (Nat.le_of_ble_eq_true rfl)⟩ hl.1 (Nat.le_of_ble_eq_true rfl) d_M_atomic_306 ⟨(Nat.le_of_ble_eq_true rfl), (Nat.le_of_ble_eq_true rfl)⟩ hK ap ok hS hA hw (by omega) (fun H locs hw hS _ => ?_)
                have hL44 := sNext_le (sReg b (sReg d (sSay (q_M_atomic_252 bi d a b f x1 (q_M_atomic_23 bi d a b f x1) (u_M_atomic_49 bi d a b f x1) (u_M_atomic_76 bi d a b f x1)) (sSay 30510 (sSay (q_M_atomic_130 bi d a b f x1 (q_M_atomic_23 bi d a b f x1) (u_M_atomic_49 bi d a b f x1) (u_M_atomic_76 bi d a b f x1)) ((0 : Int32), (sName (q_M_atomic_87 bi d a b f x1 (q_M_atomic_23 bi d a b f x1) (u_M_atomic_49 bi d a b f x1) (u_M_atomic_76 bi d a b f x1)) st).2))))))
                refine lv_aload_n hx hb d_M_atomic_309 rfl (lv_at hl 3 rfl) ?_
                refine lv_aload_n hx hb d_M_atomic_310 rfl (lv_at hl 3 rfl) ?_
                obtain ⟨rg, ft, h1, h2, hP⟩ := id hw
                refine va_get (D := (dC, dI)) (ci := 2) (v := .int a) (C := R_M) (T := F_M) (N := 14) hx hb hT i_M hown hK hP 0 rfl rfl 9 (by decide) (hT _ m_762) (fun _ h9 => h9) rfl d_M_atomic_311 ?_
                refine call_M_bracket S inC m_905 ⟨(Nat.le_of_ble_eq_true rfl), (Nat.le_of_ble_eq_true rfl)⟩ hl.1 (Nat.le_of_ble_eq_true rfl) d_M_atomic_314 ⟨(Nat.le_of_ble_eq_true rfl), (Nat.le_of_ble_eq_true rfl)⟩ hK ap ok hS hA hw ok.2.1 (by omega) (fun H locs hw hS _ => ?_)
                have hL45 := sBra_le a (sNext (sReg b (sReg d (sSay (q_M_atomic_252 bi d a b f x1 (q_M_atomic_23 bi d a b f x1) (u_M_atomic_49 bi d a b f x1) (u_M_atomic_76 bi d a b f x1)) (sSay 30510 (sSay (q_M_atomic_130 bi d a b f x1 (q_M_atomic_23 bi d a b f x1) (u_M_atomic_49 bi d a b f x1) (u_M_atomic_76 bi d a b f x1)) ((0 : Int32), (sName (q_M_atomic_87 bi d a b f x1 (q_M_atomic_23 bi d a b f x1) (u_M_atomic_49 bi d a b f x1) (u_M_atomic_76 bi d a b f x1)) st).2)))))))
                exact W.vret hx hb hr (fun t ht hW => ⟨⟨(), rfl, trivial, mwd_at ht (mwd_eq (by rw [g_M_atomic, if_pos c_1, if_neg c_2, if_neg c_3, if_neg c_4, if_neg c_8, if_neg c_12, if_neg c_14]) hw)⟩, hS.F ht⟩) hS.2.2 d_M_atomic_317
      · exact W.vret hx hb hr (fun t ht hW => ⟨⟨(), rfl, trivial, mwd_at ht (mwd_eq (by rw [g_M_atomic, if_pos c_1, if_neg c_2, if_pos c_3]) hw)⟩, hS.F ht⟩) hS.2.2 d_M_atomic_83
    · refine lv_aload_n hx hb d_M_atomic_13 rfl (lv_at hl 0 rfl) ?_
      obtain ⟨rg, ft, h1, h2, hP⟩ := id hw
      refine va_get (D := (dC, dI)) (ci := 2) (v := .int b) (C := R_M) (T := F_M) (N := 14) hx hb hT i_M hown hK hP 0 rfl rfl 10 (by decide) (hT _ m_763) (fun _ h9 => h9) rfl d_M_atomic_14 ?_
      refine lv_if_eq (tgt := 21) hx hb d_M_atomic_17 (by decide) (fun c_15 => ?_) (fun c_15 => ?_)
      · refine lv_iload_n hx hb d_M_atomic_21 rfl (lv_at hl 1 rfl) ?_
        refine lv_iconst (v := 1) hx hb d_M_atomic_22 (by decide) ?_
        refine rg_M_atomic_23 S inC hT (Nat.le_of_ble_eq_true rfl) (Nat.le_of_ble_eq_true rfl) ⟨(Nat.le_of_ble_eq_true rfl), (Nat.le_of_ble_eq_true rfl)⟩ hK hw hl ?_
        refine lv_istore_n (lv' := [(2, .int (q_M_atomic_23 bi d a b f x1)), (0, .ref m0), (1, .int x1)]) hx hb d_M_atomic_31 rfl hl (by decide) rfl (fun ls hl => ?_)
        refine lv_iload_n hx hb d_M_atomic_32 rfl (lv_at hl 2 rfl) ?_
        refine lv_bipush (v := 16) hx hb d_M_atomic_33 (by decide) ?_
        refine rg_M_atomic_35 S inC hT (Nat.le_of_ble_eq_true rfl) (Nat.le_of_ble_eq_true rfl) ⟨(Nat.le_of_ble_eq_true rfl), (Nat.le_of_ble_eq_true rfl)⟩ hK hw hl ?_
        refine lv_istore_n (lv' := [(3, .int (u_M_atomic_49 bi d a b f x1)), (2, .int (q_M_atomic_23 bi d a b f x1)), (0, .ref m0), (1, .int x1)]) hx hb d_M_atomic_49 rfl hl (by decide) rfl (fun ls hl => ?_)
        refine lv_iload_n hx hb d_M_atomic_50 rfl (lv_at hl 3 rfl) ?_
        refine lv_iconst (v := 5) hx hb d_M_atomic_51 (by decide) ?_
        refine rg_M_atomic_52 S inC hT (Nat.le_of_ble_eq_true rfl) (Nat.le_of_ble_eq_true rfl) ⟨(Nat.le_of_ble_eq_true rfl), (Nat.le_of_ble_eq_true rfl)⟩ hK hw hl ?_
        refine lv_istore (lv' := [(4, .int (u_M_atomic_76 bi d a b f x1)), (3, .int (u_M_atomic_49 bi d a b f x1)), (2, .int (q_M_atomic_23 bi d a b f x1)), (0, .ref m0), (1, .int x1)]) hx hb d_M_atomic_76 hl (by decide) rfl (fun ls hl => ?_)
        refine lv_iload hx hb d_M_atomic_78 (lv_at hl 0 rfl) ?_
        refine lv_if_ne (tgt := 84) hx hb d_M_atomic_80 (by decide) (fun c_16 => ?_) (fun c_16 => ?_)
        · refine lv_aload_n hx hb d_M_atomic_84 rfl (lv_at hl 3 rfl) ?_
          refine lv_iload_n hx hb d_M_atomic_85 rfl (lv_at hl 4 rfl) ?_
          refine lv_iconst (v := 2) hx hb d_M_atomic_86 (by decide) ?_
          refine rg_M_atomic_87 S inC hT (Nat.le_of_ble_eq_true rfl) (Nat.le_of_ble_eq_true rfl) ⟨(Nat.le_of_ble_eq_true rfl), (Nat.le_of_ble_eq_true rfl)⟩ hK hw hl ?_
          refine call_M_name S inC m_833 ⟨(Nat.le_of_ble_eq_true rfl), (Nat.le_of_ble_eq_true rfl)⟩ hl.1 (Nat.le_of_ble_eq_true rfl) d_M_atomic_110 ⟨(Nat.le_of_ble_eq_true rfl), (Nat.le_of_ble_eq_true rfl)⟩ hK ap ok hS hA hw (by omega) (fun H locs hw hS _ => ?_)
          have hL46 := sName_le (q_M_atomic_87 bi d a b f x1 (q_M_atomic_23 bi d a b f x1) (u_M_atomic_49 bi d a b f x1) (u_M_atomic_76 bi d a b f x1)) st
          refine lv_aload_n hx hb d_M_atomic_113 rfl (lv_at hl 3 rfl) ?_
          refine lv_iconst (v := 0) hx hb d_M_atomic_114 (by decide) ?_
          obtain ⟨rg, ft, h1, h2, hP⟩ := hw
          have hD := wM_D ap hA (cI := cI) (cC := cC) (th := th) (yb := yb) (bi := bi) (d := d) (a := a) (b := b) (f := f) (op := (sName (q_M_atomic_87 bi d a b f x1 (q_M_atomic_23 bi d a b f x1) (u_M_atomic_49 bi d a b f x1) (u_M_atomic_76 bi d a b f x1)) st).1) (ln := (sName (q_M_atomic_87 bi d a b f x1 (q_M_atomic_23 bi d a b f x1) (u_M_atomic_49 bi d a b f x1) (u_M_atomic_76 bi d a b f x1)) st).2.1) (sz := nI (sName (q_M_atomic_87 bi d a b f x1 (q_M_atomic_23 bi d a b f x1) (u_M_atomic_49 bi d a b f x1) (u_M_atomic_76 bi d a b f x1)) st).2.2.length) (str := str) (rg := rg) (ft := ft) (fk := fk)
          refine va_put (D := (dC, dI)) (ci := 2) (v := .int 0) (ty := .int) (C := R_M) (T := F_M) (N := 14) hx hb hT i_M ft_M ft_M_ok n_M hown hK hP hD hS 0 rfl rfl 4 (by decide) (hT _ m_757) (fun _ h9 => h9) rfl (by decide +kernel) rfl rfl (Nat.le_of_ble_eq_true rfl) d_M_atomic_115 (fun H locs hP hD hS => ?_)
          have hL47 : (((0 : Int32), (sName (q_M_atomic_87 bi d a b f x1 (q_M_atomic_23 bi d a b f x1) (u_M_atomic_49 bi d a b f x1) (u_M_atomic_76 bi d a b f x1)) st).2) : MT).2.2.length = (sName (q_M_atomic_87 bi d a b f x1 (q_M_atomic_23 bi d a b f x1) (u_M_atomic_49 bi d a b f x1) (u_M_atomic_76 bi d a b f x1)) st).2.2.length := rfl
          have hw : mwd dC dI cI cC m0 mt ms mr mk th yb bi d a b f str fk ((0 : Int32), (sName (q_M_atomic_87 bi d a b f x1 (q_M_atomic_23 bi d a b f x1) (u_M_atomic_49 bi d a b f x1) (u_M_atomic_76 bi d a b f x1)) st).2) H := ⟨rg, ft, h1, h2, hP⟩
          refine lv_iload_n hx hb d_M_atomic_118 rfl (lv_at hl 4 rfl) ?_
          refine lv_iconst (v := 2) hx hb d_M_atomic_119 (by decide) ?_
          refine lv_icmp_eq (tgt := 226) hx hb d_M_atomic_120 (by decide) (fun c_17 => ?_) (fun c_17 => ?_)
          · refine lv_aload_n hx hb d_M_atomic_226 rfl (lv_at hl 3 rfl) ?_
            refine lv_ldc2 (v := 30510) hx hb hown (hT _ m_942) d_M_atomic_227 ?_
            refine call_M_say S inC m_837 ⟨(Nat.le_of_ble_eq_true rfl), (Nat.le_of_ble_eq_true rfl)⟩ hl.1 (Nat.le_of_ble_eq_true rfl) d_M_atomic_230 ⟨(Nat.le_of_ble_eq_true rfl), (Nat.le_of_ble_eq_true rfl)⟩ hK ap ok hS hA hw (by omega) (fun H locs hw hS _ => ?_)
            have hL48 := sSay_le 30510 ((0 : Int32), (sName (q_M_atomic_87 bi d a b f x1 (q_M_atomic_23 bi d a b f x1) (u_M_atomic_49 bi d a b f x1) (u_M_atomic_76 bi d a b f x1)) st).2)
            refine lv_aload_n hx hb d_M_atomic_233 rfl (lv_at hl 3 rfl) ?_
            refine lv_bipush (v := 25) hx hb d_M_atomic_234 (by decide) ?_
            refine lv_iconst (v := 2) hx hb d_M_atomic_236 (by decide) ?_
            refine call_M_part S inC m_809 ⟨(Nat.le_of_ble_eq_true rfl), (Nat.le_of_ble_eq_true rfl)⟩ hl.1 (Nat.le_of_ble_eq_true rfl) d_M_atomic_237 ⟨(Nat.le_of_ble_eq_true rfl), (Nat.le_of_ble_eq_true rfl)⟩ hK hw ?_
            refine lv_if_eq (tgt := 284) hx hb d_M_atomic_240 (by decide) (fun c_18 => ?_) (fun c_18 => ?_)
            · refine lv_aload_n hx hb d_M_atomic_284 rfl (lv_at hl 3 rfl) ?_
              refine lv_aload_n hx hb d_M_atomic_285 rfl (lv_at hl 3 rfl) ?_
              obtain ⟨rg, ft, h1, h2, hP⟩ := id hw
              refine va_get (D := (dC, dI)) (ci := 2) (v := .int d) (C := R_M) (T := F_M) (N := 14) hx hb hT i_M hown hK hP 0 rfl rfl 8 (by decide) (hT _ m_761) (fun _ h9 => h9) rfl d_M_atomic_286 ?_
              refine call_M_register S inC m_846 ⟨(Nat.le_of_ble_eq_true rfl), (Nat.le_of_ble_eq_true rfl)⟩ hl.1 (Nat.le_of_ble_eq_true rfl) d_M_atomic_289 ⟨(Nat.le_of_ble_eq_true rfl), (Nat.le_of_ble_eq_true rfl)⟩ hK ap ok hS hA hw ok.1 (by omega) (fun H locs hw hS _ => ?_)
              have hL49 := sReg_le d (sSay 30510 ((0 : Int32), (sName (q_M_atomic_87 bi d a b f x1 (q_M_atomic_23 bi d a b f x1) (u_M_atomic_49 bi d a b f x1) (u_M_atomic_76 bi d a b f x1)) st).2))
              refine lv_iload_n hx hb d_M_atomic_292 rfl (lv_at hl 4 rfl) ?_
              refine lv_iconst (v := 2) hx hb d_M_atomic_293 (by decide) ?_
              refine lv_icmp_eq (tgt := 305) hx hb d_M_atomic_294 (by decide) (fun c_19 => ?_) (fun c_19 => ?_)
              · refine lv_aload_n hx hb d_M_atomic_305 rfl (lv_at hl 3 rfl) ?_
                refine call_M_next S inC m_850 ⟨(Nat.le_of_ble_eq_true rfl), (Nat.le_of_ble_eq_true rfl)⟩ hl.1 (Nat.le_of_ble_eq_true rfl) d_M_atomic_306 ⟨(Nat.le_of_ble_eq_true rfl), (Nat.le_of_ble_eq_true rfl)⟩ hK ap ok hS hA hw (by omega) (fun H locs hw hS _ => ?_)
                have hL50 := sNext_le (sReg d (sSay 30510 ((0 : Int32), (sName (q_M_atomic_87 bi d a b f x1 (q_M_atomic_23 bi d a b f x1) (u_M_atomic_49 bi d a b f x1) (u_M_atomic_76 bi d a b f x1)) st).2)))
                refine lv_aload_n hx hb d_M_atomic_309 rfl (lv_at hl 3 rfl) ?_
                refine lv_aload_n hx hb d_M_atomic_310 rfl (lv_at hl 3 rfl) ?_
                obtain ⟨rg, ft, h1, h2, hP⟩ := id hw
                refine va_get (D := (dC, dI)) (ci := 2) (v := .int a) (C := R_M) (T := F_M) (N := 14) hx hb hT i_M hown hK hP 0 rfl rfl 9 (by decide) (hT _ m_762) (fun _ h9 => h9) rfl d_M_atomic_311 ?_
                refine call_M_bracket S inC m_905 ⟨(Nat.le_of_ble_eq_true rfl), (Nat.le_of_ble_eq_true rfl)⟩ hl.1 (Nat.le_of_ble_eq_true rfl) d_M_atomic_314 ⟨(Nat.le_of_ble_eq_true rfl), (Nat.le_of_ble_eq_true rfl)⟩ hK ap ok hS hA hw ok.2.1 (by omega) (fun H locs hw hS _ => ?_)
                have hL51 := sBra_le a (sNext (sReg d (sSay 30510 ((0 : Int32), (sName (q_M_atomic_87 bi d a b f x1 (q_M_atomic_23 bi d a b f x1) (u_M_atomic_49 bi d a b f x1) (u_M_atomic_76 bi d a b f x1)) st).2))))
                exact W.vret hx hb hr (fun t ht hW => ⟨⟨(), rfl, trivial, mwd_at ht (mwd_eq (by rw [g_M_atomic, if_pos c_1, if_pos c_2, if_pos c_15, if_neg c_16, if_pos c_17, if_pos c_18, if_pos c_19]) hw)⟩, hS.F ht⟩) hS.2.2 d_M_atomic_317
              · refine lv_aload_n hx hb d_M_atomic_297 rfl (lv_at hl 3 rfl) ?_
                refine lv_aload_n hx hb d_M_atomic_298 rfl (lv_at hl 3 rfl) ?_
                obtain ⟨rg, ft, h1, h2, hP⟩ := id hw
                refine va_get (D := (dC, dI)) (ci := 2) (v := .int b) (C := R_M) (T := F_M) (N := 14) hx hb hT i_M hown hK hP 0 rfl rfl 10 (by decide) (hT _ m_763) (fun _ h9 => h9) rfl d_M_atomic_299 ?_
                refine call_M_register S inC m_846 ⟨(Nat.le_of_ble_eq_true rfl), (Nat.le_of_ble_eq_true rfl)⟩ hl.1 (Nat.le_of_ble_eq_true rfl) d_M_atomic_302 ⟨(Nat.le_of_ble_eq_true rfl), (Nat.le_of_ble_eq_true rfl)⟩ hK ap ok hS hA hw ok.2.2 (by omega) (fun H locs hw hS _ => ?_)
                have hL52 := sReg_le b (sReg d (sSay 30510 ((0 : Int32), (sName (q_M_atomic_87 bi d a b f x1 (q_M_atomic_23 bi d a b f x1) (u_M_atomic_49 bi d a b f x1) (u_M_atomic_76 bi d a b f x1)) st).2)))
                refine lv_aload_n hx hb d_M_atomic_305 rfl (lv_at hl 3 rfl) ?_
                refine call_M_next S inC m_850 ⟨(Nat.le_of_ble_eq_true rfl), (Nat.le_of_ble_eq_true rfl)⟩ hl.1 (Nat.le_of_ble_eq_true rfl) d_M_atomic_306 ⟨(Nat.le_of_ble_eq_true rfl), (Nat.le_of_ble_eq_true rfl)⟩ hK ap ok hS hA hw (by omega) (fun H locs hw hS _ => ?_)
                have hL53 := sNext_le (sReg b (sReg d (sSay 30510 ((0 : Int32), (sName (q_M_atomic_87 bi d a b f x1 (q_M_atomic_23 bi d a b f x1) (u_M_atomic_49 bi d a b f x1) (u_M_atomic_76 bi d a b f x1)) st).2))))
                refine lv_aload_n hx hb d_M_atomic_309 rfl (lv_at hl 3 rfl) ?_
                refine lv_aload_n hx hb d_M_atomic_310 rfl (lv_at hl 3 rfl) ?_
                obtain ⟨rg, ft, h1, h2, hP⟩ := id hw
                refine va_get (D := (dC, dI)) (ci := 2) (v := .int a) (C := R_M) (T := F_M) (N := 14) hx hb hT i_M hown hK hP 0 rfl rfl 9 (by decide) (hT _ m_762) (fun _ h9 => h9) rfl d_M_atomic_311 ?_
                refine call_M_bracket S inC m_905 ⟨(Nat.le_of_ble_eq_true rfl), (Nat.le_of_ble_eq_true rfl)⟩ hl.1 (Nat.le_of_ble_eq_true rfl) d_M_atomic_314 ⟨(Nat.le_of_ble_eq_true rfl), (Nat.le_of_ble_eq_true rfl)⟩ hK ap ok hS hA hw ok.2.1 (by omega) (fun H locs hw hS _ => ?_)
                have hL54 := sBra_le a (sNext (sReg b (sReg d (sSay 30510 ((0 : Int32), (sName (q_M_atomic_87 bi d a b f x1 (q_M_atomic_23 bi d a b f x1) (u_M_atomic_49 bi d a b f x1) (u_M_atomic_76 bi d a b f x1)) st).2)))))
                exact W.vret hx hb hr (fun t ht hW => ⟨⟨(), rfl, trivial, mwd_at ht (mwd_eq (by rw [g_M_atomic, if_pos c_1, if_pos c_2, if_pos c_15, if_neg c_16, if_pos c_17, if_pos c_18, if_neg c_19]) hw)⟩, hS.F ht⟩) hS.2.2 d_M_atomic_317
            · refine lv_aload_n hx hb d_M_atomic_243 rfl (lv_at hl 3 rfl) ?_
              refine lv_aload_n hx hb d_M_atomic_244 rfl (lv_at hl 3 rfl) ?_
              refine lv_bipush (v := 25) hx hb d_M_atomic_245 (by decide) ?_
              refine lv_iconst (v := 2) hx hb d_M_atomic_247 (by decide) ?_
              refine call_M_part S inC m_809 ⟨(Nat.le_of_ble_eq_true rfl), (Nat.le_of_ble_eq_true rfl)⟩ hl.1 (Nat.le_of_ble_eq_true rfl) d_M_atomic_248 ⟨(Nat.le_of_ble_eq_true rfl), (Nat.le_of_ble_eq_true rfl)⟩ hK hw ?_
              refine lv_iconst (v := 1) hx hb d_M_atomic_251 (by decide) ?_
              refine rg_M_atomic_252 S inC hT (Nat.le_of_ble_eq_true rfl) (Nat.le_of_ble_eq_true rfl) ⟨(Nat.le_of_ble_eq_true rfl), (Nat.le_of_ble_eq_true rfl)⟩ hK hw hl ?_
              refine call_M_say S inC m_837 ⟨(Nat.le_of_ble_eq_true rfl), (Nat.le_of_ble_eq_true rfl)⟩ hl.1 (Nat.le_of_ble_eq_true rfl) d_M_atomic_281 ⟨(Nat.le_of_ble_eq_true rfl), (Nat.le_of_ble_eq_true rfl)⟩ hK ap ok hS hA hw (by omega) (fun H locs hw hS _ => ?_)
              have hL55 := sSay_le (q_M_atomic_252 bi d a b f x1 (q_M_atomic_23 bi d a b f x1) (u_M_atomic_49 bi d a b f x1) (u_M_atomic_76 bi d a b f x1)) (sSay 30510 ((0 : Int32), (sName (q_M_atomic_87 bi d a b f x1 (q_M_atomic_23 bi d a b f x1) (u_M_atomic_49 bi d a b f x1) (u_M_atomic_76 bi d a b f x1)) st).2))
              refine lv_aload_n hx hb d_M_atomic_284 rfl (lv_at hl 3 rfl) ?_
              refine lv_aload_n hx hb d_M_atomic_285 rfl (lv_at hl 3 rfl) ?_
              obtain ⟨rg, ft, h1, h2, hP⟩ := id hw
              refine va_get (D := (dC, dI)) (ci := 2) (v := .int d) (C := R_M) (T := F_M) (N := 14) hx hb hT i_M hown hK hP 0 rfl rfl 8 (by decide) (hT _ m_761) (fun _ h9 => h9) rfl d_M_atomic_286 ?_
              refine call_M_register S inC m_846 ⟨(Nat.le_of_ble_eq_true rfl), (Nat.le_of_ble_eq_true rfl)⟩ hl.1 (Nat.le_of_ble_eq_true rfl) d_M_atomic_289 ⟨(Nat.le_of_ble_eq_true rfl), (Nat.le_of_ble_eq_true rfl)⟩ hK ap ok hS hA hw ok.1 (by omega) (fun H locs hw hS _ => ?_)
              have hL56 := sReg_le d (sSay (q_M_atomic_252 bi d a b f x1 (q_M_atomic_23 bi d a b f x1) (u_M_atomic_49 bi d a b f x1) (u_M_atomic_76 bi d a b f x1)) (sSay 30510 ((0 : Int32), (sName (q_M_atomic_87 bi d a b f x1 (q_M_atomic_23 bi d a b f x1) (u_M_atomic_49 bi d a b f x1) (u_M_atomic_76 bi d a b f x1)) st).2)))
              refine lv_iload_n hx hb d_M_atomic_292 rfl (lv_at hl 4 rfl) ?_
              refine lv_iconst (v := 2) hx hb d_M_atomic_293 (by decide) ?_
              refine lv_icmp_eq (tgt := 305) hx hb d_M_atomic_294 (by decide) (fun c_20 => ?_) (fun c_20 => ?_)
              · refine lv_aload_n hx hb d_M_atomic_305 rfl (lv_at hl 3 rfl) ?_
                refine call_M_next S inC m_850 ⟨(Nat.le_of_ble_eq_true rfl), (Nat.le_of_ble_eq_true rfl)⟩ hl.1 (Nat.le_of_ble_eq_true rfl) d_M_atomic_306 ⟨(Nat.le_of_ble_eq_true rfl), (Nat.le_of_ble_eq_true rfl)⟩ hK ap ok hS hA hw (by omega) (fun H locs hw hS _ => ?_)
                have hL57 := sNext_le (sReg d (sSay (q_M_atomic_252 bi d a b f x1 (q_M_atomic_23 bi d a b f x1) (u_M_atomic_49 bi d a b f x1) (u_M_atomic_76 bi d a b f x1)) (sSay 30510 ((0 : Int32), (sName (q_M_atomic_87 bi d a b f x1 (q_M_atomic_23 bi d a b f x1) (u_M_atomic_49 bi d a b f x1) (u_M_atomic_76 bi d a b f x1)) st).2))))
                refine lv_aload_n hx hb d_M_atomic_309 rfl (lv_at hl 3 rfl) ?_
                refine lv_aload_n hx hb d_M_atomic_310 rfl (lv_at hl 3 rfl) ?_
                obtain ⟨rg, ft, h1, h2, hP⟩ := id hw
                refine va_get (D := (dC, dI)) (ci := 2) (v := .int a) (C := R_M) (T := F_M) (N := 14) hx hb hT i_M hown hK hP 0 rfl rfl 9 (by decide) (hT _ m_762) (fun _ h9 => h9) rfl d_M_atomic_311 ?_
                refine call_M_bracket S inC m_905 ⟨(Nat.le_of_ble_eq_true rfl), (Nat.le_of_ble_eq_true rfl)⟩ hl.1 (Nat.le_of_ble_eq_true rfl) d_M_atomic_314 ⟨(Nat.le_of_ble_eq_true rfl), (Nat.le_of_ble_eq_true rfl)⟩ hK ap ok hS hA hw ok.2.1 (by omega) (fun H locs hw hS _ => ?_)
                have hL58 := sBra_le a (sNext (sReg d (sSay (q_M_atomic_252 bi d a b f x1 (q_M_atomic_23 bi d a b f x1) (u_M_atomic_49 bi d a b f x1) (u_M_atomic_76 bi d a b f x1)) (sSay 30510 ((0 : Int32), (sName (q_M_atomic_87 bi d a b f x1 (q_M_atomic_23 bi d a b f x1) (u_M_atomic_49 bi d a b f x1) (u_M_atomic_76 bi d a b f x1)) st).2)))))
                exact W.vret hx hb hr (fun t ht hW => ⟨⟨(), rfl, trivial, mwd_at ht (mwd_eq (by rw [g_M_atomic, if_pos c_1, if_pos c_2, if_pos c_15, if_neg c_16, if_pos c_17, if_neg c_18, if_pos c_20]) hw)⟩, hS.F ht⟩) hS.2.2 d_M_atomic_317
              · refine lv_aload_n hx hb d_M_atomic_297 rfl (lv_at hl 3 rfl) ?_
                refine lv_aload_n hx hb d_M_atomic_298 rfl (lv_at hl 3 rfl) ?_
                obtain ⟨rg, ft, h1, h2, hP⟩ := id hw
                refine va_get (D := (dC, dI)) (ci := 2) (v := .int b) (C := R_M) (T := F_M) (N := 14) hx hb hT i_M hown hK hP 0 rfl rfl 10 (by decide) (hT _ m_763) (fun _ h9 => h9) rfl d_M_atomic_299 ?_
                refine call_M_register S inC m_846 ⟨(Nat.le_of_ble_eq_true rfl), (Nat.le_of_ble_eq_true rfl)⟩ hl.1 (Nat.le_of_ble_eq_true rfl) d_M_atomic_302 ⟨(Nat.le_of_ble_eq_true rfl), (Nat.le_of_ble_eq_true rfl)⟩ hK ap ok hS hA hw ok.2.2 (by omega) (fun H locs hw hS _ => ?_)
                have hL59 := sReg_le b (sReg d (sSay (q_M_atomic_252 bi d a b f x1 (q_M_atomic_23 bi d a b f x1) (u_M_atomic_49 bi d a b f x1) (u_M_atomic_76 bi d a b f x1)) (sSay 30510 ((0 : Int32), (sName (q_M_atomic_87 bi d a b f x1 (q_M_atomic_23 bi d a b f x1) (u_M_atomic_49 bi d a b f x1) (u_M_atomic_76 bi d a b f x1)) st).2))))
                refine lv_aload_n hx hb d_M_atomic_305 rfl (lv_at hl 3 rfl) ?_
                refine call_M_next S inC m_850 ⟨(Nat.le_of_ble_eq_true rfl), (Nat.le_of_ble_eq_true rfl)⟩ hl.1 (Nat.le_of_ble_eq_true rfl) d_M_atomic_306 ⟨(Nat.le_of_ble_eq_true rfl), (Nat.le_of_ble_eq_true rfl)⟩ hK ap ok hS hA hw (by omega) (fun H locs hw hS _ => ?_)
                have hL60 := sNext_le (sReg b (sReg d (sSay (q_M_atomic_252 bi d a b f x1 (q_M_atomic_23 bi d a b f x1) (u_M_atomic_49 bi d a b f x1) (u_M_atomic_76 bi d a b f x1)) (sSay 30510 ((0 : Int32), (sName (q_M_atomic_87 bi d a b f x1 (q_M_atomic_23 bi d a b f x1) (u_M_atomic_49 bi d a b f x1) (u_M_atomic_76 bi d a b f x1)) st).2)))))
                refine lv_aload_n hx hb d_M_atomic_309 rfl (lv_at hl 3 rfl) ?_
                refine lv_aload_n hx hb d_M_atomic_310 rfl (lv_at hl 3 rfl) ?_
                obtain ⟨rg, ft, h1, h2, hP⟩ := id hw
                refine va_get (D := (dC, dI)) (ci := 2) (v := .int a) (C := R_M) (T := F_M) (N := 14) hx hb hT i_M hown hK hP 0 rfl rfl 9 (by decide) (hT _ m_762) (fun _ h9 => h9) rfl d_M_atomic_311 ?_
                refine call_M_bracket S inC m_905 ⟨(Nat.le_of_ble_eq_true rfl), (Nat.le_of_ble_eq_true rfl)⟩ hl.1 (Nat.le_of_ble_eq_true rfl) d_M_atomic_314 ⟨(Nat.le_of_ble_eq_true rfl), (Nat.le_of_ble_eq_true rfl)⟩ hK ap ok hS hA hw ok.2.1 (by omega) (fun H locs hw hS _ => ?_)
                have hL61 := sBra_le a (sNext (sReg b (sReg d (sSay (q_M_atomic_252 bi d a b f x1 (q_M_atomic_23 bi d a b f x1) (u_M_atomic_49 bi d a b f x1) (u_M_atomic_76 bi d a b f x1)) (sSay 30510 ((0 : Int32), (sName (q_M_atomic_87 bi d a b f x1 (q_M_atomic_23 bi d a b f x1) (u_M_atomic_49 bi d a b f x1) (u_M_atomic_76 bi d a b f x1)) st).2))))))
                exact W.vret hx hb hr (fun t ht hW => ⟨⟨(), rfl, trivial, mwd_at ht (mwd_eq (by rw [g_M_atomic, if_pos c_1, if_pos c_2, if_pos c_15, if_neg c_16, if_pos c_17, if_neg c_18, if_neg c_20]) hw)⟩, hS.F ht⟩) hS.2.2 d_M_atomic_317
          · refine lv_iload_n hx hb d_M_atomic_123 rfl (lv_at hl 4 rfl) ?_
            refine lv_iconst (v := 3) hx hb d_M_atomic_124 (by decide) ?_
            refine lv_icmp_eq (tgt := 226) hx hb d_M_atomic_125 (by decide) (fun c_21 => ?_) (fun c_21 => ?_)
            · refine lv_aload_n hx hb d_M_atomic_226 rfl (lv_at hl 3 rfl) ?_
              refine lv_ldc2 (v := 30510) hx hb hown (hT _ m_942) d_M_atomic_227 ?_
              refine call_M_say S inC m_837 ⟨(Nat.le_of_ble_eq_true rfl), (Nat.le_of_ble_eq_true rfl)⟩ hl.1 (Nat.le_of_ble_eq_true rfl) d_M_atomic_230 ⟨(Nat.le_of_ble_eq_true rfl), (Nat.le_of_ble_eq_true rfl)⟩ hK ap ok hS hA hw (by omega) (fun H locs hw hS _ => ?_)
              have hL62 := sSay_le 30510 ((0 : Int32), (sName (q_M_atomic_87 bi d a b f x1 (q_M_atomic_23 bi d a b f x1) (u_M_atomic_49 bi d a b f x1) (u_M_atomic_76 bi d a b f x1)) st).2)
              refine lv_aload_n hx hb d_M_atomic_233 rfl (lv_at hl 3 rfl) ?_
              refine lv_bipush (v := 25) hx hb d_M_atomic_234 (by decide) ?_
              refine lv_iconst (v := 2) hx hb d_M_atomic_236 (by decide) ?_
              refine call_M_part S inC m_809 ⟨(Nat.le_of_ble_eq_true rfl), (Nat.le_of_ble_eq_true rfl)⟩ hl.1 (Nat.le_of_ble_eq_true rfl) d_M_atomic_237 ⟨(Nat.le_of_ble_eq_true rfl), (Nat.le_of_ble_eq_true rfl)⟩ hK hw ?_
              refine lv_if_eq (tgt := 284) hx hb d_M_atomic_240 (by decide) (fun c_22 => ?_) (fun c_22 => ?_)
              · refine lv_aload_n hx hb d_M_atomic_284 rfl (lv_at hl 3 rfl) ?_
                refine lv_aload_n hx hb d_M_atomic_285 rfl (lv_at hl 3 rfl) ?_
                obtain ⟨rg, ft, h1, h2, hP⟩ := id hw
                refine va_get (D := (dC, dI)) (ci := 2) (v := .int d) (C := R_M) (T := F_M) (N := 14) hx hb hT i_M hown hK hP 0 rfl rfl 8 (by decide) (hT _ m_761) (fun _ h9 => h9) rfl d_M_atomic_286 ?_
                refine call_M_register S inC m_846 ⟨(Nat.le_of_ble_eq_true rfl), (Nat.le_of_ble_eq_true rfl)⟩ hl.1 (Nat.le_of_ble_eq_true rfl) d_M_atomic_289 ⟨(Nat.le_of_ble_eq_true rfl), (Nat.le_of_ble_eq_true rfl)⟩ hK ap ok hS hA hw ok.1 (by omega) (fun H locs hw hS _ => ?_)
                have hL63 := sReg_le d (sSay 30510 ((0 : Int32), (sName (q_M_atomic_87 bi d a b f x1 (q_M_atomic_23 bi d a b f x1) (u_M_atomic_49 bi d a b f x1) (u_M_atomic_76 bi d a b f x1)) st).2))
                refine lv_iload_n hx hb d_M_atomic_292 rfl (lv_at hl 4 rfl) ?_
                refine lv_iconst (v := 2) hx hb d_M_atomic_293 (by decide) ?_
                refine lv_icmp_eq (tgt := 305) hx hb d_M_atomic_294 (by decide) (fun c_23 => ?_) (fun c_23 => ?_)
                · refine lv_aload_n hx hb d_M_atomic_305 rfl (lv_at hl 3 rfl) ?_
                  refine call_M_next S inC m_850 ⟨(Nat.le_of_ble_eq_true rfl), (Nat.le_of_ble_eq_true rfl)⟩ hl.1 (Nat.le_of_ble_eq_true rfl) d_M_atomic_306 ⟨(Nat.le_of_ble_eq_true rfl), (Nat.le_of_ble_eq_true rfl)⟩ hK ap ok hS hA hw (by omega) (fun H locs hw hS _ => ?_)
                  have hL64 := sNext_le (sReg d (sSay 30510 ((0 : Int32), (sName (q_M_atomic_87 bi d a b f x1 (q_M_atomic_23 bi d a b f x1) (u_M_atomic_49 bi d a b f x1) (u_M_atomic_76 bi d a b f x1)) st).2)))
                  refine lv_aload_n hx hb d_M_atomic_309 rfl (lv_at hl 3 rfl) ?_
                  refine lv_aload_n hx hb d_M_atomic_310 rfl (lv_at hl 3 rfl) ?_
                  obtain ⟨rg, ft, h1, h2, hP⟩ := id hw
                  refine va_get (D := (dC, dI)) (ci := 2) (v := .int a) (C := R_M) (T := F_M) (N := 14) hx hb hT i_M hown hK hP 0 rfl rfl 9 (by decide) (hT _ m_762) (fun _ h9 => h9) rfl d_M_atomic_311 ?_
                  refine call_M_bracket S inC m_905 ⟨(Nat.le_of_ble_eq_true rfl), (Nat.le_of_ble_eq_true rfl)⟩ hl.1 (Nat.le_of_ble_eq_true rfl) d_M_atomic_314 ⟨(Nat.le_of_ble_eq_true rfl), (Nat.le_of_ble_eq_true rfl)⟩ hK ap ok hS hA hw ok.2.1 (by omega) (fun H locs hw hS _ => ?_)
                  have hL65 := sBra_le a (sNext (sReg d (sSay 30510 ((0 : Int32), (sName (q_M_atomic_87 bi d a b f x1 (q_M_atomic_23 bi d a b f x1) (u_M_atomic_49 bi d a b f x1) (u_M_atomic_76 bi d a b f x1)) st).2))))
                  exact W.vret hx hb hr (fun t ht hW => ⟨⟨(), rfl, trivial, mwd_at ht (mwd_eq (by rw [g_M_atomic, if_pos c_1, if_pos c_2, if_pos c_15, if_neg c_16, if_neg c_17, if_pos c_21, if_pos c_22, if_pos c_23]) hw)⟩, hS.F ht⟩) hS.2.2 d_M_atomic_317
                · refine lv_aload_n hx hb d_M_atomic_297 rfl (lv_at hl 3 rfl) ?_
                  refine lv_aload_n hx hb d_M_atomic_298 rfl (lv_at hl 3 rfl) ?_
                  obtain ⟨rg, ft, h1, h2, hP⟩ := id hw
                  refine va_get (D := (dC, dI)) (ci := 2) (v := .int b) (C := R_M) (T := F_M) (N := 14) hx hb hT i_M hown hK hP 0 rfl rfl 10 (by decide) (hT _ m_763) (fun _ h9 => h9) rfl d_M_atomic_299 ?_
                  refine call_M_register S inC m_846 ⟨(Nat.le_of_ble_eq_true rfl), (Nat.le_of_ble_eq_true rfl)⟩ hl.1 (Nat.le_of_ble_eq_true rfl) d_M_atomic_302 ⟨(Nat.le_of_ble_eq_true rfl), (Nat.le_of_ble_eq_true rfl)⟩ hK ap ok hS hA hw ok.2.2 (by omega) (fun H locs hw hS _ => ?_)
                  have hL66 := sReg_le b (sReg d (sSay 30510 ((0 : Int32), (sName (q_M_atomic_87 bi d a b f x1 (q_M_atomic_23 bi d a b f x1) (u_M_atomic_49 bi d a b f x1) (u_M_atomic_76 bi d a b f x1)) st).2)))
                  refine lv_aload_n hx hb d_M_atomic_305 rfl (lv_at hl 3 rfl) ?_
                  refine call_M_next S inC m_850 ⟨(Nat.le_of_ble_eq_true rfl), (Nat.le_of_ble_eq_true rfl)⟩ hl.1 (Nat.le_of_ble_eq_true rfl) d_M_atomic_306 ⟨(Nat.le_of_ble_eq_true rfl), (Nat.le_of_ble_eq_true rfl)⟩ hK ap ok hS hA hw (by omega) (fun H locs hw hS _ => ?_)
                  have hL67 := sNext_le (sReg b (sReg d (sSay 30510 ((0 : Int32), (sName (q_M_atomic_87 bi d a b f x1 (q_M_atomic_23 bi d a b f x1) (u_M_atomic_49 bi d a b f x1) (u_M_atomic_76 bi d a b f x1)) st).2))))
                  refine lv_aload_n hx hb d_M_atomic_309 rfl (lv_at hl 3 rfl) ?_
                  refine lv_aload_n hx hb d_M_atomic_310 rfl (lv_at hl 3 rfl) ?_
                  obtain ⟨rg, ft, h1, h2, hP⟩ := id hw
                  refine va_get (D := (dC, dI)) (ci := 2) (v := .int a) (C := R_M) (T := F_M) (N := 14) hx hb hT i_M hown hK hP 0 rfl rfl 9 (by decide) (hT _ m_762) (fun _ h9 => h9) rfl d_M_atomic_311 ?_
                  refine call_M_bracket S inC m_905 ⟨(Nat.le_of_ble_eq_true rfl), (Nat.le_of_ble_eq_true rfl)⟩ hl.1 (Nat.le_of_ble_eq_true rfl) d_M_atomic_314 ⟨(Nat.le_of_ble_eq_true rfl), (Nat.le_of_ble_eq_true rfl)⟩ hK ap ok hS hA hw ok.2.1 (by omega) (fun H locs hw hS _ => ?_)
                  have hL68 := sBra_le a (sNext (sReg b (sReg d (sSay 30510 ((0 : Int32), (sName (q_M_atomic_87 bi d a b f x1 (q_M_atomic_23 bi d a b f x1) (u_M_atomic_49 bi d a b f x1) (u_M_atomic_76 bi d a b f x1)) st).2)))))
                  exact W.vret hx hb hr (fun t ht hW => ⟨⟨(), rfl, trivial, mwd_at ht (mwd_eq (by rw [g_M_atomic, if_pos c_1, if_pos c_2, if_pos c_15, if_neg c_16, if_neg c_17, if_pos c_21, if_pos c_22, if_neg c_23]) hw)⟩, hS.F ht⟩) hS.2.2 d_M_atomic_317
              · refine lv_aload_n hx hb d_M_atomic_243 rfl (lv_at hl 3 rfl) ?_
                refine lv_aload_n hx hb d_M_atomic_244 rfl (lv_at hl 3 rfl) ?_
                refine lv_bipush (v := 25) hx hb d_M_atomic_245 (by decide) ?_
                refine lv_iconst (v := 2) hx hb d_M_atomic_247 (by decide) ?_
                refine call_M_part S inC m_809 ⟨(Nat.le_of_ble_eq_true rfl), (Nat.le_of_ble_eq_true rfl)⟩ hl.1 (Nat.le_of_ble_eq_true rfl) d_M_atomic_248 ⟨(Nat.le_of_ble_eq_true rfl), (Nat.le_of_ble_eq_true rfl)⟩ hK hw ?_
                refine lv_iconst (v := 1) hx hb d_M_atomic_251 (by decide) ?_
                refine rg_M_atomic_252 S inC hT (Nat.le_of_ble_eq_true rfl) (Nat.le_of_ble_eq_true rfl) ⟨(Nat.le_of_ble_eq_true rfl), (Nat.le_of_ble_eq_true rfl)⟩ hK hw hl ?_
                refine call_M_say S inC m_837 ⟨(Nat.le_of_ble_eq_true rfl), (Nat.le_of_ble_eq_true rfl)⟩ hl.1 (Nat.le_of_ble_eq_true rfl) d_M_atomic_281 ⟨(Nat.le_of_ble_eq_true rfl), (Nat.le_of_ble_eq_true rfl)⟩ hK ap ok hS hA hw (by omega) (fun H locs hw hS _ => ?_)
                have hL69 := sSay_le (q_M_atomic_252 bi d a b f x1 (q_M_atomic_23 bi d a b f x1) (u_M_atomic_49 bi d a b f x1) (u_M_atomic_76 bi d a b f x1)) (sSay 30510 ((0 : Int32), (sName (q_M_atomic_87 bi d a b f x1 (q_M_atomic_23 bi d a b f x1) (u_M_atomic_49 bi d a b f x1) (u_M_atomic_76 bi d a b f x1)) st).2))
                refine lv_aload_n hx hb d_M_atomic_284 rfl (lv_at hl 3 rfl) ?_
                refine lv_aload_n hx hb d_M_atomic_285 rfl (lv_at hl 3 rfl) ?_
                obtain ⟨rg, ft, h1, h2, hP⟩ := id hw
                refine va_get (D := (dC, dI)) (ci := 2) (v := .int d) (C := R_M) (T := F_M) (N := 14) hx hb hT i_M hown hK hP 0 rfl rfl 8 (by decide) (hT _ m_761) (fun _ h9 => h9) rfl d_M_atomic_286 ?_
                refine call_M_register S inC m_846 ⟨(Nat.le_of_ble_eq_true rfl), (Nat.le_of_ble_eq_true rfl)⟩ hl.1 (Nat.le_of_ble_eq_true rfl) d_M_atomic_289 ⟨(Nat.le_of_ble_eq_true rfl), (Nat.le_of_ble_eq_true rfl)⟩ hK ap ok hS hA hw ok.1 (by omega) (fun H locs hw hS _ => ?_)
                have hL70 := sReg_le d (sSay (q_M_atomic_252 bi d a b f x1 (q_M_atomic_23 bi d a b f x1) (u_M_atomic_49 bi d a b f x1) (u_M_atomic_76 bi d a b f x1)) (sSay 30510 ((0 : Int32), (sName (q_M_atomic_87 bi d a b f x1 (q_M_atomic_23 bi d a b f x1) (u_M_atomic_49 bi d a b f x1) (u_M_atomic_76 bi d a b f x1)) st).2)))
                refine lv_iload_n hx hb d_M_atomic_292 rfl (lv_at hl 4 rfl) ?_
                refine lv_iconst (v := 2) hx hb d_M_atomic_293 (by decide) ?_
                refine lv_icmp_eq (tgt := 305) hx hb d_M_atomic_294 (by decide) (fun c_24 => ?_) (fun c_24 => ?_)
                · refine lv_aload_n hx hb d_M_atomic_305 rfl (lv_at hl 3 rfl) ?_
                  refine call_M_next S inC m_850 ⟨(Nat.le_of_ble_eq_true rfl), (Nat.le_of_ble_eq_true rfl)⟩ hl.1 (Nat.le_of_ble_eq_true rfl) d_M_atomic_306 ⟨(Nat.le_of_ble_eq_true rfl), (Nat.le_of_ble_eq_true rfl)⟩ hK ap ok hS hA hw (by omega) (fun H locs hw hS _ => ?_)
                  have hL71 := sNext_le (sReg d (sSay (q_M_atomic_252 bi d a b f x1 (q_M_atomic_23 bi d a b f x1) (u_M_atomic_49 bi d a b f x1) (u_M_atomic_76 bi d a b f x1)) (sSay 30510 ((0 : Int32), (sName (q_M_atomic_87 bi d a b f x1 (q_M_atomic_23 bi d a b f x1) (u_M_atomic_49 bi d a b f x1) (u_M_atomic_76 bi d a b f x1)) st).2))))
                  refine lv_aload_n hx hb d_M_atomic_309 rfl (lv_at hl 3 rfl) ?_
                  refine lv_aload_n hx hb d_M_atomic_310 rfl (lv_at hl 3 rfl) ?_
                  obtain ⟨rg, ft, h1, h2, hP⟩ := id hw
                  refine va_get (D := (dC, dI)) (ci := 2) (v := .int a) (C := R_M) (T := F_M) (N := 14) hx hb hT i_M hown hK hP 0 rfl rfl 9 (by decide) (hT _ m_762) (fun _ h9 => h9) rfl d_M_atomic_311 ?_
                  refine call_M_bracket S inC m_905 ⟨(Nat.le_of_ble_eq_true rfl), (Nat.le_of_ble_eq_true rfl)⟩ hl.1 (Nat.le_of_ble_eq_true rfl) d_M_atomic_314 ⟨(Nat.le_of_ble_eq_true rfl), (Nat.le_of_ble_eq_true rfl)⟩ hK ap ok hS hA hw ok.2.1 (by omega) (fun H locs hw hS _ => ?_)
                  have hL72 := sBra_le a (sNext (sReg d (sSay (q_M_atomic_252 bi d a b f x1 (q_M_atomic_23 bi d a b f x1) (u_M_atomic_49 bi d a b f x1) (u_M_atomic_76 bi d a b f x1)) (sSay 30510 ((0 : Int32), (sName (q_M_atomic_87 bi d a b f x1 (q_M_atomic_23 bi d a b f x1) (u_M_atomic_49 bi d a b f x1) (u_M_atomic_76 bi d a b f x1)) st).2)))))
                  exact W.vret hx hb hr (fun t ht hW => ⟨⟨(), rfl, trivial, mwd_at ht (mwd_eq (by rw [g_M_atomic, if_pos c_1, if_pos c_2, if_pos c_15, if_neg c_16, if_neg c_17, if_pos c_21, if_neg c_22, if_pos c_24]) hw)⟩, hS.F ht⟩) hS.2.2 d_M_atomic_317
                · refine lv_aload_n hx hb d_M_atomic_297 rfl (lv_at hl 3 rfl) ?_
                  refine lv_aload_n hx hb d_M_atomic_298 rfl (lv_at hl 3 rfl) ?_
                  obtain ⟨rg, ft, h1, h2, hP⟩ := id hw
                  refine va_get (D := (dC, dI)) (ci := 2) (v := .int b) (C := R_M) (T := F_M) (N := 14) hx hb hT i_M hown hK hP 0 rfl rfl 10 (by decide) (hT _ m_763) (fun _ h9 => h9) rfl d_M_atomic_299 ?_
                  refine call_M_register S inC m_846 ⟨(Nat.le_of_ble_eq_true rfl), (Nat.le_of_ble_eq_true rfl)⟩ hl.1 (Nat.le_of_ble_eq_true rfl) d_M_atomic_302 ⟨(Nat.le_of_ble_eq_true rfl), (Nat.le_of_ble_eq_true rfl)⟩ hK ap ok hS hA hw ok.2.2 (by omega) (fun H locs hw hS _ => ?_)
                  have hL73 := sReg_le b (sReg d (sSay (q_M_atomic_252 bi d a b f x1 (q_M_atomic_23 bi d a b f x1) (u_M_atomic_49 bi d a b f x1) (u_M_atomic_76 bi d a b f x1)) (sSay 30510 ((0 : Int32), (sName (q_M_atomic_87 bi d a b f x1 (q_M_atomic_23 bi d a b f x1) (u_M_atomic_49 bi d a b f x1) (u_M_atomic_76 bi d a b f x1)) st).2))))
                  refine lv_aload_n hx hb d_M_atomic_305 rfl (lv_at hl 3 rfl) ?_
                  refine call_M_next S inC m_850 ⟨(Nat.le_of_ble_eq_true rfl), (Nat.le_of_ble_eq_true rfl)⟩ hl.1 (Nat.le_of_ble_eq_true rfl) d_M_atomic_306 ⟨(Nat.le_of_ble_eq_true rfl), (Nat.le_of_ble_eq_true rfl)⟩ hK ap ok hS hA hw (by omega) (fun H locs hw hS _ => ?_)
                  have hL74 := sNext_le (sReg b (sReg d (sSay (q_M_atomic_252 bi d a b f x1 (q_M_atomic_23 bi d a b f x1) (u_M_atomic_49 bi d a b f x1) (u_M_atomic_76 bi d a b f x1)) (sSay 30510 ((0 : Int32), (sName (q_M_atomic_87 bi d a b f x1 (q_M_atomic_23 bi d a b f x1) (u_M_atomic_49 bi d a b f x1) (u_M_atomic_76 bi d a b f x1)) st).2)))))
                  refine lv_aload_n hx hb d_M_atomic_309 rfl (lv_at hl 3 rfl) ?_
                  refine lv_aload_n hx hb d_M_atomic_310 rfl (lv_at hl 3 rfl) ?_
                  obtain ⟨rg, ft, h1, h2, hP⟩ := id hw
                  refine va_get (D := (dC, dI)) (ci := 2) (v := .int a) (C := R_M) (T := F_M) (N := 14) hx hb hT i_M hown hK hP 0 rfl rfl 9 (by decide) (hT _ m_762) (fun _ h9 => h9) rfl d_M_atomic_311 ?_
                  refine call_M_bracket S inC m_905 ⟨(Nat.le_of_ble_eq_true rfl), (Nat.le_of_ble_eq_true rfl)⟩ hl.1 (Nat.le_of_ble_eq_true rfl) d_M_atomic_314 ⟨(Nat.le_of_ble_eq_true rfl), (Nat.le_of_ble_eq_true rfl)⟩ hK ap ok hS hA hw ok.2.1 (by omega) (fun H locs hw hS _ => ?_)
                  have hL75 := sBra_le a (sNext (sReg b (sReg d (sSay (q_M_atomic_252 bi d a b f x1 (q_M_atomic_23 bi d a b f x1) (u_M_atomic_49 bi d a b f x1) (u_M_atomic_76 bi d a b f x1)) (sSay 30510 ((0 : Int32), (sName (q_M_atomic_87 bi d a b f x1 (q_M_atomic_23 bi d a b f x1) (u_M_atomic_49 bi d a b f x1) (u_M_atomic_76 bi d a b f x1)) st).2))))))
                  exact W.vret hx hb hr (fun t ht hW => ⟨⟨(), rfl, trivial, mwd_at ht (mwd_eq (by rw [g_M_atomic, if_pos c_1, if_pos c_2, if_pos c_15, if_neg c_16, if_neg c_17, if_pos c_21, if_neg c_22, if_neg c_24]) hw)⟩, hS.F ht⟩) hS.2.2 d_M_atomic_317
            · refine lv_aload_n hx hb d_M_atomic_128 rfl (lv_at hl 3 rfl) ?_
              refine lv_iload_n hx hb d_M_atomic_129 rfl (lv_at hl 2 rfl) ?_
              refine rg_M_atomic_130 S inC hT (Nat.le_of_ble_eq_true rfl) (Nat.le_of_ble_eq_true rfl) ⟨(Nat.le_of_ble_eq_true rfl), (Nat.le_of_ble_eq_true rfl)⟩ hK hw hl ?_
              refine call_M_say S inC m_837 ⟨(Nat.le_of_ble_eq_true rfl), (Nat.le_of_ble_eq_true rfl)⟩ hl.1 (Nat.le_of_ble_eq_true rfl) d_M_atomic_223 ⟨(Nat.le_of_ble_eq_true rfl), (Nat.le_of_ble_eq_true rfl)⟩ hK ap ok hS hA hw (by omega) (fun H locs hw hS _ => ?_)
              have hL76 := sSay_le (q_M_atomic_130 bi d a b f x1 (q_M_atomic_23 bi d a b f x1) (u_M_atomic_49 bi d a b f x1) (u_M_atomic_76 bi d a b f x1)) ((0 : Int32), (sName (q_M_atomic_87 bi d a b f x1 (q_M_atomic_23 bi d a b f x1) (u_M_atomic_49 bi d a b f x1) (u_M_atomic_76 bi d a b f x1)) st).2)
              refine lv_aload_n hx hb d_M_atomic_226 rfl (lv_at hl 3 rfl) ?_
              refine lv_ldc2 (v := 30510) hx hb hown (hT _ m_942) d_M_atomic_227 ?_
              refine call_M_say S inC m_837 ⟨(Nat.le_of_ble_eq_true rfl), (Nat.le_of_ble_eq_true rfl)⟩ hl.1 (Nat.le_of_ble_eq_true rfl) d_M_atomic_230 ⟨(Nat.le_of_ble_eq_true rfl), (Nat.le_of_ble_eq_true rfl)⟩ hK ap ok hS hA hw (by omega) (fun H locs hw hS _ => ?_)
              have hL77 := sSay_le 30510 (sSay (q_M_atomic_130 bi d a b f x1 (q_M_atomic_23 bi d a b f x1) (u_M_atomic_49 bi d a b f x1) (u_M_atomic_76 bi d a b f x1)) ((0 : Int32), (sName (q_M_atomic_87 bi d a b f x1 (q_M_atomic_23 bi d a b f x1) (u_M_atomic_49 bi d a b f x1) (u_M_atomic_76 bi d a b f x1)) st).2))
              refine lv_aload_n hx hb d_M_atomic_233 rfl (lv_at hl 3 rfl) ?_
              refine lv_bipush (v := 25) hx hb d_M_atomic_234 (by decide) ?_
              refine lv_iconst (v := 2) hx hb d_M_atomic_236 (by decide) ?_
              refine call_M_part S inC m_809 ⟨(Nat.le_of_ble_eq_true rfl), (Nat.le_of_ble_eq_true rfl)⟩ hl.1 (Nat.le_of_ble_eq_true rfl) d_M_atomic_237 ⟨(Nat.le_of_ble_eq_true rfl), (Nat.le_of_ble_eq_true rfl)⟩ hK hw ?_
              refine lv_if_eq (tgt := 284) hx hb d_M_atomic_240 (by decide) (fun c_25 => ?_) (fun c_25 => ?_)
              · refine lv_aload_n hx hb d_M_atomic_284 rfl (lv_at hl 3 rfl) ?_
                refine lv_aload_n hx hb d_M_atomic_285 rfl (lv_at hl 3 rfl) ?_
                obtain ⟨rg, ft, h1, h2, hP⟩ := id hw
                refine va_get (D := (dC, dI)) (ci := 2) (v := .int d) (C := R_M) (T := F_M) (N := 14) hx hb hT i_M hown hK hP 0 rfl rfl 8 (by decide) (hT _ m_761) (fun _ h9 => h9) rfl d_M_atomic_286 ?_
                refine call_M_register S inC m_846 ⟨(Nat.le_of_ble_eq_true rfl), (Nat.le_of_ble_eq_true rfl)⟩ hl.1 (Nat.le_of_ble_eq_true rfl) d_M_atomic_289 ⟨(Nat.le_of_ble_eq_true rfl), (Nat.le_of_ble_eq_true rfl)⟩ hK ap ok hS hA hw ok.1 (by omega) (fun H locs hw hS _ => ?_)
                have hL78 := sReg_le d (sSay 30510 (sSay (q_M_atomic_130 bi d a b f x1 (q_M_atomic_23 bi d a b f x1) (u_M_atomic_49 bi d a b f x1) (u_M_atomic_76 bi d a b f x1)) ((0 : Int32), (sName (q_M_atomic_87 bi d a b f x1 (q_M_atomic_23 bi d a b f x1) (u_M_atomic_49 bi d a b f x1) (u_M_atomic_76 bi d a b f x1)) st).2)))
                refine lv_iload_n hx hb d_M_atomic_292 rfl (lv_at hl 4 rfl) ?_
                refine lv_iconst (v := 2) hx hb d_M_atomic_293 (by decide) ?_
                refine lv_icmp_eq (tgt := 305) hx hb d_M_atomic_294 (by decide) (fun c_26 => ?_) (fun c_26 => ?_)
                · refine lv_aload_n hx hb d_M_atomic_305 rfl (lv_at hl 3 rfl) ?_
                  refine call_M_next S inC m_850 ⟨(Nat.le_of_ble_eq_true rfl), (Nat.le_of_ble_eq_true rfl)⟩ hl.1 (Nat.le_of_ble_eq_true rfl) d_M_atomic_306 ⟨(Nat.le_of_ble_eq_true rfl), (Nat.le_of_ble_eq_true rfl)⟩ hK ap ok hS hA hw (by omega) (fun H locs hw hS _ => ?_)
                  have hL79 := sNext_le (sReg d (sSay 30510 (sSay (q_M_atomic_130 bi d a b f x1 (q_M_atomic_23 bi d a b f x1) (u_M_atomic_49 bi d a b f x1) (u_M_atomic_76 bi d a b f x1)) ((0 : Int32), (sName (q_M_atomic_87 bi d a b f x1 (q_M_atomic_23 bi d a b f x1) (u_M_atomic_49 bi d a b f x1) (u_M_atomic_76 bi d a b f x1)) st).2))))
                  refine lv_aload_n hx hb d_M_atomic_309 rfl (lv_at hl 3 rfl) ?_
                  refine lv_aload_n hx hb d_M_atomic_310 rfl (lv_at hl 3 rfl) ?_
                  obtain ⟨rg, ft, h1, h2, hP⟩ := id hw
                  refine va_get (D := (dC, dI)) (ci := 2) (v := .int a) (C := R_M) (T := F_M) (N := 14) hx hb hT i_M hown hK hP 0 rfl rfl 9 (by decide) (hT _ m_762) (fun _ h9 => h9) rfl d_M_atomic_311 ?_
                  refine call_M_bracket S inC m_905 ⟨(Nat.le_of_ble_eq_true rfl), (Nat.le_of_ble_eq_true rfl)⟩ hl.1 (Nat.le_of_ble_eq_true rfl) d_M_atomic_314 ⟨(Nat.le_of_ble_eq_true rfl), (Nat.le_of_ble_eq_true rfl)⟩ hK ap ok hS hA hw ok.2.1 (by omega) (fun H locs hw hS _ => ?_)
                  have hL80 := sBra_le a (sNext (sReg d (sSay 30510 (sSay (q_M_atomic_130 bi d a b f x1 (q_M_atomic_23 bi d a b f x1) (u_M_atomic_49 bi d a b f x1) (u_M_atomic_76 bi d a b f x1)) ((0 : Int32), (sName (q_M_atomic_87 bi d a b f x1 (q_M_atomic_23 bi d a b f x1) (u_M_atomic_49 bi d a b f x1) (u_M_atomic_76 bi d a b f x1)) st).2)))))
                  exact W.vret hx hb hr (fun t ht hW => ⟨⟨(), rfl, trivial, mwd_at ht (mwd_eq (by rw [g_M_atomic, if_pos c_1, if_pos c_2, if_pos c_15, if_neg c_16, if_neg c_17, if_neg c_21, if_pos c_25, if_pos c_26]) hw)⟩, hS.F ht⟩) hS.2.2 d_M_atomic_317
                · refine lv_aload_n hx hb d_M_atomic_297 rfl (lv_at hl 3 rfl) ?_
                  refine lv_aload_n hx hb d_M_atomic_298 rfl (lv_at hl 3 rfl) ?_
                  obtain ⟨rg, ft, h1, h2, hP⟩ := id hw
                  refine va_get (D := (dC, dI)) (ci := 2) (v := .int b) (C := R_M) (T := F_M) (N := 14) hx hb hT i_M hown hK hP 0 rfl rfl 10 (by decide) (hT _ m_763) (fun _ h9 => h9) rfl d_M_atomic_299 ?_
                  refine call_M_register S inC m_846 ⟨(Nat.le_of_ble_eq_true rfl), (Nat.le_of_ble_eq_true rfl)⟩ hl.1 (Nat.le_of_ble_eq_true rfl) d_M_atomic_302 ⟨(Nat.le_of_ble_eq_true rfl), (Nat.le_of_ble_eq_true rfl)⟩ hK ap ok hS hA hw ok.2.2 (by omega) (fun H locs hw hS _ => ?_)
                  have hL81 := sReg_le b (sReg d (sSay 30510 (sSay (q_M_atomic_130 bi d a b f x1 (q_M_atomic_23 bi d a b f x1) (u_M_atomic_49 bi d a b f x1) (u_M_atomic_76 bi d a b f x1)) ((0 : Int32), (sName (q_M_atomic_87 bi d a b f x1 (q_M_atomic_23 bi d a b f x1) (u_M_atomic_49 bi d a b f x1) (u_M_atomic_76 bi d a b f x1)) st).2))))
                  refine lv_aload_n hx hb d_M_atomic_305 rfl (lv_at hl 3 rfl) ?_
                  refine call_M_next S inC m_850 ⟨(Nat.le_of_ble_eq_true rfl), (Nat.le_of_ble_eq_true rfl)⟩ hl.1 (Nat.le_of_ble_eq_true rfl) d_M_atomic_306 ⟨(Nat.le_of_ble_eq_true rfl), (Nat.le_of_ble_eq_true rfl)⟩ hK ap ok hS hA hw (by omega) (fun H locs hw hS _ => ?_)
                  have hL82 := sNext_le (sReg b (sReg d (sSay 30510 (sSay (q_M_atomic_130 bi d a b f x1 (q_M_atomic_23 bi d a b f x1) (u_M_atomic_49 bi d a b f x1) (u_M_atomic_76 bi d a b f x1)) ((0 : Int32), (sName (q_M_atomic_87 bi d a b f x1 (q_M_atomic_23 bi d a b f x1) (u_M_atomic_49 bi d a b f x1) (u_M_atomic_76 bi d a b f x1)) st).2)))))
                  refine lv_aload_n hx hb d_M_atomic_309 rfl (lv_at hl 3 rfl) ?_
                  refine lv_aload_n hx hb d_M_atomic_310 rfl (lv_at hl 3 rfl) ?_
                  obtain ⟨rg, ft, h1, h2, hP⟩ := id hw
                  refine va_get (D := (dC, dI)) (ci := 2) (v := .int a) (C := R_M) (T := F_M) (N := 14) hx hb hT i_M hown hK hP 0 rfl rfl 9 (by decide) (hT _ m_762) (fun _ h9 => h9) rfl d_M_atomic_311 ?_
                  refine call_M_bracket S inC m_905 ⟨(Nat.le_of_ble_eq_true rfl), (Nat.le_of_ble_eq_true rfl)⟩ hl.1 (Nat.le_of_ble_eq_true rfl) d_M_atomic_314 ⟨(Nat.le_of_ble_eq_true rfl), (Nat.le_of_ble_eq_true rfl)⟩ hK ap ok hS hA hw ok.2.1 (by omega) (fun H locs hw hS _ => ?_)
                  have hL83 := sBra_le a (sNext (sReg b (sReg d (sSay 30510 (sSay (q_M_atomic_130 bi d a b f x1 (q_M_atomic_23 bi d a b f x1) (u_M_atomic_49 bi d a b f x1) (u_M_atomic_76 bi d a b f x1)) ((0 : Int32), (sName (q_M_atomic_87 bi d a b f x1 (q_M_atomic_23 bi d a b f x1) (u_M_atomic_49 bi d a b f x1) (u_M_atomic_76 bi d a b f x1)) st).2))))))
                  exact W.vret hx hb hr (fun t ht hW => ⟨⟨(), rfl, trivial, mwd_at ht (mwd_eq (by rw [g_M_atomic, if_pos c_1, if_pos c_2, if_pos c_15, if_neg c_16, if_neg c_17, if_neg c_21, if_pos c_25, if_neg c_26]) hw)⟩, hS.F ht⟩) hS.2.2 d_M_atomic_317
              · refine lv_aload_n hx hb d_M_atomic_243 rfl (lv_at hl 3 rfl) ?_
                refine lv_aload_n hx hb d_M_atomic_244 rfl (lv_at hl 3 rfl) ?_
                refine lv_bipush (v := 25) hx hb d_M_atomic_245 (by decide) ?_
                refine lv_iconst (v := 2) hx hb d_M_atomic_247 (by decide) ?_
                refine call_M_part S inC m_809 ⟨(Nat.le_of_ble_eq_true rfl), (Nat.le_of_ble_eq_true rfl)⟩ hl.1 (Nat.le_of_ble_eq_true rfl) d_M_atomic_248 ⟨(Nat.le_of_ble_eq_true rfl), (Nat.le_of_ble_eq_true rfl)⟩ hK hw ?_
                refine lv_iconst (v := 1) hx hb d_M_atomic_251 (by decide) ?_
                refine rg_M_atomic_252 S inC hT (Nat.le_of_ble_eq_true rfl) (Nat.le_of_ble_eq_true rfl) ⟨(Nat.le_of_ble_eq_true rfl), (Nat.le_of_ble_eq_true rfl)⟩ hK hw hl ?_
                refine call_M_say S inC m_837 ⟨(Nat.le_of_ble_eq_true rfl), (Nat.le_of_ble_eq_true rfl)⟩ hl.1 (Nat.le_of_ble_eq_true rfl) d_M_atomic_281 ⟨(Nat.le_of_ble_eq_true rfl), (Nat.le_of_ble_eq_true rfl)⟩ hK ap ok hS hA hw (by omega) (fun H locs hw hS _ => ?_)
                have hL84 := sSay_le (q_M_atomic_252 bi d a b f x1 (q_M_atomic_23 bi d a b f x1) (u_M_atomic_49 bi d a b f x1) (u_M_atomic_76 bi d a b f x1)) (sSay 30510 (sSay (q_M_atomic_130 bi d a b f x1 (q_M_atomic_23 bi d a b f x1) (u_M_atomic_49 bi d a b f x1) (u_M_atomic_76 bi d a b f x1)) ((0 : Int32), (sName (q_M_atomic_87 bi d a b f x1 (q_M_atomic_23 bi d a b f x1) (u_M_atomic_49 bi d a b f x1) (u_M_atomic_76 bi d a b f x1)) st).2)))
                refine lv_aload_n hx hb d_M_atomic_284 rfl (lv_at hl 3 rfl) ?_
                refine lv_aload_n hx hb d_M_atomic_285 rfl (lv_at hl 3 rfl) ?_
                obtain ⟨rg, ft, h1, h2, hP⟩ := id hw
                refine va_get (D := (dC, dI)) (ci := 2) (v := .int d) (C := R_M) (T := F_M) (N := 14) hx hb hT i_M hown hK hP 0 rfl rfl 8 (by decide) (hT _ m_761) (fun _ h9 => h9) rfl d_M_atomic_286 ?_
                refine call_M_register S inC m_846 ⟨(Nat.le_of_ble_eq_true rfl), (Nat.le_of_ble_eq_true rfl)⟩ hl.1 (Nat.le_of_ble_eq_true rfl) d_M_atomic_289 ⟨(Nat.le_of_ble_eq_true rfl), (Nat.le_of_ble_eq_true rfl)⟩ hK ap ok hS hA hw ok.1 (by omega) (fun H locs hw hS _ => ?_)
                have hL85 := sReg_le d (sSay (q_M_atomic_252 bi d a b f x1 (q_M_atomic_23 bi d a b f x1) (u_M_atomic_49 bi d a b f x1) (u_M_atomic_76 bi d a b f x1)) (sSay 30510 (sSay (q_M_atomic_130 bi d a b f x1 (q_M_atomic_23 bi d a b f x1) (u_M_atomic_49 bi d a b f x1) (u_M_atomic_76 bi d a b f x1)) ((0 : Int32), (sName (q_M_atomic_87 bi d a b f x1 (q_M_atomic_23 bi d a b f x1) (u_M_atomic_49 bi d a b f x1) (u_M_atomic_76 bi d a b f x1)) st).2))))
                refine lv_iload_n hx hb d_M_atomic_292 rfl (lv_at hl 4 rfl) ?_
                refine lv_iconst (v := 2) hx hb d_M_atomic_293 (by decide) ?_
                refine lv_icmp_eq (tgt := 305) hx hb d_M_atomic_294 (by decide) (fun c_27 => ?_) (fun c_27 => ?_)
                · refine lv_aload_n hx hb d_M_atomic_305 rfl (lv_at hl 3 rfl) ?_
                  refine call_M_next S inC m_850 ⟨(Nat.le_of_ble_eq_true rfl), (Nat.le_of_ble_eq_true rfl)⟩ hl.1 (Nat.le_of_ble_eq_true rfl) d_M_atomic_306 ⟨(Nat.le_of_ble_eq_true rfl), (Nat.le_of_ble_eq_true rfl)⟩ hK ap ok hS hA hw (by omega) (fun H locs hw hS _ => ?_)
                  have hL86 := sNext_le (sReg d (sSay (q_M_atomic_252 bi d a b f x1 (q_M_atomic_23 bi d a b f x1) (u_M_atomic_49 bi d a b f x1) (u_M_atomic_76 bi d a b f x1)) (sSay 30510 (sSay (q_M_atomic_130 bi d a b f x1 (q_M_atomic_23 bi d a b f x1) (u_M_atomic_49 bi d a b f x1) (u_M_atomic_76 bi d a b f x1)) ((0 : Int32), (sName (q_M_atomic_87 bi d a b f x1 (q_M_atomic_23 bi d a b f x1) (u_M_atomic_49 bi d a b f x1) (u_M_atomic_76 bi d a b f x1)) st).2)))))
                  refine lv_aload_n hx hb d_M_atomic_309 rfl (lv_at hl 3 rfl) ?_
                  refine lv_aload_n hx hb d_M_atomic_310 rfl (lv_at hl 3 rfl) ?_
                  obtain ⟨rg, ft, h1, h2, hP⟩ := id hw
                  refine va_get (D := (dC, dI)) (ci := 2) (v := .int a) (C := R_M) (T := F_M) (N := 14) hx hb hT i_M hown hK hP 0 rfl rfl 9 (by decide) (hT _ m_762) (fun _ h9 => h9) rfl d_M_atomic_311 ?_
                  refine call_M_bracket S inC m_905 ⟨(Nat.le_of_ble_eq_true rfl), (Nat.le_of_ble_eq_true rfl)⟩ hl.1 (Nat.le_of_ble_eq_true rfl) d_M_atomic_314 ⟨(Nat.le_of_ble_eq_true rfl), (Nat.le_of_ble_eq_true rfl)⟩ hK ap ok hS hA hw ok.2.1 (by omega) (fun H locs hw hS _ => ?_)
                  have hL87 := sBra_le a (sNext (sReg d (sSay (q_M_atomic_252 bi d a b f x1 (q_M_atomic_23 bi d a b f x1) (u_M_atomic_49 bi d a b f x1) (u_M_atomic_76 bi d a b f x1)) (sSay 30510 (sSay (q_M_atomic_130 bi d a b f x1 (q_M_atomic_23 bi d a b f x1) (u_M_atomic_49 bi d a b f x1) (u_M_atomic_76 bi d a b f x1)) ((0 : Int32), (sName (q_M_atomic_87 bi d a b f x1 (q_M_atomic_23 bi d a b f x1) (u_M_atomic_49 bi d a b f x1) (u_M_atomic_76 bi d a b f x1)) st).2))))))
                  exact W.vret hx hb hr (fun t ht hW => ⟨⟨(), rfl, trivial, mwd_at ht (mwd_eq (by rw [g_M_atomic, if_pos c_1, if_pos c_2, if_pos c_15, if_neg c_16, if_neg c_17, if_neg c_21, if_neg c_25, if_pos c_27]) hw)⟩, hS.F ht⟩) hS.2.2 d_M_atomic_317
                · refine lv_aload_n hx hb d_M_atomic_297 rfl (lv_at hl 3 rfl) ?_
                  refine lv_aload_n hx hb d_M_atomic_298 rfl (lv_at hl 3 rfl) ?_
                  obtain ⟨rg, ft, h1, h2, hP⟩ := id hw
                  refine va_get (D := (dC, dI)) (ci := 2) (v := .int b) (C := R_M) (T := F_M) (N := 14) hx hb hT i_M hown hK hP 0 rfl rfl 10 (by decide) (hT _ m_763) (fun _ h9 => h9) rfl d_M_atomic_299 ?_
                  refine call_M_register S inC m_846 ⟨(Nat.le_of_ble_eq_true rfl), (Nat.le_of_ble_eq_true rfl)⟩ hl.1 (Nat.le_of_ble_eq_true rfl) d_M_atomic_302 ⟨(Nat.le_of_ble_eq_true rfl), (Nat.le_of_ble_eq_true rfl)⟩ hK ap ok hS hA hw ok.2.2 (by omega) (fun H locs hw hS _ => ?_)
                  have hL88 := sReg_le b (sReg d (sSay (q_M_atomic_252 bi d a b f x1 (q_M_atomic_23 bi d a b f x1) (u_M_atomic_49 bi d a b f x1) (u_M_atomic_76 bi d a b f x1)) (sSay 30510 (sSay (q_M_atomic_130 bi d a b f x1 (q_M_atomic_23 bi d a b f x1) (u_M_atomic_49 bi d a b f x1) (u_M_atomic_76 bi d a b f x1)) ((0 : Int32), (sName (q_M_atomic_87 bi d a b f x1 (q_M_atomic_23 bi d a b f x1) (u_M_atomic_49 bi d a b f x1) (u_M_atomic_76 bi d a b f x1)) st).2)))))
                  refine lv_aload_n hx hb d_M_atomic_305 rfl (lv_at hl 3 rfl) ?_
                  refine call_M_next S inC m_850 ⟨(Nat.le_of_ble_eq_true rfl), (Nat.le_of_ble_eq_true rfl)⟩ hl.1 (Nat.le_of_ble_eq_true rfl) d_M_atomic_306 ⟨(Nat.le_of_ble_eq_true rfl), (Nat.le_of_ble_eq_true rfl)⟩ hK ap ok hS hA hw (by omega) (fun H locs hw hS _ => ?_)
                  have hL89 := sNext_le (sReg b (sReg d (sSay (q_M_atomic_252 bi d a b f x1 (q_M_atomic_23 bi d a b f x1) (u_M_atomic_49 bi d a b f x1) (u_M_atomic_76 bi d a b f x1)) (sSay 30510 (sSay (q_M_atomic_130 bi d a b f x1 (q_M_atomic_23 bi d a b f x1) (u_M_atomic_49 bi d a b f x1) (u_M_atomic_76 bi d a b f x1)) ((0 : Int32), (sName (q_M_atomic_87 bi d a b f x1 (q_M_atomic_23 bi d a b f x1) (u_M_atomic_49 bi d a b f x1) (u_M_atomic_76 bi d a b f x1)) st).2))))))
                  refine lv_aload_n hx hb d_M_atomic_309 rfl (lv_at hl 3 rfl) ?_
                  refine lv_aload_n hx hb d_M_atomic_310 rfl (lv_at hl 3 rfl) ?_
                  obtain ⟨rg, ft, h1, h2, hP⟩ := id hw
                  refine va_get (D := (dC, dI)) (ci := 2) (v := .int a) (C := R_M) (T := F_M) (N := 14) hx hb hT i_M hown hK hP 0 rfl rfl 9 (by decide) (hT _ m_762) (fun _ h9 => h9) rfl d_M_atomic_311 ?_
                  refine call_M_bracket S inC m_905 ⟨(Nat.le_of_ble_eq_true rfl), (Nat.le_of_ble_eq_true rfl)⟩ hl.1 (Nat.le_of_ble_eq_true rfl) d_M_atomic_314 ⟨(Nat.le_of_ble_eq_true rfl), (Nat.le_of_ble_eq_true rfl)⟩ hK ap ok hS hA hw ok.2.1 (by omega) (fun H locs hw hS _ => ?_)
                  have hL90 := sBra_le a (sNext (sReg b (sReg d (sSay (q_M_atomic_252 bi d a b f x1 (q_M_atomic_23 bi d a b f x1) (u_M_atomic_49 bi d a b f x1) (u_M_atomic_76 bi d a b f x1)) (sSay 30510 (sSay (q_M_atomic_130 bi d a b f x1 (q_M_atomic_23 bi d a b f x1) (u_M_atomic_49 bi d a b f x1) (u_M_atomic_76 bi d a b f x1)) ((0 : Int32), (sName (q_M_atomic_87 bi d a b f x1 (q_M_atomic_23 bi d a b f x1) (u_M_atomic_49 bi d a b f x1) (u_M_atomic_76 bi d a b f x1)) st).2)))))))
                  exact W.vret hx hb hr (fun t ht hW => ⟨⟨(), rfl, trivial, mwd_at ht (mwd_eq (by rw [g_M_atomic, if_pos c_1, if_pos c_2, if_pos c_15, if_neg c_16, if_neg c_17, if_neg c_21, if_neg c_25, if_neg c_27]) hw)⟩, hS.F ht⟩) hS.2.2 d_M_atomic_317
        · exact W.vret hx hb hr (fun t ht hW => ⟨⟨(), rfl, trivial, mwd_at ht (mwd_eq (by rw [g_M_atomic, if_pos c_1, if_pos c_2, if_pos c_15, if_pos c_16]) hw)⟩, hS.F ht⟩) hS.2.2 d_M_atomic_83
      · exact W.vret hx hb hr (fun t ht hW => ⟨⟨(), rfl, trivial, mwd_at ht (mwd_eq (by rw [g_M_atomic, if_pos c_1, if_pos c_2, if_neg c_15]) hw)⟩, hS.F ht⟩) hS.2.2 d_M_atomic_20
theorem call_M_atomic {p : Program} {l : Launch} {e : Env} {R : Room} {s : State} {m : MethodId} {args : Array Value} {below : List Frame} {meth : Method} {c : Code} {H : Heap} {locs : List Loc} {cells slots : Nat} {Q : State → Prop} {cc : ByteArray} {pc nL idx : Nat} {ls : Array Slot} {rest : List Value} {Ts : List Cond} {own : String} {A0 : Nat → Prop} {H0 : Heap} {dC : Nat → ClassId} {dI : Nat → Nat → Nat} {cI cC : ClassId} {m0 mt ms mr mk : Nat} {th yb bi d a b f : Int32} {str fk : Nat → Int32} {st : MT} {x1 : Int32} (S : CallFix p m c cc nL s args Ts own) (hTs : ∀ w ∈ WT, w ∈ Ts) (hlk : Cond.methodLink own idx y_M_atomic ∈ WT) (hR : 3 + 1 ≤ R.frames ∧ 8 + (5 + 11) + 67 ≤ R.locals) (hsz : ls.size = nL) (hrm : (rest.map fun v => v.category).sum ≤ 8) (hdg : decode cc pc = .ok (.invokevirtual idx, 3)) (hc : cells ≤ R.cells ∧ slots ≤ R.slots) (hK : rK dC dI cI cC s) (ap : apM m0 mt ms mr mk) (ok : mOk d a b) (hS : va_S A0 H0 H locs) (hA : ∀ q, aM m0 mt ms mr mk q → A0 q) (hw : mwd dC dI cI cC m0 mt ms mr mk th yb bi d a b f str fk st H) (hlen : st.2.2.length + 64 ≤ 64) (kk : ∀ (H1 : Heap) (locs1 : List Loc), mwd dC dI cI cC m0 mt ms mr mk th yb bi d a b f str fk (g_M_atomic bi d a b f x1 st) H1 → va_S A0 H0 H1 locs1 → (H.size ≤ H1.size ∧ ∀ q : Nat, q < H.size → ¬ aM m0 mt ms mr mk q → H1[q]? = H[q]?) → W p l e R s m args below meth c H1 locs1 cells slots Q (F0 m (pc + 3) ls (rest))) : W p l e R s m args below meth c H locs cells slots Q (F0 m pc ls (.int x1 :: .ref m0 :: rest)) :=
  va_callv (va_runV (As := [.int x1]) (rest := rest) S (c_M_atomic l dC dI cI cC m0 mt ms mr mk th yb bi d a b f str fk st x1) (cwV 1 S.2.2.2.2 (gV hTs hlk m_932 m_36 m_52 m_933) rfl rfl rfl (by decide +kernel) hR) ⟨fun a U g mk q => ⟨q.1, ⟨q.2.1.blind, q.2.2⟩⟩, mwd.recv hK hw, fun U hU hW => ⟨rfl, ⟨mU.at hK ap ok hw hU hW, hlen⟩⟩⟩ rfl rfl hsz rfl (lv_room hrm) hdg hc) hS (fun q _ h => hA q h) hA (fun u t H1 locs1 ht hvm hp hB hz hk hS1 => kk H1 locs1 (by rw [← ht]; exact hB) hS1 ⟨hz, hk⟩)

def q_M_system_25 (bi d a b f : Int32) : Int64 :=
  if bi = 115 then
    465674789733
  else
    118066057994853
set_option maxRecDepth 100000 in
set_option maxHeartbeats 4000000 in
theorem rg_M_system_25 {p : Program} {l : Launch} {e : Env} {R : Room} {s : State} {m : MethodId} {args : Array Value} {below : List Frame} {meth : Method} {c : Code} {cells slots : Nat} {Q : State → Prop} {Ts : List Cond} {dC : Nat → ClassId} {dI : Nat → Nat → Nat} {cI cC : ClassId} {m0 mt ms mr mk : Nat} {th yb bi d a b f : Int32} {str fk : Nat → Int32} {st : MT} {H : Heap} {locs : List Loc} {ls : Array Slot} (S : CallFix p m c b_M_system 3 s args Ts R_M) (hTs : ∀ w ∈ WT, w ∈ Ts) (hT : ∀ w ∈ WT, w.before args s = true) (hfr : 1 ≤ R.frames) (hlo : 1 ≤ R.locals) (hc : cells ≤ R.cells ∧ slots ≤ R.slots) (hK : rK dC dI cI cC s) (hw : mwd dC dI cI cC m0 mt ms mr mk th yb bi d a b f str fk st H) (hl : lv_has ls 3 [(0, .ref m0)]) (kk : W p l e R s m args below meth c H locs cells slots Q (F0 m 37 ls (.long (q_M_system_25 bi d a b f) :: [.ref m0]))) : W p l e R s m args below meth c H locs cells slots Q (F0 m 25 ls (.int 115 :: .int bi :: [.ref m0])) := by
  have hx := S.1
  have hb := S.2.1
  have hown := S.2.2.2.1
  refine lv_icmp_ne (tgt := 34) hx hb d_M_system_25 (by decide) (fun c_1 => ?_) (fun c_1 => ?_)
  · refine lv_ldc2 (v := 118066057994853) hx hb hown (hT _ m_952) d_M_system_34 ?_
    rw [q_M_system_25, if_neg c_1] at kk
    exact kk
  · refine lv_ldc2 (v := 465674789733) hx hb hown (hT _ m_951) d_M_system_28 ?_
    refine lv_goto (tgt := 37) hx hb d_M_system_31 (by decide) ?_
    rw [q_M_system_25, if_pos c_1] at kk
    exact kk
def q_M_system_102 (bi d a b f y1 y2 : Int32) : Int64 :=
  if y2 = 0 then
    435610155363
  else
    if y2 = 1 then
      1701669236
    else
      32762639552835177
set_option maxRecDepth 100000 in
set_option maxHeartbeats 4000000 in
theorem rg_M_system_102 {p : Program} {l : Launch} {e : Env} {R : Room} {s : State} {m : MethodId} {args : Array Value} {below : List Frame} {meth : Method} {c : Code} {cells slots : Nat} {Q : State → Prop} {Ts : List Cond} {dC : Nat → ClassId} {dI : Nat → Nat → Nat} {cI cC : ClassId} {m0 mt ms mr mk : Nat} {th yb bi d a b f : Int32} {str fk : Nat → Int32} {st : MT} {H : Heap} {locs : List Loc} {ls : Array Slot} {y1 y2 : Int32} (S : CallFix p m c b_M_system 3 s args Ts R_M) (hTs : ∀ w ∈ WT, w ∈ Ts) (hT : ∀ w ∈ WT, w.before args s = true) (hfr : 1 ≤ R.frames) (hlo : 1 ≤ R.locals) (hc : cells ≤ R.cells ∧ slots ≤ R.slots) (hK : rK dC dI cI cC s) (hw : mwd dC dI cI cC m0 mt ms mr mk th yb bi d a b f str fk st H) (hl : lv_has ls 3 [(2, .int y2), (1, .int y1), (0, .ref m0)]) (kk : W p l e R s m args below meth c H locs cells slots Q (F0 m 125 ls (.long (q_M_system_102 bi d a b f y1 y2) :: [.ref m0]))) : W p l e R s m args below meth c H locs cells slots Q (F0 m 102 ls (.int y2 :: [.ref m0])) := by
  have hx := S.1
  have hb := S.2.1
  have hown := S.2.2.2.1
  refine lv_if_ne (tgt := 111) hx hb d_M_system_102 (by decide) (fun c_1 => ?_) (fun c_1 => ?_)
  · refine lv_iload_n hx hb d_M_system_111 rfl (lv_at hl 0 rfl) ?_
    refine lv_iconst (v := 1) hx hb d_M_system_112 (by decide) ?_
    refine lv_icmp_ne (tgt := 122) hx hb d_M_system_113 (by decide) (fun c_2 => ?_) (fun c_2 => ?_)
    · refine lv_ldc2 (v := 32762639552835177) hx hb hown (hT _ m_956) d_M_system_122 ?_
      rw [q_M_system_102, if_neg c_1, if_neg c_2] at kk
      exact kk
    · refine lv_ldc2 (v := 1701669236) hx hb hown (hT _ m_955) d_M_system_116 ?_
      refine lv_goto (tgt := 125) hx hb d_M_system_119 (by decide) ?_
      rw [q_M_system_102, if_neg c_1, if_pos c_2] at kk
      exact kk
  · refine lv_ldc2 (v := 435610155363) hx hb hown (hT _ m_954) d_M_system_105 ?_
    refine lv_goto (tgt := 125) hx hb d_M_system_108 (by decide) ?_
    rw [q_M_system_102, if_pos c_1] at kk
    exact kk
def g_M_system (bi d a b f : Int32)  (st : MT) : MT :=
  if bi = 115 then
    if f = 2 then
      if a = 0 then
        if ((f_M_part bi 20 12) - ((f_M_part bi 20 12) &&& 127)) = 3072 then
          if ((f_M_part bi 20 12) &&& 127) ≤ 2 then
            if (f_M_part bi 20 12) < 3200 then
              sReg d (sSay (q_M_system_102 bi d a b f (f_M_part bi 20 12) ((f_M_part bi 20 12) &&& 127)) (sName 25714 (sName (q_M_system_25 bi d a b f) st)))
            else
              sReg d (sPut 104 (sSay (q_M_system_102 bi d a b f (f_M_part bi 20 12) ((f_M_part bi 20 12) &&& 127)) (sName 25714 (sName (q_M_system_25 bi d a b f) st))))
          else
            sName (q_M_system_25 bi d a b f) st
        else
          if ((f_M_part bi 20 12) - ((f_M_part bi 20 12) &&& 127)) = 3200 then
            if ((f_M_part bi 20 12) &&& 127) ≤ 2 then
              if (f_M_part bi 20 12) < 3200 then
                sReg d (sSay (q_M_system_102 bi d a b f (f_M_part bi 20 12) ((f_M_part bi 20 12) &&& 127)) (sName 25714 (sName (q_M_system_25 bi d a b f) st)))
              else
                sReg d (sPut 104 (sSay (q_M_system_102 bi d a b f (f_M_part bi 20 12) ((f_M_part bi 20 12) &&& 127)) (sName 25714 (sName (q_M_system_25 bi d a b f) st))))
            else
              sName (q_M_system_25 bi d a b f) st
          else
            sName (q_M_system_25 bi d a b f) st
      else
        sName (q_M_system_25 bi d a b f) st
    else
      sName (q_M_system_25 bi d a b f) st
  else
    if bi = 1048691 then
      if f = 2 then
        if a = 0 then
          if ((f_M_part bi 20 12) - ((f_M_part bi 20 12) &&& 127)) = 3072 then
            if ((f_M_part bi 20 12) &&& 127) ≤ 2 then
              if (f_M_part bi 20 12) < 3200 then
                sReg d (sSay (q_M_system_102 bi d a b f (f_M_part bi 20 12) ((f_M_part bi 20 12) &&& 127)) (sName 25714 (sName (q_M_system_25 bi d a b f) st)))
              else
                sReg d (sPut 104 (sSay (q_M_system_102 bi d a b f (f_M_part bi 20 12) ((f_M_part bi 20 12) &&& 127)) (sName 25714 (sName (q_M_system_25 bi d a b f) st))))
            else
              sName (q_M_system_25 bi d a b f) st
          else
            if ((f_M_part bi 20 12) - ((f_M_part bi 20 12) &&& 127)) = 3200 then
              if ((f_M_part bi 20 12) &&& 127) ≤ 2 then
                if (f_M_part bi 20 12) < 3200 then
                  sReg d (sSay (q_M_system_102 bi d a b f (f_M_part bi 20 12) ((f_M_part bi 20 12) &&& 127)) (sName 25714 (sName (q_M_system_25 bi d a b f) st)))
                else
                  sReg d (sPut 104 (sSay (q_M_system_102 bi d a b f (f_M_part bi 20 12) ((f_M_part bi 20 12) &&& 127)) (sName 25714 (sName (q_M_system_25 bi d a b f) st))))
              else
                sName (q_M_system_25 bi d a b f) st
            else
              sName (q_M_system_25 bi d a b f) st
        else
          sName (q_M_system_25 bi d a b f) st
      else
        sName (q_M_system_25 bi d a b f) st
    else
      if f = 2 then
        if a = 0 then
          if ((f_M_part bi 20 12) - ((f_M_part bi 20 12) &&& 127)) = 3072 then
            if ((f_M_part bi 20 12) &&& 127) ≤ 2 then
              if (f_M_part bi 20 12) < 3200 then
                sReg d (sSay (q_M_system_102 bi d a b f (f_M_part bi 20 12) ((f_M_part bi 20 12) &&& 127)) (sName 25714 st))
              else
                sReg d (sPut 104 (sSay (q_M_system_102 bi d a b f (f_M_part bi 20 12) ((f_M_part bi 20 12) &&& 127)) (sName 25714 st)))
            else
              st
          else
            if ((f_M_part bi 20 12) - ((f_M_part bi 20 12) &&& 127)) = 3200 then
              if ((f_M_part bi 20 12) &&& 127) ≤ 2 then
                if (f_M_part bi 20 12) < 3200 then
                  sReg d (sSay (q_M_system_102 bi d a b f (f_M_part bi 20 12) ((f_M_part bi 20 12) &&& 127)) (sName 25714 st))
                else
                  sReg d (sPut 104 (sSay (q_M_system_102 bi d a b f (f_M_part bi 20 12) ((f_M_part bi 20 12) &&& 127)) (sName 25714 st)))
              else
                st
            else
              st
        else
          st
      else
        st
set_option maxRecDepth 20000 in
theorem gl_M_system (bi d a b f : Int32)  (st : MT) : (g_M_system bi d a b f  st).2.2.length ≤ st.2.2.length + 35 := by
  unfold g_M_system
  exact (it_len _ (it_len _ (it_len _ (it_len _ (it_len _ (it_len _ (by have h0 := sName_le (q_M_system_25 bi d a b f) st; have h1 := sName_le 25714 (sName (q_M_system_25 bi d a b f) st); have h2 := sSay_le (q_M_system_102 bi d a b f (f_M_part bi 20 12) ((f_M_part bi 20 12) &&& 127)) (sName 25714 (sName (q_M_system_25 bi d a b f) st)); have h3 := sReg_le d (sSay (q_M_system_102 bi d a b f (f_M_part bi 20 12) ((f_M_part bi 20 12) &&& 127)) (sName 25714 (sName (q_M_system_25 bi d a b f) st))); omega) (by have h0 := sName_le (q_M_system_25 bi d a b f) st; have h1 := sName_le 25714 (sName (q_M_system_25 bi d a b f) st); have h2 := sSay_le (q_M_system_102 bi d a b f (f_M_part bi 20 12) ((f_M_part bi 20 12) &&& 127)) (sName 25714 (sName (q_M_system_25 bi d a b f) st)); have h3 := sPut_le 104 (sSay (q_M_system_102 bi d a b f (f_M_part bi 20 12) ((f_M_part bi 20 12) &&& 127)) (sName 25714 (sName (q_M_system_25 bi d a b f) st))); have h4 := sReg_le d (sPut 104 (sSay (q_M_system_102 bi d a b f (f_M_part bi 20 12) ((f_M_part bi 20 12) &&& 127)) (sName 25714 (sName (q_M_system_25 bi d a b f) st)))); omega)) (by have h0 := sName_le (q_M_system_25 bi d a b f) st; omega)) (it_len _ (it_len _ (it_len _ (by have h0 := sName_le (q_M_system_25 bi d a b f) st; have h1 := sName_le 25714 (sName (q_M_system_25 bi d a b f) st); have h2 := sSay_le (q_M_system_102 bi d a b f (f_M_part bi 20 12) ((f_M_part bi 20 12) &&& 127)) (sName 25714 (sName (q_M_system_25 bi d a b f) st)); have h3 := sReg_le d (sSay (q_M_system_102 bi d a b f (f_M_part bi 20 12) ((f_M_part bi 20 12) &&& 127)) (sName 25714 (sName (q_M_system_25 bi d a b f) st))); omega) (by have h0 := sName_le (q_M_system_25 bi d a b f) st; have h1 := sName_le 25714 (sName (q_M_system_25 bi d a b f) st); have h2 := sSay_le (q_M_system_102 bi d a b f (f_M_part bi 20 12) ((f_M_part bi 20 12) &&& 127)) (sName 25714 (sName (q_M_system_25 bi d a b f) st)); have h3 := sPut_le 104 (sSay (q_M_system_102 bi d a b f (f_M_part bi 20 12) ((f_M_part bi 20 12) &&& 127)) (sName 25714 (sName (q_M_system_25 bi d a b f) st))); have h4 := sReg_le d (sPut 104 (sSay (q_M_system_102 bi d a b f (f_M_part bi 20 12) ((f_M_part bi 20 12) &&& 127)) (sName 25714 (sName (q_M_system_25 bi d a b f) st)))); omega)) (by have h0 := sName_le (q_M_system_25 bi d a b f) st; omega)) (by have h0 := sName_le (q_M_system_25 bi d a b f) st; omega))) (by have h0 := sName_le (q_M_system_25 bi d a b f) st; omega)) (by have h0 := sName_le (q_M_system_25 bi d a b f) st; omega)) (it_len _ (it_len _ (it_len _ (it_len _ (it_len _ (it_len _ (by have h0 := sName_le (q_M_system_25 bi d a b f) st; have h1 := sName_le 25714 (sName (q_M_system_25 bi d a b f) st); have h2 := sSay_le (q_M_system_102 bi d a b f (f_M_part bi 20 12) ((f_M_part bi 20 12) &&& 127)) (sName 25714 (sName (q_M_system_25 bi d a b f) st)); have h3 := sReg_le d (sSay (q_M_system_102 bi d a b f (f_M_part bi 20 12) ((f_M_part bi 20 12) &&& 127)) (sName 25714 (sName (q_M_system_25 bi d a b f) st))); omega) (by have h0 := sName_le (q_M_system_25 bi d a b f) st; have h1 := sName_le 25714 (sName (q_M_system_25 bi d a b f) st); have h2 := sSay_le (q_M_system_102 bi d a b f (f_M_part bi 20 12) ((f_M_part bi 20 12) &&& 127)) (sName 25714 (sName (q_M_system_25 bi d a b f) st)); have h3 := sPut_le 104 (sSay (q_M_system_102 bi d a b f (f_M_part bi 20 12) ((f_M_part bi 20 12) &&& 127)) (sName 25714 (sName (q_M_system_25 bi d a b f) st))); have h4 := sReg_le d (sPut 104 (sSay (q_M_system_102 bi d a b f (f_M_part bi 20 12) ((f_M_part bi 20 12) &&& 127)) (sName 25714 (sName (q_M_system_25 bi d a b f) st)))); omega)) (by have h0 := sName_le (q_M_system_25 bi d a b f) st; omega)) (it_len _ (it_len _ (it_len _ (by have h0 := sName_le (q_M_system_25 bi d a b f) st; have h1 := sName_le 25714 (sName (q_M_system_25 bi d a b f) st); have h2 := sSay_le (q_M_system_102 bi d a b f (f_M_part bi 20 12) ((f_M_part bi 20 12) &&& 127)) (sName 25714 (sName (q_M_system_25 bi d a b f) st)); have h3 := sReg_le d (sSay (q_M_system_102 bi d a b f (f_M_part bi 20 12) ((f_M_part bi 20 12) &&& 127)) (sName 25714 (sName (q_M_system_25 bi d a b f) st))); omega) (by have h0 := sName_le (q_M_system_25 bi d a b f) st; have h1 := sName_le 25714 (sName (q_M_system_25 bi d a b f) st); have h2 := sSay_le (q_M_system_102 bi d a b f (f_M_part bi 20 12) ((f_M_part bi 20 12) &&& 127)) (sName 25714 (sName (q_M_system_25 bi d a b f) st)); have h3 := sPut_le 104 (sSay (q_M_system_102 bi d a b f (f_M_part bi 20 12) ((f_M_part bi 20 12) &&& 127)) (sName 25714 (sName (q_M_system_25 bi d a b f) st))); have h4 := sReg_le d (sPut 104 (sSay (q_M_system_102 bi d a b f (f_M_part bi 20 12) ((f_M_part bi 20 12) &&& 127)) (sName 25714 (sName (q_M_system_25 bi d a b f) st)))); omega)) (by have h0 := sName_le (q_M_system_25 bi d a b f) st; omega)) (by have h0 := sName_le (q_M_system_25 bi d a b f) st; omega))) (by have h0 := sName_le (q_M_system_25 bi d a b f) st; omega)) (by have h0 := sName_le (q_M_system_25 bi d a b f) st; omega)) (it_len _ (it_len _ (it_len _ (it_len _ (it_len _ (by have h0 := sName_le 25714 st; have h1 := sSay_le (q_M_system_102 bi d a b f (f_M_part bi 20 12) ((f_M_part bi 20 12) &&& 127)) (sName 25714 st); have h2 := sReg_le d (sSay (q_M_system_102 bi d a b f (f_M_part bi 20 12) ((f_M_part bi 20 12) &&& 127)) (sName 25714 st)); omega) (by have h0 := sName_le 25714 st; have h1 := sSay_le (q_M_system_102 bi d a b f (f_M_part bi 20 12) ((f_M_part bi 20 12) &&& 127)) (sName 25714 st); have h2 := sPut_le 104 (sSay (q_M_system_102 bi d a b f (f_M_part bi 20 12) ((f_M_part bi 20 12) &&& 127)) (sName 25714 st)); have h3 := sReg_le d (sPut 104 (sSay (q_M_system_102 bi d a b f (f_M_part bi 20 12) ((f_M_part bi 20 12) &&& 127)) (sName 25714 st))); omega)) (by omega)) (it_len _ (it_len _ (it_len _ (by have h0 := sName_le 25714 st; have h1 := sSay_le (q_M_system_102 bi d a b f (f_M_part bi 20 12) ((f_M_part bi 20 12) &&& 127)) (sName 25714 st); have h2 := sReg_le d (sSay (q_M_system_102 bi d a b f (f_M_part bi 20 12) ((f_M_part bi 20 12) &&& 127)) (sName 25714 st)); omega) (by have h0 := sName_le 25714 st; have h1 := sSay_le (q_M_system_102 bi d a b f (f_M_part bi 20 12) ((f_M_part bi 20 12) &&& 127)) (sName 25714 st); have h2 := sPut_le 104 (sSay (q_M_system_102 bi d a b f (f_M_part bi 20 12) ((f_M_part bi 20 12) &&& 127)) (sName 25714 st)); have h3 := sReg_le d (sPut 104 (sSay (q_M_system_102 bi d a b f (f_M_part bi 20 12) ((f_M_part bi 20 12) &&& 127)) (sName 25714 st))); omega)) (by omega)) (by omega))) (by omega)) (by omega))))
set_option maxRecDepth 100000 in
set_option maxHeartbeats 4000000 in
theorem c_M_system (l : Launch) (dC : Nat → ClassId) (dI : Nat → Nat → Nat) (cI cC : ClassId) (m0 mt ms mr mk : Nat) (th yb bi d a b f : Int32) (str fk : Nat → Int32) (st : MT)  : Met l y_M_system (Cond.code y_M_system b_M_system 3 none :: WT) ({ frames := 3, cells := 0, slots := 0, locals := 67 }) (va_Pc [.ref m0] (fun U => mU dC dI cI cC m0 mt ms mr mk th yb bi d a b f str fk st U ∧ st.2.2.length + 35 ≤ 64)) (va_Qv (fun _ : Unit => True) (fun _ t => mwd dC dI cI cC m0 mt ms mr mk th yb bi d a b f str fk (g_M_system bi d a b f  st) t.heap) (aM m0 mt ms mr mk)) 0 0 (aM m0 mt ms mr mk) := by
  refine va_MetF (cc := b_M_system) (maxL := 3) (ret := none) (by decide +kernel) rfl ?_
  intro p e s m args below meth c s₁ B hml hv
  obtain ⟨rfl, ⟨hK, ap, ok, hw⟩, hlen⟩ := hv
  have hx := B.exec
  have hb := B.bytes
  have hr := B.returns
  have hts := atoms_spec (ws := (Cond.code y_M_system b_M_system 3 none :: WT)) B.pre
  have hT : ∀ w ∈ WT, w.before _ s = true := fun w h => hts w (inC w h)
  have hown : s.vm.findClass R_M = some m.cls := findClass_of_methodNamed B.named
  have hlocks := B.notSynchronized
  have hS : va_S (aM m0 mt ms mr mk) s.heap s.heap [] := va_S.rf
  have S : CallFix p m c b_M_system 3 s _ (Cond.code y_M_system b_M_system 3 none :: WT) R_M := ⟨hx, hb, hml, hown, hts⟩
  have hl := lv_entry ([.ref m0]) (n := 3) (Nat.le_of_ble_eq_true rfl)
  rw [lg_entry_eq]
  generalize (lg_sl ([.ref m0]) ++ List.replicate (3 - (lg_sl ([.ref m0])).length) Slot.unset).toArray = ls at hl ⊢
  have hl : lv_has ls 3 [(0, .ref m0)] := hl
  have hA : ∀ q, aM m0 mt ms mr mk q → aM m0 mt ms mr mk q := fun _ h => h
  refine lv_aload_n hx hb d_M_system_0 rfl (lv_at hl 0 rfl) ?_
  obtain ⟨rg, ft, h1, h2, hP⟩ := id hw
  refine va_get (D := (dC, dI)) (ci := 2) (v := .int bi) (C := R_M) (T := F_M) (N := 14) hx hb hT i_M hown hK hP 0 rfl rfl 7 (by decide) (hT _ m_760) (fun _ h9 => h9) rfl d_M_system_1 ?_
  refine lv_bipush (v := 115) hx hb d_M_system_4 (by decide) ?_
  refine lv_icmp_eq (tgt := 18) hx hb d_M_system_6 (by decide) (fun c_1 => ?_) (fun c_1 => ?_)
  · refine lv_aload_n hx hb d_M_system_18 rfl (lv_at hl 0 rfl) ?_
    refine lv_aload_n hx hb d_M_system_19 rfl (lv_at hl 0 rfl) ?_
    obtain ⟨rg, ft, h1, h2, hP⟩ := id hw
    refine va_get (D := (dC, dI)) (ci := 2) (v := .int bi) (C := R_M) (T := F_M) (N := 14) hx hb hT i_M hown hK hP 0 rfl rfl 7 (by decide) (hT _ m_760) (fun _ h9 => h9) rfl d_M_system_20 ?_
    refine lv_bipush (v := 115) hx hb d_M_system_23 (by decide) ?_
    refine rg_M_system_25 S inC hT (Nat.le_of_ble_eq_true rfl) (Nat.le_of_ble_eq_true rfl) ⟨(Nat.le_of_ble_eq_true rfl), (Nat.le_of_ble_eq_true rfl)⟩ hK hw hl ?_
    refine call_M_name S inC m_833 ⟨(Nat.le_of_ble_eq_true rfl), (Nat.le_of_ble_eq_true rfl)⟩ hl.1 (Nat.le_of_ble_eq_true rfl) d_M_system_37 ⟨(Nat.le_of_ble_eq_true rfl), (Nat.le_of_ble_eq_true rfl)⟩ hK ap ok hS hA hw (by omega) (fun H locs hw hS _ => ?_)
    have hL1 := sName_le (q_M_system_25 bi d a b f) st
    refine lv_aload_n hx hb d_M_system_40 rfl (lv_at hl 0 rfl) ?_
    refine lv_bipush (v := 20) hx hb d_M_system_41 (by decide) ?_
    refine lv_bipush (v := 12) hx hb d_M_system_43 (by decide) ?_
    refine call_M_part S inC m_809 ⟨(Nat.le_of_ble_eq_true rfl), (Nat.le_of_ble_eq_true rfl)⟩ hl.1 (Nat.le_of_ble_eq_true rfl) d_M_system_45 ⟨(Nat.le_of_ble_eq_true rfl), (Nat.le_of_ble_eq_true rfl)⟩ hK hw ?_
    refine lv_istore_n (lv' := [(1, .int (f_M_part bi 20 12)), (0, .ref m0)]) hx hb d_M_system_48 rfl hl (by decide) rfl (fun ls hl => ?_)
    refine lv_iload_n hx hb d_M_system_49 rfl (lv_at hl 0 rfl) ?_
    refine lv_bipush (v := 127) hx hb d_M_system_50 (by decide) ?_
    refine lv_iand hx hb d_M_system_52 ?_
    refine lv_istore_n (lv' := [(2, .int ((f_M_part bi 20 12) &&& 127)), (1, .int (f_M_part bi 20 12)), (0, .ref m0)]) hx hb d_M_system_53 rfl hl (by decide) rfl (fun ls hl => ?_)
    refine lv_aload_n hx hb d_M_system_54 rfl (lv_at hl 2 rfl) ?_
    obtain ⟨rg, ft, h1, h2, hP⟩ := id hw
    refine va_get (D := (dC, dI)) (ci := 2) (v := .int f) (C := R_M) (T := F_M) (N := 14) hx hb hT i_M hown hK hP 0 rfl rfl 11 (by decide) (hT _ m_764) (fun _ h9 => h9) rfl d_M_system_55 ?_
    refine lv_iconst (v := 2) hx hb d_M_system_58 (by decide) ?_
    refine lv_icmp_ne (tgt := 92) hx hb d_M_system_59 (by decide) (fun c_2 => ?_) (fun c_2 => ?_)
    · exact W.vret hx hb hr (fun t ht hW => ⟨⟨(), rfl, trivial, mwd_at ht (mwd_eq (by rw [g_M_system, if_pos c_1, if_neg c_2]) hw)⟩, hS.F ht⟩) hS.2.2 d_M_system_92
    · refine lv_aload_n hx hb d_M_system_62 rfl (lv_at hl 2 rfl) ?_
      obtain ⟨rg, ft, h1, h2, hP⟩ := id hw
      refine va_get (D := (dC, dI)) (ci := 2) (v := .int a) (C := R_M) (T := F_M) (N := 14) hx hb hT i_M hown hK hP 0 rfl rfl 9 (by decide) (hT _ m_762) (fun _ h9 => h9) rfl d_M_system_63 ?_
      refine lv_if_ne (tgt := 92) hx hb d_M_system_66 (by decide) (fun c_3 => ?_) (fun c_3 => ?_)
      · exact W.vret hx hb hr (fun t ht hW => ⟨⟨(), rfl, trivial, mwd_at ht (mwd_eq (by rw [g_M_system, if_pos c_1, if_pos c_2, if_neg c_3]) hw)⟩, hS.F ht⟩) hS.2.2 d_M_system_92
      · refine lv_iload_n hx hb d_M_system_69 rfl (lv_at hl 1 rfl) ?_
        refine lv_iload_n hx hb d_M_system_70 rfl (lv_at hl 0 rfl) ?_
        refine lv_isub hx hb d_M_system_71 ?_
        refine lv_sipush (v := 3072) hx hb d_M_system_72 (by decide) ?_
        refine lv_icmp_eq (tgt := 87) hx hb d_M_system_75 (by decide) (fun c_4 => ?_) (fun c_4 => ?_)
        · refine lv_iload_n hx hb d_M_system_87 rfl (lv_at hl 0 rfl) ?_
          refine lv_iconst (v := 2) hx hb d_M_system_88 (by decide) ?_
          refine lv_icmp_le (tgt := 93) hx hb d_M_system_89 (by decide) (fun c_5 => ?_) (fun c_5 => ?_)
          · refine lv_aload_n hx hb d_M_system_93 rfl (lv_at hl 2 rfl) ?_
            refine lv_ldc2 (v := 25714) hx hb hown (hT _ m_953) d_M_system_94 ?_
            refine call_M_name S inC m_833 ⟨(Nat.le_of_ble_eq_true rfl), (Nat.le_of_ble_eq_true rfl)⟩ hl.1 (Nat.le_of_ble_eq_true rfl) d_M_system_97 ⟨(Nat.le_of_ble_eq_true rfl), (Nat.le_of_ble_eq_true rfl)⟩ hK ap ok hS hA hw (by omega) (fun H locs hw hS _ => ?_)
            have hL2 := sName_le 25714 (sName (q_M_system_25 bi d a b f) st)
            refine lv_aload_n hx hb d_M_system_100 rfl (lv_at hl 2 rfl) ?_
            refine lv_iload_n hx hb d_M_system_101 rfl (lv_at hl 0 rfl) ?_
            refine rg_M_system_102 S inC hT (Nat.le_of_ble_eq_true rfl) (Nat.le_of_ble_eq_true rfl) ⟨(Nat.le_of_ble_eq_true rfl), (Nat.le_of_ble_eq_true rfl)⟩ hK hw hl ?_
            refine call_M_say S inC m_837 ⟨(Nat.le_of_ble_eq_true rfl), (Nat.le_of_ble_eq_true rfl)⟩ hl.1 (Nat.le_of_ble_eq_true rfl) d_M_system_125 ⟨(Nat.le_of_ble_eq_true rfl), (Nat.le_of_ble_eq_true rfl)⟩ hK ap ok hS hA hw (by omega) (fun H locs hw hS _ => ?_)
            have hL3 := sSay_le (q_M_system_102 bi d a b f (f_M_part bi 20 12) ((f_M_part bi 20 12) &&& 127)) (sName 25714 (sName (q_M_system_25 bi d a b f) st))
            refine lv_iload_n hx hb d_M_system_128 rfl (lv_at hl 1 rfl) ?_
            refine lv_sipush (v := 3200) hx hb d_M_system_129 (by decide) ?_
            refine lv_icmp_lt (tgt := 141) hx hb d_M_system_132 (by decide) (fun c_6 => ?_) (fun c_6 => ?_)
            · refine lv_aload_n hx hb d_M_system_141 rfl (lv_at hl 2 rfl) ?_
              refine lv_aload_n hx hb d_M_system_142 rfl (lv_at hl 2 rfl) ?_
              obtain ⟨rg, ft, h1, h2, hP⟩ := id hw
              refine va_get (D := (dC, dI)) (ci := 2) (v := .int d) (C := R_M) (T := F_M) (N := 14) hx hb hT i_M hown hK hP 0 rfl rfl 8 (by decide) (hT _ m_761) (fun _ h9 => h9) rfl d_M_system_143 ?_
              refine call_M_register S inC m_846 ⟨(Nat.le_of_ble_eq_true rfl), (Nat.le_of_ble_eq_true rfl)⟩ hl.1 (Nat.le_of_ble_eq_true rfl) d_M_system_146 ⟨(Nat.le_of_ble_eq_true rfl), (Nat.le_of_ble_eq_true rfl)⟩ hK ap ok hS hA hw ok.1 (by omega) (fun H locs hw hS _ => ?_)
              have hL4 := sReg_le d (sSay (q_M_system_102 bi d a b f (f_M_part bi 20 12) ((f_M_part bi 20 12) &&& 127)) (sName 25714 (sName (q_M_system_25 bi d a b f) st)))
              exact W.vret hx hb hr (fun t ht hW => ⟨⟨(), rfl, trivial, mwd_at ht (mwd_eq (by rw [g_M_system, if_pos c_1, if_pos c_2, if_pos c_3, if_pos c_4, if_pos c_5, if_pos c_6]) hw)⟩, hS.F ht⟩) hS.2.2 d_M_system_149
            · refine lv_aload_n hx hb d_M_system_135 rfl (lv_at hl 2 rfl) ?_
              refine lv_bipush (v := 104) hx hb d_M_system_136 (by decide) ?_
              refine call_M_put S inC m_842 ⟨(Nat.le_of_ble_eq_true rfl), (Nat.le_of_ble_eq_true rfl)⟩ hl.1 (Nat.le_of_ble_eq_true rfl) d_M_system_138 ⟨(Nat.le_of_ble_eq_true rfl), (Nat.le_of_ble_eq_true rfl)⟩ hK ap ok hS hA hw (by omega) (fun H locs hw hS _ => ?_)
              have hL5 := sPut_le 104 (sSay (q_M_system_102 bi d a b f (f_M_part bi 20 12) ((f_M_part bi 20 12) &&& 127)) (sName 25714 (sName (q_M_system_25 bi d a b f) st)))
              refine lv_aload_n hx hb d_M_system_141 rfl (lv_at hl 2 rfl) ?_
              refine lv_aload_n hx hb d_M_system_142 rfl (lv_at hl 2 rfl) ?_
              obtain ⟨rg, ft, h1, h2, hP⟩ := id hw
              refine va_get (D := (dC, dI)) (ci := 2) (v := .int d) (C := R_M) (T := F_M) (N := 14) hx hb hT i_M hown hK hP 0 rfl rfl 8 (by decide) (hT _ m_761) (fun _ h9 => h9) rfl d_M_system_143 ?_
              refine call_M_register S inC m_846 ⟨(Nat.le_of_ble_eq_true rfl), (Nat.le_of_ble_eq_true rfl)⟩ hl.1 (Nat.le_of_ble_eq_true rfl) d_M_system_146 ⟨(Nat.le_of_ble_eq_true rfl), (Nat.le_of_ble_eq_true rfl)⟩ hK ap ok hS hA hw ok.1 (by omega) (fun H locs hw hS _ => ?_)
              have hL6 := sReg_le d (sPut 104 (sSay (q_M_system_102 bi d a b f (f_M_part bi 20 12) ((f_M_part bi 20 12) &&& 127)) (sName 25714 (sName (q_M_system_25 bi d a b f) st))))
              exact W.vret hx hb hr (fun t ht hW => ⟨⟨(), rfl, trivial, mwd_at ht (mwd_eq (by rw [g_M_system, if_pos c_1, if_pos c_2, if_pos c_3, if_pos c_4, if_pos c_5, if_neg c_6]) hw)⟩, hS.F ht⟩) hS.2.2 d_M_system_149
          · exact W.vret hx hb hr (fun t ht hW => ⟨⟨(), rfl, trivial, mwd_at ht (mwd_eq (by rw [g_M_system, if_pos c_1, if_pos c_2, if_pos c_3, if_pos c_4, if_neg c_5]) hw)⟩, hS.F ht⟩) hS.2.2 d_M_system_92
        · refine lv_iload_n hx hb d_M_system_78 rfl (lv_at hl 1 rfl) ?_
          refine lv_iload_n hx hb d_M_system_79 rfl (lv_at hl 0 rfl) ?_
          refine lv_isub hx hb d_M_system_80 ?_
          refine lv_sipush (v := 3200) hx hb d_M_system_81 (by decide) ?_
          refine lv_icmp_ne (tgt := 92) hx hb d_M_system_84 (by decide) (fun c_7 => ?_) (fun c_7 => ?_)
          · exact W.vret hx hb hr (fun t ht hW => ⟨⟨(), rfl, trivial, mwd_at ht (mwd_eq (by rw [g_M_system, if_pos c_1, if_pos c_2, if_pos c_3, if_neg c_4, if_neg c_7]) hw)⟩, hS.F ht⟩) hS.2.2 d_M_system_92
          · refine lv_iload_n hx hb d_M_system_87 rfl (lv_at hl 0 rfl) ?_
            refine lv_iconst (v := 2) hx hb d_M_system_88 (by decide) ?_
            refine lv_icmp_le (tgt := 93) hx hb d_M_system_89 (by decide) (fun c_8 => ?_) (fun c_8 => ?_)
            · refine lv_aload_n hx hb d_M_system_93 rfl (lv_at hl 2 rfl) ?_
              refine lv_ldc2 (v := 25714) hx hb hown (hT _ m_953) d_M_system_94 ?_
              refine call_M_name S inC m_833 ⟨(Nat.le_of_ble_eq_true rfl), (Nat.le_of_ble_eq_true rfl)⟩ hl.1 (Nat.le_of_ble_eq_true rfl) d_M_system_97 ⟨(Nat.le_of_ble_eq_true rfl), (Nat.le_of_ble_eq_true rfl)⟩ hK ap ok hS hA hw (by omega) (fun H locs hw hS _ => ?_)
              have hL7 := sName_le 25714 (sName (q_M_system_25 bi d a b f) st)
              refine lv_aload_n hx hb d_M_system_100 rfl (lv_at hl 2 rfl) ?_
              refine lv_iload_n hx hb d_M_system_101 rfl (lv_at hl 0 rfl) ?_
              refine rg_M_system_102 S inC hT (Nat.le_of_ble_eq_true rfl) (Nat.le_of_ble_eq_true rfl) ⟨(Nat.le_of_ble_eq_true rfl), (Nat.le_of_ble_eq_true rfl)⟩ hK hw hl ?_
              refine call_M_say S inC m_837 ⟨(Nat.le_of_ble_eq_true rfl), (Nat.le_of_ble_eq_true rfl)⟩ hl.1 (Nat.le_of_ble_eq_true rfl) d_M_system_125 ⟨(Nat.le_of_ble_eq_true rfl), (Nat.le_of_ble_eq_true rfl)⟩ hK ap ok hS hA hw (by omega) (fun H locs hw hS _ => ?_)
              have hL8 := sSay_le (q_M_system_102 bi d a b f (f_M_part bi 20 12) ((f_M_part bi 20 12) &&& 127)) (sName 25714 (sName (q_M_system_25 bi d a b f) st))
              refine lv_iload_n hx hb d_M_system_128 rfl (lv_at hl 1 rfl) ?_
              refine lv_sipush (v := 3200) hx hb d_M_system_129 (by decide) ?_
              refine lv_icmp_lt (tgt := 141) hx hb d_M_system_132 (by decide) (fun c_9 => ?_) (fun c_9 => ?_)
              · refine lv_aload_n hx hb d_M_system_141 rfl (lv_at hl 2 rfl) ?_
                refine lv_aload_n hx hb d_M_system_142 rfl (lv_at hl 2 rfl) ?_
                obtain ⟨rg, ft, h1, h2, hP⟩ := id hw
                refine va_get (D := (dC, dI)) (ci := 2) (v := .int d) (C := R_M) (T := F_M) (N := 14) hx hb hT i_M hown hK hP 0 rfl rfl 8 (by decide) (hT _ m_761) (fun _ h9 => h9) rfl d_M_system_143 ?_
                refine call_M_register S inC m_846 ⟨(Nat.le_of_ble_eq_true rfl), (Nat.le_of_ble_eq_true rfl)⟩ hl.1 (Nat.le_of_ble_eq_true rfl) d_M_system_146 ⟨(Nat.le_of_ble_eq_true rfl), (Nat.le_of_ble_eq_true rfl)⟩ hK ap ok hS hA hw ok.1 (by omega) (fun H locs hw hS _ => ?_)
                have hL9 := sReg_le d (sSay (q_M_system_102 bi d a b f (f_M_part bi 20 12) ((f_M_part bi 20 12) &&& 127)) (sName 25714 (sName (q_M_system_25 bi d a b f) st)))
                exact W.vret hx hb hr (fun t ht hW => ⟨⟨(), rfl, trivial, mwd_at ht (mwd_eq (by rw [g_M_system, if_pos c_1, if_pos c_2, if_pos c_3, if_neg c_4, if_pos c_7, if_pos c_8, if_pos c_9]) hw)⟩, hS.F ht⟩) hS.2.2 d_M_system_149
              · refine lv_aload_n hx hb d_M_system_135 rfl (lv_at hl 2 rfl) ?_
                refine lv_bipush (v := 104) hx hb d_M_system_136 (by decide) ?_
                refine call_M_put S inC m_842 ⟨(Nat.le_of_ble_eq_true rfl), (Nat.le_of_ble_eq_true rfl)⟩ hl.1 (Nat.le_of_ble_eq_true rfl) d_M_system_138 ⟨(Nat.le_of_ble_eq_true rfl), (Nat.le_of_ble_eq_true rfl)⟩ hK ap ok hS hA hw (by omega) (fun H locs hw hS _ => ?_)
                have hL10 := sPut_le 104 (sSay (q_M_system_102 bi d a b f (f_M_part bi 20 12) ((f_M_part bi 20 12) &&& 127)) (sName 25714 (sName (q_M_system_25 bi d a b f) st)))
                refine lv_aload_n hx hb d_M_system_141 rfl (lv_at hl 2 rfl) ?_
                refine lv_aload_n hx hb d_M_system_142 rfl (lv_at hl 2 rfl) ?_
                obtain ⟨rg, ft, h1, h2, hP⟩ := id hw
                refine va_get (D := (dC, dI)) (ci := 2) (v := .int d) (C := R_M) (T := F_M) (N := 14) hx hb hT i_M hown hK hP 0 rfl rfl 8 (by decide) (hT _ m_761) (fun _ h9 => h9) rfl d_M_system_143 ?_
                refine call_M_register S inC m_846 ⟨(Nat.le_of_ble_eq_true rfl), (Nat.le_of_ble_eq_true rfl)⟩ hl.1 (Nat.le_of_ble_eq_true rfl) d_M_system_146 ⟨(Nat.le_of_ble_eq_true rfl), (Nat.le_of_ble_eq_true rfl)⟩ hK ap ok hS hA hw ok.1 (by omega) (fun H locs hw hS _ => ?_)
                have hL11 := sReg_le d (sPut 104 (sSay (q_M_system_102 bi d a b f (f_M_part bi 20 12) ((f_M_part bi 20 12) &&& 127)) (sName 25714 (sName (q_M_system_25 bi d a b f) st))))
                exact W.vret hx hb hr (fun t ht hW => ⟨⟨(), rfl, trivial, mwd_at ht (mwd_eq (by rw [g_M_system, if_pos c_1, if_pos c_2, if_pos c_3, if_neg c_4, if_pos c_7, if_pos c_8, if_neg c_9]) hw)⟩, hS.F ht⟩) hS.2.2 d_M_system_149
            · exact W.vret hx hb hr (fun t ht hW => ⟨⟨(), rfl, trivial, mwd_at ht (mwd_eq (by rw [g_M_system, if_pos c_1, if_pos c_2, if_pos c_3, if_neg c_4, if_pos c_7, if_neg c_8]) hw)⟩, hS.F ht⟩) hS.2.2 d_M_system_92
  · refine lv_aload_n hx hb d_M_system_9 rfl (lv_at hl 0 rfl) ?_
    obtain ⟨rg, ft, h1, h2, hP⟩ := id hw
    refine va_get (D := (dC, dI)) (ci := 2) (v := .int bi) (C := R_M) (T := F_M) (N := 14) hx hb hT i_M hown hK hP 0 rfl rfl 7 (by decide) (hT _ m_760) (fun _ h9 => h9) rfl d_M_system_10 ?_
    refine lv_ldc (v := 1048691) hx hb hown (hT _ m_950) d_M_system_13 ?_
    refine lv_icmp_ne (tgt := 40) hx hb d_M_system_15 (by decide) (fun c_10 => ?_) (fun c_10 => ?_)
    · refine lv_aload_n hx hb d_M_system_40 rfl (lv_at hl 0 rfl) ?_
      refine lv_bipush (v := 20) hx hb d_M_system_41 (by decide) ?_
      refine lv_bipush (v := 12) hx hb d_M_system_43 (by decide) ?_
      refine call_M_part S inC m_809 ⟨(Nat.le_of_ble_eq_true rfl), (Nat.le_of_ble_eq_true rfl)⟩ hl.1 (Nat.le_of_ble_eq_true rfl) d_M_system_45 ⟨(Nat.le_of_ble_eq_true rfl), (Nat.le_of_ble_eq_true rfl)⟩ hK hw ?_
      refine lv_istore_n (lv' := [(1, .int (f_M_part bi 20 12)), (0, .ref m0)]) hx hb d_M_system_48 rfl hl (by decide) rfl (fun ls hl => ?_)
      refine lv_iload_n hx hb d_M_system_49 rfl (lv_at hl 0 rfl) ?_
      refine lv_bipush (v := 127) hx hb d_M_system_50 (by decide) ?_
      refine lv_iand hx hb d_M_system_52 ?_
      refine lv_istore_n (lv' := [(2, .int ((f_M_part bi 20 12) &&& 127)), (1, .int (f_M_part bi 20 12)), (0, .ref m0)]) hx hb d_M_system_53 rfl hl (by decide) rfl (fun ls hl => ?_)
      refine lv_aload_n hx hb d_M_system_54 rfl (lv_at hl 2 rfl) ?_
      obtain ⟨rg, ft, h1, h2, hP⟩ := id hw
      refine va_get (D := (dC, dI)) (ci := 2) (v := .int f) (C := R_M) (T := F_M) (N := 14) hx hb hT i_M hown hK hP 0 rfl rfl 11 (by decide) (hT _ m_764) (fun _ h9 => h9) rfl d_M_system_55 ?_
      refine lv_iconst (v := 2) hx hb d_M_system_58 (by decide) ?_
      refine lv_icmp_ne (tgt := 92) hx hb d_M_system_59 (by decide) (fun c_11 => ?_) (fun c_11 => ?_)
      · exact W.vret hx hb hr (fun t ht hW => ⟨⟨(), rfl, trivial, mwd_at ht (mwd_eq (by rw [g_M_system, if_neg c_1, if_neg c_10, if_neg c_11]) hw)⟩, hS.F ht⟩) hS.2.2 d_M_system_92
      · refine lv_aload_n hx hb d_M_system_62 rfl (lv_at hl 2 rfl) ?_
        obtain ⟨rg, ft, h1, h2, hP⟩ := id hw
        refine va_get (D := (dC, dI)) (ci := 2) (v := .int a) (C := R_M) (T := F_M) (N := 14) hx hb hT i_M hown hK hP 0 rfl rfl 9 (by decide) (hT _ m_762) (fun _ h9 => h9) rfl d_M_system_63 ?_
        refine lv_if_ne (tgt := 92) hx hb d_M_system_66 (by decide) (fun c_12 => ?_) (fun c_12 => ?_)
        · exact W.vret hx hb hr (fun t ht hW => ⟨⟨(), rfl, trivial, mwd_at ht (mwd_eq (by rw [g_M_system, if_neg c_1, if_neg c_10, if_pos c_11, if_neg c_12]) hw)⟩, hS.F ht⟩) hS.2.2 d_M_system_92
        · refine lv_iload_n hx hb d_M_system_69 rfl (lv_at hl 1 rfl) ?_
          refine lv_iload_n hx hb d_M_system_70 rfl (lv_at hl 0 rfl) ?_
          refine lv_isub hx hb d_M_system_71 ?_
          refine lv_sipush (v := 3072) hx hb d_M_system_72 (by decide) ?_
          refine lv_icmp_eq (tgt := 87) hx hb d_M_system_75 (by decide) (fun c_13 => ?_) (fun c_13 => ?_)
          · refine lv_iload_n hx hb d_M_system_87 rfl (lv_at hl 0 rfl) ?_
            refine lv_iconst (v := 2) hx hb d_M_system_88 (by decide) ?_
            refine lv_icmp_le (tgt := 93) hx hb d_M_system_89 (by decide) (fun c_14 => ?_) (fun c_14 => ?_)
            · refine lv_aload_n hx hb d_M_system_93 rfl (lv_at hl 2 rfl) ?_
              refine lv_ldc2 (v := 25714) hx hb hown (hT _ m_953) d_M_system_94 ?_
              refine call_M_name S inC m_833 ⟨(Nat.le_of_ble_eq_true rfl), (Nat.le_of_ble_eq_true rfl)⟩ hl.1 (Nat.le_of_ble_eq_true rfl) d_M_system_97 ⟨(Nat.le_of_ble_eq_true rfl), (Nat.le_of_ble_eq_true rfl)⟩ hK ap ok hS hA hw (by omega) (fun H locs hw hS _ => ?_)
              have hL12 := sName_le 25714 st
              refine lv_aload_n hx hb d_M_system_100 rfl (lv_at hl 2 rfl) ?_
              refine lv_iload_n hx hb d_M_system_101 rfl (lv_at hl 0 rfl) ?_
              refine rg_M_system_102 S inC hT (Nat.le_of_ble_eq_true rfl) (Nat.le_of_ble_eq_true rfl) ⟨(Nat.le_of_ble_eq_true rfl), (Nat.le_of_ble_eq_true rfl)⟩ hK hw hl ?_
              refine call_M_say S inC m_837 ⟨(Nat.le_of_ble_eq_true rfl), (Nat.le_of_ble_eq_true rfl)⟩ hl.1 (Nat.le_of_ble_eq_true rfl) d_M_system_125 ⟨(Nat.le_of_ble_eq_true rfl), (Nat.le_of_ble_eq_true rfl)⟩ hK ap ok hS hA hw (by omega) (fun H locs hw hS _ => ?_)
              have hL13 := sSay_le (q_M_system_102 bi d a b f (f_M_part bi 20 12) ((f_M_part bi 20 12) &&& 127)) (sName 25714 st)
              refine lv_iload_n hx hb d_M_system_128 rfl (lv_at hl 1 rfl) ?_
              refine lv_sipush (v := 3200) hx hb d_M_system_129 (by decide) ?_
              refine lv_icmp_lt (tgt := 141) hx hb d_M_system_132 (by decide) (fun c_15 => ?_) (fun c_15 => ?_)
              · refine lv_aload_n hx hb d_M_system_141 rfl (lv_at hl 2 rfl) ?_
                refine lv_aload_n hx hb d_M_system_142 rfl (lv_at hl 2 rfl) ?_
                obtain ⟨rg, ft, h1, h2, hP⟩ := id hw
                refine va_get (D := (dC, dI)) (ci := 2) (v := .int d) (C := R_M) (T := F_M) (N := 14) hx hb hT i_M hown hK hP 0 rfl rfl 8 (by decide) (hT _ m_761) (fun _ h9 => h9) rfl d_M_system_143 ?_
                refine call_M_register S inC m_846 ⟨(Nat.le_of_ble_eq_true rfl), (Nat.le_of_ble_eq_true rfl)⟩ hl.1 (Nat.le_of_ble_eq_true rfl) d_M_system_146 ⟨(Nat.le_of_ble_eq_true rfl), (Nat.le_of_ble_eq_true rfl)⟩ hK ap ok hS hA hw ok.1 (by omega) (fun H locs hw hS _ => ?_)
                have hL14 := sReg_le d (sSay (q_M_system_102 bi d a b f (f_M_part bi 20 12) ((f_M_part bi 20 12) &&& 127)) (sName 25714 st))
                exact W.vret hx hb hr (fun t ht hW => ⟨⟨(), rfl, trivial, mwd_at ht (mwd_eq (by rw [g_M_system, if_neg c_1, if_neg c_10, if_pos c_11, if_pos c_12, if_pos c_13, if_pos c_14, if_pos c_15]) hw)⟩, hS.F ht⟩) hS.2.2 d_M_system_149
              · refine lv_aload_n hx hb d_M_system_135 rfl (lv_at hl 2 rfl) ?_
                refine lv_bipush (v := 104) hx hb d_M_system_136 (by decide) ?_
                refine call_M_put S inC m_842 ⟨(Nat.le_of_ble_eq_true rfl), (Nat.le_of_ble_eq_true rfl)⟩ hl.1 (Nat.le_of_ble_eq_true rfl) d_M_system_138 ⟨(Nat.le_of_ble_eq_true rfl), (Nat.le_of_ble_eq_true rfl)⟩ hK ap ok hS hA hw (by omega) (fun H locs hw hS _ => ?_)
                have hL15 := sPut_le 104 (sSay (q_M_system_102 bi d a b f (f_M_part bi 20 12) ((f_M_part bi 20 12) &&& 127)) (sName 25714 st))
                refine lv_aload_n hx hb d_M_system_141 rfl (lv_at hl 2 rfl) ?_
                refine lv_aload_n hx hb d_M_system_142 rfl (lv_at hl 2 rfl) ?_
                obtain ⟨rg, ft, h1, h2, hP⟩ := id hw
                refine va_get (D := (dC, dI)) (ci := 2) (v := .int d) (C := R_M) (T := F_M) (N := 14) hx hb hT i_M hown hK hP 0 rfl rfl 8 (by decide) (hT _ m_761) (fun _ h9 => h9) rfl d_M_system_143 ?_
                refine call_M_register S inC m_846 ⟨(Nat.le_of_ble_eq_true rfl), (Nat.le_of_ble_eq_true rfl)⟩ hl.1 (Nat.le_of_ble_eq_true rfl) d_M_system_146 ⟨(Nat.le_of_ble_eq_true rfl), (Nat.le_of_ble_eq_true rfl)⟩ hK ap ok hS hA hw ok.1 (by omega) (fun H locs hw hS _ => ?_)
                have hL16 := sReg_le d (sPut 104 (sSay (q_M_system_102 bi d a b f (f_M_part bi 20 12) ((f_M_part bi 20 12) &&& 127)) (sName 25714 st)))
                exact W.vret hx hb hr (fun t ht hW => ⟨⟨(), rfl, trivial, mwd_at ht (mwd_eq (by rw [g_M_system, if_neg c_1, if_neg c_10, if_pos c_11, if_pos c_12, if_pos c_13, if_pos c_14, if_neg c_15]) hw)⟩, hS.F ht⟩) hS.2.2 d_M_system_149
            · exact W.vret hx hb hr (fun t ht hW => ⟨⟨(), rfl, trivial, mwd_at ht (mwd_eq (by rw [g_M_system, if_neg c_1, if_neg c_10, if_pos c_11, if_pos c_12, if_pos c_13, if_neg c_14]) hw)⟩, hS.F ht⟩) hS.2.2 d_M_system_92
          · refine lv_iload_n hx hb d_M_system_78 rfl (lv_at hl 1 rfl) ?_
            refine lv_iload_n hx hb d_M_system_79 rfl (lv_at hl 0 rfl) ?_
            refine lv_isub hx hb d_M_system_80 ?_
            refine lv_sipush (v := 3200) hx hb d_M_system_81 (by decide) ?_
            refine lv_icmp_ne (tgt := 92) hx hb d_M_system_84 (by decide) (fun c_16 => ?_) (fun c_16 => ?_)
            · exact W.vret hx hb hr (fun t ht hW => ⟨⟨(), rfl, trivial, mwd_at ht (mwd_eq (by rw [g_M_system, if_neg c_1, if_neg c_10, if_pos c_11, if_pos c_12, if_neg c_13, if_neg c_16]) hw)⟩, hS.F ht⟩) hS.2.2 d_M_system_92
            · refine lv_iload_n hx hb d_M_system_87 rfl (lv_at hl 0 rfl) ?_
              refine lv_iconst (v := 2) hx hb d_M_system_88 (by decide) ?_
              refine lv_icmp_le (tgt := 93) hx hb d_M_system_89 (by decide) (fun c_17 => ?_) (fun c_17 => ?_)
              · refine lv_aload_n hx hb d_M_system_93 rfl (lv_at hl 2 rfl) ?_
                refine lv_ldc2 (v := 25714) hx hb hown (hT _ m_953) d_M_system_94 ?_
                refine call_M_name S inC m_833 ⟨(Nat.le_of_ble_eq_true rfl), (Nat.le_of_ble_eq_true rfl)⟩ hl.1 (Nat.le_of_ble_eq_true rfl) d_M_system_97 ⟨(Nat.le_of_ble_eq_true rfl), (Nat.le_of_ble_eq_true rfl)⟩ hK ap ok hS hA hw (by omega) (fun H locs hw hS _ => ?_)
                have hL17 := sName_le 25714 st
                refine lv_aload_n hx hb d_M_system_100 rfl (lv_at hl 2 rfl) ?_
                refine lv_iload_n hx hb d_M_system_101 rfl (lv_at hl 0 rfl) ?_
                refine rg_M_system_102 S inC hT (Nat.le_of_ble_eq_true rfl) (Nat.le_of_ble_eq_true rfl) ⟨(Nat.le_of_ble_eq_true rfl), (Nat.le_of_ble_eq_true rfl)⟩ hK hw hl ?_
                refine call_M_say S inC m_837 ⟨(Nat.le_of_ble_eq_true rfl), (Nat.le_of_ble_eq_true rfl)⟩ hl.1 (Nat.le_of_ble_eq_true rfl) d_M_system_125 ⟨(Nat.le_of_ble_eq_true rfl), (Nat.le_of_ble_eq_true rfl)⟩ hK ap ok hS hA hw (by omega) (fun H locs hw hS _ => ?_)
                have hL18 := sSay_le (q_M_system_102 bi d a b f (f_M_part bi 20 12) ((f_M_part bi 20 12) &&& 127)) (sName 25714 st)
                refine lv_iload_n hx hb d_M_system_128 rfl (lv_at hl 1 rfl) ?_
                refine lv_sipush (v := 3200) hx hb d_M_system_129 (by decide) ?_
                refine lv_icmp_lt (tgt := 141) hx hb d_M_system_132 (by decide) (fun c_18 => ?_) (fun c_18 => ?_)
                · refine lv_aload_n hx hb d_M_system_141 rfl (lv_at hl 2 rfl) ?_
                  refine lv_aload_n hx hb d_M_system_142 rfl (lv_at hl 2 rfl) ?_
                  obtain ⟨rg, ft, h1, h2, hP⟩ := id hw
                  refine va_get (D := (dC, dI)) (ci := 2) (v := .int d) (C := R_M) (T := F_M) (N := 14) hx hb hT i_M hown hK hP 0 rfl rfl 8 (by decide) (hT _ m_761) (fun _ h9 => h9) rfl d_M_system_143 ?_
                  refine call_M_register S inC m_846 ⟨(Nat.le_of_ble_eq_true rfl), (Nat.le_of_ble_eq_true rfl)⟩ hl.1 (Nat.le_of_ble_eq_true rfl) d_M_system_146 ⟨(Nat.le_of_ble_eq_true rfl), (Nat.le_of_ble_eq_true rfl)⟩ hK ap ok hS hA hw ok.1 (by omega) (fun H locs hw hS _ => ?_)
                  have hL19 := sReg_le d (sSay (q_M_system_102 bi d a b f (f_M_part bi 20 12) ((f_M_part bi 20 12) &&& 127)) (sName 25714 st))
                  exact W.vret hx hb hr (fun t ht hW => ⟨⟨(), rfl, trivial, mwd_at ht (mwd_eq (by rw [g_M_system, if_neg c_1, if_neg c_10, if_pos c_11, if_pos c_12, if_neg c_13, if_pos c_16, if_pos c_17, if_pos c_18]) hw)⟩, hS.F ht⟩) hS.2.2 d_M_system_149
                · refine lv_aload_n hx hb d_M_system_135 rfl (lv_at hl 2 rfl) ?_
                  refine lv_bipush (v := 104) hx hb d_M_system_136 (by decide) ?_
                  refine call_M_put S inC m_842 ⟨(Nat.le_of_ble_eq_true rfl), (Nat.le_of_ble_eq_true rfl)⟩ hl.1 (Nat.le_of_ble_eq_true rfl) d_M_system_138 ⟨(Nat.le_of_ble_eq_true rfl), (Nat.le_of_ble_eq_true rfl)⟩ hK ap ok hS hA hw (by omega) (fun H locs hw hS _ => ?_)
                  have hL20 := sPut_le 104 (sSay (q_M_system_102 bi d a b f (f_M_part bi 20 12) ((f_M_part bi 20 12) &&& 127)) (sName 25714 st))
                  refine lv_aload_n hx hb d_M_system_141 rfl (lv_at hl 2 rfl) ?_
                  refine lv_aload_n hx hb d_M_system_142 rfl (lv_at hl 2 rfl) ?_
                  obtain ⟨rg, ft, h1, h2, hP⟩ := id hw
                  refine va_get (D := (dC, dI)) (ci := 2) (v := .int d) (C := R_M) (T := F_M) (N := 14) hx hb hT i_M hown hK hP 0 rfl rfl 8 (by decide) (hT _ m_761) (fun _ h9 => h9) rfl d_M_system_143 ?_
                  refine call_M_register S inC m_846 ⟨(Nat.le_of_ble_eq_true rfl), (Nat.le_of_ble_eq_true rfl)⟩ hl.1 (Nat.le_of_ble_eq_true rfl) d_M_system_146 ⟨(Nat.le_of_ble_eq_true rfl), (Nat.le_of_ble_eq_true rfl)⟩ hK ap ok hS hA hw ok.1 (by omega) (fun H locs hw hS _ => ?_)
                  have hL21 := sReg_le d (sPut 104 (sSay (q_M_system_102 bi d a b f (f_M_part bi 20 12) ((f_M_part bi 20 12) &&& 127)) (sName 25714 st)))
                  exact W.vret hx hb hr (fun t ht hW => ⟨⟨(), rfl, trivial, mwd_at ht (mwd_eq (by rw [g_M_system, if_neg c_1, if_neg c_10, if_pos c_11, if_pos c_12, if_neg c_13, if_pos c_16, if_pos c_17, if_neg c_18]) hw)⟩, hS.F ht⟩) hS.2.2 d_M_system_149
              · exact W.vret hx hb hr (fun t ht hW => ⟨⟨(), rfl, trivial, mwd_at ht (mwd_eq (by rw [g_M_system, if_neg c_1, if_neg c_10, if_pos c_11, if_pos c_12, if_neg c_13, if_pos c_16, if_neg c_17]) hw)⟩, hS.F ht⟩) hS.2.2 d_M_system_92
    · refine lv_aload_n hx hb d_M_system_18 rfl (lv_at hl 0 rfl) ?_
      refine lv_aload_n hx hb d_M_system_19 rfl (lv_at hl 0 rfl) ?_
      obtain ⟨rg, ft, h1, h2, hP⟩ := id hw
      refine va_get (D := (dC, dI)) (ci := 2) (v := .int bi) (C := R_M) (T := F_M) (N := 14) hx hb hT i_M hown hK hP 0 rfl rfl 7 (by decide) (hT _ m_760) (fun _ h9 => h9) rfl d_M_system_20 ?_
      refine lv_bipush (v := 115) hx hb d_M_system_23 (by decide) ?_
      refine rg_M_system_25 S inC hT (Nat.le_of_ble_eq_true rfl) (Nat.le_of_ble_eq_true rfl) ⟨(Nat.le_of_ble_eq_true rfl), (Nat.le_of_ble_eq_true rfl)⟩ hK hw hl ?_
      refine call_M_name S inC m_833 ⟨(Nat.le_of_ble_eq_true rfl), (Nat.le_of_ble_eq_true rfl)⟩ hl.1 (Nat.le_of_ble_eq_true rfl) d_M_system_37 ⟨(Nat.le_of_ble_eq_true rfl), (Nat.le_of_ble_eq_true rfl)⟩ hK ap ok hS hA hw (by omega) (fun H locs hw hS _ => ?_)
      have hL22 := sName_le (q_M_system_25 bi d a b f) st
      refine lv_aload_n hx hb d_M_system_40 rfl (lv_at hl 0 rfl) ?_
      refine lv_bipush (v := 20) hx hb d_M_system_41 (by decide) ?_
      refine lv_bipush (v := 12) hx hb d_M_system_43 (by decide) ?_
      refine call_M_part S inC m_809 ⟨(Nat.le_of_ble_eq_true rfl), (Nat.le_of_ble_eq_true rfl)⟩ hl.1 (Nat.le_of_ble_eq_true rfl) d_M_system_45 ⟨(Nat.le_of_ble_eq_true rfl), (Nat.le_of_ble_eq_true rfl)⟩ hK hw ?_
      refine lv_istore_n (lv' := [(1, .int (f_M_part bi 20 12)), (0, .ref m0)]) hx hb d_M_system_48 rfl hl (by decide) rfl (fun ls hl => ?_)
      refine lv_iload_n hx hb d_M_system_49 rfl (lv_at hl 0 rfl) ?_
      refine lv_bipush (v := 127) hx hb d_M_system_50 (by decide) ?_
      refine lv_iand hx hb d_M_system_52 ?_
      refine lv_istore_n (lv' := [(2, .int ((f_M_part bi 20 12) &&& 127)), (1, .int (f_M_part bi 20 12)), (0, .ref m0)]) hx hb d_M_system_53 rfl hl (by decide) rfl (fun ls hl => ?_)
      refine lv_aload_n hx hb d_M_system_54 rfl (lv_at hl 2 rfl) ?_
      obtain ⟨rg, ft, h1, h2, hP⟩ := id hw
      refine va_get (D := (dC, dI)) (ci := 2) (v := .int f) (C := R_M) (T := F_M) (N := 14) hx hb hT i_M hown hK hP 0 rfl rfl 11 (by decide) (hT _ m_764) (fun _ h9 => h9) rfl d_M_system_55 ?_
      refine lv_iconst (v := 2) hx hb d_M_system_58 (by decide) ?_
      refine lv_icmp_ne (tgt := 92) hx hb d_M_system_59 (by decide) (fun c_19 => ?_) (fun c_19 => ?_)
      · exact W.vret hx hb hr (fun t ht hW => ⟨⟨(), rfl, trivial, mwd_at ht (mwd_eq (by rw [g_M_system, if_neg c_1, if_pos c_10, if_neg c_19]) hw)⟩, hS.F ht⟩) hS.2.2 d_M_system_92
      · refine lv_aload_n hx hb d_M_system_62 rfl (lv_at hl 2 rfl) ?_
        obtain ⟨rg, ft, h1, h2, hP⟩ := id hw
        refine va_get (D := (dC, dI)) (ci := 2) (v := .int a) (C := R_M) (T := F_M) (N := 14) hx hb hT i_M hown hK hP 0 rfl rfl 9 (by decide) (hT _ m_762) (fun _ h9 => h9) rfl d_M_system_63 ?_
        refine lv_if_ne (tgt := 92) hx hb d_M_system_66 (by decide) (fun c_20 => ?_) (fun c_20 => ?_)
        · exact W.vret hx hb hr (fun t ht hW => ⟨⟨(), rfl, trivial, mwd_at ht (mwd_eq (by rw [g_M_system, if_neg c_1, if_pos c_10, if_pos c_19, if_neg c_20]) hw)⟩, hS.F ht⟩) hS.2.2 d_M_system_92
        · refine lv_iload_n hx hb d_M_system_69 rfl (lv_at hl 1 rfl) ?_
          refine lv_iload_n hx hb d_M_system_70 rfl (lv_at hl 0 rfl) ?_
          refine lv_isub hx hb d_M_system_71 ?_
          refine lv_sipush (v := 3072) hx hb d_M_system_72 (by decide) ?_
          refine lv_icmp_eq (tgt := 87) hx hb d_M_system_75 (by decide) (fun c_21 => ?_) (fun c_21 => ?_)
          · refine lv_iload_n hx hb d_M_system_87 rfl (lv_at hl 0 rfl) ?_
            refine lv_iconst (v := 2) hx hb d_M_system_88 (by decide) ?_
            refine lv_icmp_le (tgt := 93) hx hb d_M_system_89 (by decide) (fun c_22 => ?_) (fun c_22 => ?_)
            · refine lv_aload_n hx hb d_M_system_93 rfl (lv_at hl 2 rfl) ?_
              refine lv_ldc2 (v := 25714) hx hb hown (hT _ m_953) d_M_system_94 ?_
              refine call_M_name S inC m_833 ⟨(Nat.le_of_ble_eq_true rfl), (Nat.le_of_ble_eq_true rfl)⟩ hl.1 (Nat.le_of_ble_eq_true rfl) d_M_system_97 ⟨(Nat.le_of_ble_eq_true rfl), (Nat.le_of_ble_eq_true rfl)⟩ hK ap ok hS hA hw (by omega) (fun H locs hw hS _ => ?_)
              have hL23 := sName_le 25714 (sName (q_M_system_25 bi d a b f) st)
              refine lv_aload_n hx hb d_M_system_100 rfl (lv_at hl 2 rfl) ?_
              refine lv_iload_n hx hb d_M_system_101 rfl (lv_at hl 0 rfl) ?_
              refine rg_M_system_102 S inC hT (Nat.le_of_ble_eq_true rfl) (Nat.le_of_ble_eq_true rfl) ⟨(Nat.le_of_ble_eq_true rfl), (Nat.le_of_ble_eq_true rfl)⟩ hK hw hl ?_
              refine call_M_say S inC m_837 ⟨(Nat.le_of_ble_eq_true rfl), (Nat.le_of_ble_eq_true rfl)⟩ hl.1 (Nat.le_of_ble_eq_true rfl) d_M_system_125 ⟨(Nat.le_of_ble_eq_true rfl), (Nat.le_of_ble_eq_true rfl)⟩ hK ap ok hS hA hw (by omega) (fun H locs hw hS _ => ?_)
              have hL24 := sSay_le (q_M_system_102 bi d a b f (f_M_part bi 20 12) ((f_M_part bi 20 12) &&& 127)) (sName 25714 (sName (q_M_system_25 bi d a b f) st))
              refine lv_iload_n hx hb d_M_system_128 rfl (lv_at hl 1 rfl) ?_
              refine lv_sipush (v := 3200) hx hb d_M_system_129 (by decide) ?_
              refine lv_icmp_lt (tgt := 141) hx hb d_M_system_132 (by decide) (fun c_23 => ?_) (fun c_23 => ?_)
              · refine lv_aload_n hx hb d_M_system_141 rfl (lv_at hl 2 rfl) ?_
                refine lv_aload_n hx hb d_M_system_142 rfl (lv_at hl 2 rfl) ?_
                obtain ⟨rg, ft, h1, h2, hP⟩ := id hw
                refine va_get (D := (dC, dI)) (ci := 2) (v := .int d) (C := R_M) (T := F_M) (N := 14) hx hb hT i_M hown hK hP 0 rfl rfl 8 (by decide) (hT _ m_761) (fun _ h9 => h9) rfl d_M_system_143 ?_
                refine call_M_register S inC m_846 ⟨(Nat.le_of_ble_eq_true rfl), (Nat.le_of_ble_eq_true rfl)⟩ hl.1 (Nat.le_of_ble_eq_true rfl) d_M_system_146 ⟨(Nat.le_of_ble_eq_true rfl), (Nat.le_of_ble_eq_true rfl)⟩ hK ap ok hS hA hw ok.1 (by omega) (fun H locs hw hS _ => ?_)
                have hL25 := sReg_le d (sSay (q_M_system_102 bi d a b f (f_M_part bi 20 12) ((f_M_part bi 20 12) &&& 127)) (sName 25714 (sName (q_M_system_25 bi d a b f) st)))
                exact W.vret hx hb hr (fun t ht hW => ⟨⟨(), rfl, trivial, mwd_at ht (mwd_eq (by rw [g_M_system, if_neg c_1, if_pos c_10, if_pos c_19, if_pos c_20, if_pos c_21, if_pos c_22, if_pos c_23]) hw)⟩, hS.F ht⟩) hS.2.2 d_M_system_149
              · refine lv_aload_n hx hb d_M_system_135 rfl (lv_at hl 2 rfl) ?_
                refine lv_bipush (v := 104) hx hb d_M_system_136 (by decide) ?_
                refine call_M_put S inC m_842 ⟨(Nat.le_of_ble_eq_true rfl), (Nat.le_of_ble_eq_true rfl)⟩ hl.1 (Nat.le_of_ble_eq_true rfl) d_M_system_138 ⟨(Nat.le_of_ble_eq_true rfl), (Nat.le_of_ble_eq_true rfl)⟩ hK ap ok hS hA hw (by omega) (fun H locs hw hS _ => ?_)
                have hL26 := sPut_le 104 (sSay (q_M_system_102 bi d a b f (f_M_part bi 20 12) ((f_M_part bi 20 12) &&& 127)) (sName 25714 (sName (q_M_system_25 bi d a b f) st)))
                refine lv_aload_n hx hb d_M_system_141 rfl (lv_at hl 2 rfl) ?_
                refine lv_aload_n hx hb d_M_system_142 rfl (lv_at hl 2 rfl) ?_
                obtain ⟨rg, ft, h1, h2, hP⟩ := id hw
                refine va_get (D := (dC, dI)) (ci := 2) (v := .int d) (C := R_M) (T := F_M) (N := 14) hx hb hT i_M hown hK hP 0 rfl rfl 8 (by decide) (hT _ m_761) (fun _ h9 => h9) rfl d_M_system_143 ?_
                refine call_M_register S inC m_846 ⟨(Nat.le_of_ble_eq_true rfl), (Nat.le_of_ble_eq_true rfl)⟩ hl.1 (Nat.le_of_ble_eq_true rfl) d_M_system_146 ⟨(Nat.le_of_ble_eq_true rfl), (Nat.le_of_ble_eq_true rfl)⟩ hK ap ok hS hA hw ok.1 (by omega) (fun H locs hw hS _ => ?_)
                have hL27 := sReg_le d (sPut 104 (sSay (q_M_system_102 bi d a b f (f_M_part bi 20 12) ((f_M_part bi 20 12) &&& 127)) (sName 25714 (sName (q_M_system_25 bi d a b f) st))))
                exact W.vret hx hb hr (fun t ht hW => ⟨⟨(), rfl, trivial, mwd_at ht (mwd_eq (by rw [g_M_system, if_neg c_1, if_pos c_10, if_pos c_19, if_pos c_20, if_pos c_21, if_pos c_22, if_neg c_23]) hw)⟩, hS.F ht⟩) hS.2.2 d_M_system_149
            · exact W.vret hx hb hr (fun t ht hW => ⟨⟨(), rfl, trivial, mwd_at ht (mwd_eq (by rw [g_M_system, if_neg c_1, if_pos c_10, if_pos c_19, if_pos c_20, if_pos c_21, if_neg c_22]) hw)⟩, hS.F ht⟩) hS.2.2 d_M_system_92
          · refine lv_iload_n hx hb d_M_system_78 rfl (lv_at hl 1 rfl) ?_
            refine lv_iload_n hx hb d_M_system_79 rfl (lv_at hl 0 rfl) ?_
            refine lv_isub hx hb d_M_system_80 ?_
            refine lv_sipush (v := 3200) hx hb d_M_system_81 (by decide) ?_
            refine lv_icmp_ne (tgt := 92) hx hb d_M_system_84 (by decide) (fun c_24 => ?_) (fun c_24 => ?_)
            · exact W.vret hx hb hr (fun t ht hW => ⟨⟨(), rfl, trivial, mwd_at ht (mwd_eq (by rw [g_M_system, if_neg c_1, if_pos c_10, if_pos c_19, if_pos c_20, if_neg c_21, if_neg c_24]) hw)⟩, hS.F ht⟩) hS.2.2 d_M_system_92
            · refine lv_iload_n hx hb d_M_system_87 rfl (lv_at hl 0 rfl) ?_
              refine lv_iconst (v := 2) hx hb d_M_system_88 (by decide) ?_
              refine lv_icmp_le (tgt := 93) hx hb d_M_system_89 (by decide) (fun c_25 => ?_) (fun c_25 => ?_)
              · refine lv_aload_n hx hb d_M_system_93 rfl (lv_at hl 2 rfl) ?_
                refine lv_ldc2 (v := 25714) hx hb hown (hT _ m_953) d_M_system_94 ?_
                refine call_M_name S inC m_833 ⟨(Nat.le_of_ble_eq_true rfl), (Nat.le_of_ble_eq_true rfl)⟩ hl.1 (Nat.le_of_ble_eq_true rfl) d_M_system_97 ⟨(Nat.le_of_ble_eq_true rfl), (Nat.le_of_ble_eq_true rfl)⟩ hK ap ok hS hA hw (by omega) (fun H locs hw hS _ => ?_)
                have hL28 := sName_le 25714 (sName (q_M_system_25 bi d a b f) st)
                refine lv_aload_n hx hb d_M_system_100 rfl (lv_at hl 2 rfl) ?_
                refine lv_iload_n hx hb d_M_system_101 rfl (lv_at hl 0 rfl) ?_
                refine rg_M_system_102 S inC hT (Nat.le_of_ble_eq_true rfl) (Nat.le_of_ble_eq_true rfl) ⟨(Nat.le_of_ble_eq_true rfl), (Nat.le_of_ble_eq_true rfl)⟩ hK hw hl ?_
                refine call_M_say S inC m_837 ⟨(Nat.le_of_ble_eq_true rfl), (Nat.le_of_ble_eq_true rfl)⟩ hl.1 (Nat.le_of_ble_eq_true rfl) d_M_system_125 ⟨(Nat.le_of_ble_eq_true rfl), (Nat.le_of_ble_eq_true rfl)⟩ hK ap ok hS hA hw (by omega) (fun H locs hw hS _ => ?_)
                have hL29 := sSay_le (q_M_system_102 bi d a b f (f_M_part bi 20 12) ((f_M_part bi 20 12) &&& 127)) (sName 25714 (sName (q_M_system_25 bi d a b f) st))
                refine lv_iload_n hx hb d_M_system_128 rfl (lv_at hl 1 rfl) ?_
                refine lv_sipush (v := 3200) hx hb d_M_system_129 (by decide) ?_
                refine lv_icmp_lt (tgt := 141) hx hb d_M_system_132 (by decide) (fun c_26 => ?_) (fun c_26 => ?_)
                · refine lv_aload_n hx hb d_M_system_141 rfl (lv_at hl 2 rfl) ?_
                  refine lv_aload_n hx hb d_M_system_142 rfl (lv_at hl 2 rfl) ?_
                  obtain ⟨rg, ft, h1, h2, hP⟩ := id hw
                  refine va_get (D := (dC, dI)) (ci := 2) (v := .int d) (C := R_M) (T := F_M) (N := 14) hx hb hT i_M hown hK hP 0 rfl rfl 8 (by decide) (hT _ m_761) (fun _ h9 => h9) rfl d_M_system_143 ?_
                  refine call_M_register S inC m_846 ⟨(Nat.le_of_ble_eq_true rfl), (Nat.le_of_ble_eq_true rfl)⟩ hl.1 (Nat.le_of_ble_eq_true rfl) d_M_system_146 ⟨(Nat.le_of_ble_eq_true rfl), (Nat.le_of_ble_eq_true rfl)⟩ hK ap ok hS hA hw ok.1 (by omega) (fun H locs hw hS _ => ?_)
                  have hL30 := sReg_le d (sSay (q_M_system_102 bi d a b f (f_M_part bi 20 12) ((f_M_part bi 20 12) &&& 127)) (sName 25714 (sName (q_M_system_25 bi d a b f) st)))
                  exact W.vret hx hb hr (fun t ht hW => ⟨⟨(), rfl, trivial, mwd_at ht (mwd_eq (by rw [g_M_system, if_neg c_1, if_pos c_10, if_pos c_19, if_pos c_20, if_neg c_21, if_pos c_24, if_pos c_25, if_pos c_26]) hw)⟩, hS.F ht⟩) hS.2.2 d_M_system_149
                · refine lv_aload_n hx hb d_M_system_135 rfl (lv_at hl 2 rfl) ?_
                  refine lv_bipush (v := 104) hx hb d_M_system_136 (by decide) ?_
                  refine call_M_put S inC m_842 ⟨(Nat.le_of_ble_eq_true rfl), (Nat.le_of_ble_eq_true rfl)⟩ hl.1 (Nat.le_of_ble_eq_true rfl) d_M_system_138 ⟨(Nat.le_of_ble_eq_true rfl), (Nat.le_of_ble_eq_true rfl)⟩ hK ap ok hS hA hw (by omega) (fun H locs hw hS _ => ?_)
                  have hL31 := sPut_le 104 (sSay (q_M_system_102 bi d a b f (f_M_part bi 20 12) ((f_M_part bi 20 12) &&& 127)) (sName 25714 (sName (q_M_system_25 bi d a b f) st)))
                  refine lv_aload_n hx hb d_M_system_141 rfl (lv_at hl 2 rfl) ?_
                  refine lv_aload_n hx hb d_M_system_142 rfl (lv_at hl 2 rfl) ?_
                  obtain ⟨rg, ft, h1, h2, hP⟩ := id hw
                  refine va_get (D := (dC, dI)) (ci := 2) (v := .int d) (C := R_M) (T := F_M) (N := 14) hx hb hT i_M hown hK hP 0 rfl rfl 8 (by decide) (hT _ m_761) (fun _ h9 => h9) rfl d_M_system_143 ?_
                  refine call_M_register S inC m_846 ⟨(Nat.le_of_ble_eq_true rfl), (Nat.le_of_ble_eq_true rfl)⟩ hl.1 (Nat.le_of_ble_eq_true rfl) d_M_system_146 ⟨(Nat.le_of_ble_eq_true rfl), (Nat.le_of_ble_eq_true rfl)⟩ hK ap ok hS hA hw ok.1 (by omega) (fun H locs hw hS _ => ?_)
                  have hL32 := sReg_le d (sPut 104 (sSay (q_M_system_102 bi d a b f (f_M_part bi 20 12) ((f_M_part bi 20 12) &&& 127)) (sName 25714 (sName (q_M_system_25 bi d a b f) st))))
                  exact W.vret hx hb hr (fun t ht hW => ⟨⟨(), rfl, trivial, mwd_at ht (mwd_eq (by rw [g_M_system, if_neg c_1, if_pos c_10, if_pos c_19, if_pos c_20, if_neg c_21, if_pos c_24, if_pos c_25, if_neg c_26]) hw)⟩, hS.F ht⟩) hS.2.2 d_M_system_149
              · exact W.vret hx hb hr (fun t ht hW => ⟨⟨(), rfl, trivial, mwd_at ht (mwd_eq (by rw [g_M_system, if_neg c_1, if_pos c_10, if_pos c_19, if_pos c_20, if_neg c_21, if_pos c_24, if_neg c_25]) hw)⟩, hS.F ht⟩) hS.2.2 d_M_system_92
theorem call_M_system {p : Program} {l : Launch} {e : Env} {R : Room} {s : State} {m : MethodId} {args : Array Value} {below : List Frame} {meth : Method} {c : Code} {H : Heap} {locs : List Loc} {cells slots : Nat} {Q : State → Prop} {cc : ByteArray} {pc nL idx : Nat} {ls : Array Slot} {rest : List Value} {Ts : List Cond} {own : String} {A0 : Nat → Prop} {H0 : Heap} {dC : Nat → ClassId} {dI : Nat → Nat → Nat} {cI cC : ClassId} {m0 mt ms mr mk : Nat} {th yb bi d a b f : Int32} {str fk : Nat → Int32} {st : MT}  (S : CallFix p m c cc nL s args Ts own) (hTs : ∀ w ∈ WT, w ∈ Ts) (hlk : Cond.methodLink own idx y_M_system ∈ WT) (hR : 3 + 1 ≤ R.frames ∧ 8 + (3 + 11) + 67 ≤ R.locals) (hsz : ls.size = nL) (hrm : (rest.map fun v => v.category).sum ≤ 8) (hdg : decode cc pc = .ok (.invokevirtual idx, 3)) (hc : cells ≤ R.cells ∧ slots ≤ R.slots) (hK : rK dC dI cI cC s) (ap : apM m0 mt ms mr mk) (ok : mOk d a b) (hS : va_S A0 H0 H locs) (hA : ∀ q, aM m0 mt ms mr mk q → A0 q) (hw : mwd dC dI cI cC m0 mt ms mr mk th yb bi d a b f str fk st H) (hlen : st.2.2.length + 35 ≤ 64) (kk : ∀ (H1 : Heap) (locs1 : List Loc), mwd dC dI cI cC m0 mt ms mr mk th yb bi d a b f str fk (g_M_system bi d a b f  st) H1 → va_S A0 H0 H1 locs1 → (H.size ≤ H1.size ∧ ∀ q : Nat, q < H.size → ¬ aM m0 mt ms mr mk q → H1[q]? = H[q]?) → W p l e R s m args below meth c H1 locs1 cells slots Q (F0 m (pc + 3) ls (rest))) : W p l e R s m args below meth c H locs cells slots Q (F0 m pc ls (.ref m0 :: rest)) :=
  va_callv (va_runV (As := []) (rest := rest) S (c_M_system l dC dI cI cC m0 mt ms mr mk th yb bi d a b f str fk st ) (cwV 0 S.2.2.2.2 (gV hTs hlk m_948 m_37 m_52 m_949) rfl rfl rfl (by decide +kernel) hR) ⟨fun a U g mk q => ⟨q.1, ⟨q.2.1.blind, q.2.2⟩⟩, mwd.recv hK hw, fun U hU hW => ⟨rfl, ⟨mU.at hK ap ok hw hU hW, hlen⟩⟩⟩ rfl rfl hsz rfl (lv_room hrm) hdg hc) hS (fun q _ h => hA q h) hA (fun u t H1 locs1 ht hvm hp hB hz hk hS1 => kk H1 locs1 (by rw [← ht]; exact hB) hS1 ⟨hz, hk⟩)

def q_M_others_24 (bi d a b f y1 : Int32) : Int64 :=
  if y1 = 55 then
    6911340
  else
    427087721825
set_option maxRecDepth 100000 in
set_option maxHeartbeats 4000000 in
theorem rg_M_others_24 {p : Program} {l : Launch} {e : Env} {R : Room} {s : State} {m : MethodId} {args : Array Value} {below : List Frame} {meth : Method} {c : Code} {cells slots : Nat} {Q : State → Prop} {Ts : List Cond} {dC : Nat → ClassId} {dI : Nat → Nat → Nat} {cI cC : ClassId} {m0 mt ms mr mk : Nat} {th yb bi d a b f : Int32} {str fk : Nat → Int32} {st : MT} {H : Heap} {locs : List Loc} {ls : Array Slot} {y1 : Int32} (S : CallFix p m c b_M_others 2 s args Ts R_M) (hTs : ∀ w ∈ WT, w ∈ Ts) (hT : ∀ w ∈ WT, w.before args s = true) (hfr : 1 ≤ R.frames) (hlo : 1 ≤ R.locals) (hc : cells ≤ R.cells ∧ slots ≤ R.slots) (hK : rK dC dI cI cC s) (hw : mwd dC dI cI cC m0 mt ms mr mk th yb bi d a b f str fk st H) (hl : lv_has ls 2 [(1, .int y1), (0, .ref m0)]) (kk : W p l e R s m args below meth c H locs cells slots Q (F0 m 36 ls (.long (q_M_others_24 bi d a b f y1) :: [.ref m0]))) : W p l e R s m args below meth c H locs cells slots Q (F0 m 24 ls (.int 55 :: .int y1 :: [.ref m0])) := by
  have hx := S.1
  have hb := S.2.1
  have hown := S.2.2.2.1
  refine lv_icmp_ne (tgt := 33) hx hb d_M_others_24 (by decide) (fun c_1 => ?_) (fun c_1 => ?_)
  · refine lv_ldc2 (v := 427087721825) hx hb hown (hT _ m_962) d_M_others_33 ?_
    rw [q_M_others_24, if_neg c_1] at kk
    exact kk
  · refine lv_ldc2 (v := 6911340) hx hb hown (hT _ m_961) d_M_others_27 ?_
    refine lv_goto (tgt := 36) hx hb d_M_others_30 (by decide) ?_
    rw [q_M_others_24, if_pos c_1] at kk
    exact kk
def g_M_others (bi d a b f : Int32)  (st : MT) : MT :=
  if (bi &&& 127) = 55 then
    g_M_immediate bi d a b f (ushr bi 12) (sReg d (sName (q_M_others_24 bi d a b f (bi &&& 127)) st))
  else
    if (bi &&& 127) = 23 then
      g_M_immediate bi d a b f (ushr bi 12) (sReg d (sName (q_M_others_24 bi d a b f (bi &&& 127)) st))
    else
      if (bi &&& 127) = 103 then
        if f = 0 then
          g_M_memory bi d a b f (bi >>> ((20 : Int32) &&& 31)) a (sReg d (sName 1919705450 st))
        else
          if (bi &&& 127) = 111 then
            g_M_target bi d a b f (((((bi >>> ((31 : Int32) &&& 31)) <<< ((20 : Int32) &&& 31)) ||| ((f_M_part bi 12 8) <<< ((12 : Int32) &&& 31))) ||| ((f_M_part bi 20 1) <<< ((11 : Int32) &&& 31))) ||| ((f_M_part bi 21 10) <<< ((1 : Int32) &&& 31))) (sReg d (sName 7102826 st))
          else
            if bi = 267386895 then
              sName 435459876198 st
            else
              if bi = 4111 then
                sName 29605885549372774 st
              else
                st
      else
        if (bi &&& 127) = 111 then
          g_M_target bi d a b f (((((bi >>> ((31 : Int32) &&& 31)) <<< ((20 : Int32) &&& 31)) ||| ((f_M_part bi 12 8) <<< ((12 : Int32) &&& 31))) ||| ((f_M_part bi 20 1) <<< ((11 : Int32) &&& 31))) ||| ((f_M_part bi 21 10) <<< ((1 : Int32) &&& 31))) (sReg d (sName 7102826 st))
        else
          if bi = 267386895 then
            sName 435459876198 st
          else
            if bi = 4111 then
              sName 29605885549372774 st
            else
              st
set_option maxRecDepth 20000 in
theorem gl_M_others (bi d a b f : Int32)  (st : MT) : (g_M_others bi d a b f  st).2.2.length ≤ st.2.2.length + 41 := by
  unfold g_M_others
  exact (it_len _ (by have h0 := sName_le (q_M_others_24 bi d a b f (bi &&& 127)) st; have h1 := sReg_le d (sName (q_M_others_24 bi d a b f (bi &&& 127)) st); have h2 := gl_M_immediate bi d a b f (ushr bi 12) (sReg d (sName (q_M_others_24 bi d a b f (bi &&& 127)) st)); omega) (it_len _ (by have h0 := sName_le (q_M_others_24 bi d a b f (bi &&& 127)) st; have h1 := sReg_le d (sName (q_M_others_24 bi d a b f (bi &&& 127)) st); have h2 := gl_M_immediate bi d a b f (ushr bi 12) (sReg d (sName (q_M_others_24 bi d a b f (bi &&& 127)) st)); omega) (it_len _ (it_len _ (by have h0 := sName_le 1919705450 st; have h1 := sReg_le d (sName 1919705450 st); have h2 := gl_M_memory bi d a b f (bi >>> ((20 : Int32) &&& 31)) a (sReg d (sName 1919705450 st)); omega) (it_len _ (by have h0 := sName_le 7102826 st; have h1 := sReg_le d (sName 7102826 st); have h2 := gl_M_target bi d a b f (((((bi >>> ((31 : Int32) &&& 31)) <<< ((20 : Int32) &&& 31)) ||| ((f_M_part bi 12 8) <<< ((12 : Int32) &&& 31))) ||| ((f_M_part bi 20 1) <<< ((11 : Int32) &&& 31))) ||| ((f_M_part bi 21 10) <<< ((1 : Int32) &&& 31))) (sReg d (sName 7102826 st)); omega) (it_len _ (by have h0 := sName_le 435459876198 st; omega) (it_len _ (by have h0 := sName_le 29605885549372774 st; omega) (by omega))))) (it_len _ (by have h0 := sName_le 7102826 st; have h1 := sReg_le d (sName 7102826 st); have h2 := gl_M_target bi d a b f (((((bi >>> ((31 : Int32) &&& 31)) <<< ((20 : Int32) &&& 31)) ||| ((f_M_part bi 12 8) <<< ((12 : Int32) &&& 31))) ||| ((f_M_part bi 20 1) <<< ((11 : Int32) &&& 31))) ||| ((f_M_part bi 21 10) <<< ((1 : Int32) &&& 31))) (sReg d (sName 7102826 st)); omega) (it_len _ (by have h0 := sName_le 435459876198 st; omega) (it_len _ (by have h0 := sName_le 29605885549372774 st; omega) (by omega)))))))
set_option maxRecDepth 100000 in
set_option maxHeartbeats 4000000 in
theorem c_M_others (l : Launch) (dC : Nat → ClassId) (dI : Nat → Nat → Nat) (cI cC : ClassId) (m0 mt ms mr mk : Nat) (th yb bi d a b f : Int32) (str fk : Nat → Int32) (st : MT)  : Met l y_M_others (Cond.code y_M_others b_M_others 2 none :: WT) ({ frames := 5, cells := 0, slots := 0, locals := 111 }) (va_Pc [.ref m0] (fun U => mU dC dI cI cC m0 mt ms mr mk th yb bi d a b f str fk st U ∧ st.2.2.length + 41 ≤ 64)) (va_Qv (fun _ : Unit => True) (fun _ t => mwd dC dI cI cC m0 mt ms mr mk th yb bi d a b f str fk (g_M_others bi d a b f  st) t.heap) (aM m0 mt ms mr mk)) 0 0 (aM m0 mt ms mr mk) := by
  refine va_MetF (cc := b_M_others) (maxL := 2) (ret := none) (by decide +kernel) rfl ?_
  intro p e s m args below meth c s₁ B hml hv
  obtain ⟨rfl, ⟨hK, ap, ok, hw⟩, hlen⟩ := hv
  have hx := B.exec
  have hb := B.bytes
  have hr := B.returns
  have hts := atoms_spec (ws := (Cond.code y_M_others b_M_others 2 none :: WT)) B.pre
  have hT : ∀ w ∈ WT, w.before _ s = true := fun w h => hts w (inC w h)
  have hown : s.vm.findClass R_M = some m.cls := findClass_of_methodNamed B.named
  have hlocks := B.notSynchronized
  have hS : va_S (aM m0 mt ms mr mk) s.heap s.heap [] := va_S.rf
  have S : CallFix p m c b_M_others 2 s _ (Cond.code y_M_others b_M_others 2 none :: WT) R_M := ⟨hx, hb, hml, hown, hts⟩
  have hl := lv_entry ([.ref m0]) (n := 2) (Nat.le_of_ble_eq_true rfl)
  rw [lg_entry_eq]
  generalize (lg_sl ([.ref m0]) ++ List.replicate (2 - (lg_sl ([.ref m0])).length) Slot.unset).toArray = ls at hl ⊢
  have hl : lv_has ls 2 [(0, .ref m0)] := hl
  have hA : ∀ q, aM m0 mt ms mr mk q → aM m0 mt ms mr mk q := fun _ h => h
  refine lv_aload_n hx hb d_M_others_0 rfl (lv_at hl 0 rfl) ?_
  obtain ⟨rg, ft, h1, h2, hP⟩ := id hw
  refine va_get (D := (dC, dI)) (ci := 2) (v := .int bi) (C := R_M) (T := F_M) (N := 14) hx hb hT i_M hown hK hP 0 rfl rfl 7 (by decide) (hT _ m_760) (fun _ h9 => h9) rfl d_M_others_1 ?_
  refine lv_bipush (v := 127) hx hb d_M_others_4 (by decide) ?_
  refine lv_iand hx hb d_M_others_6 ?_
  refine lv_istore_n (lv' := [(1, .int (bi &&& 127)), (0, .ref m0)]) hx hb d_M_others_7 rfl hl (by decide) rfl (fun ls hl => ?_)
  refine lv_iload_n hx hb d_M_others_8 rfl (lv_at hl 0 rfl) ?_
  refine lv_bipush (v := 55) hx hb d_M_others_9 (by decide) ?_
  refine lv_icmp_eq (tgt := 20) hx hb d_M_others_11 (by decide) (fun c_1 => ?_) (fun c_1 => ?_)
  · refine lv_aload_n hx hb d_M_others_20 rfl (lv_at hl 1 rfl) ?_
    refine lv_iload_n hx hb d_M_others_21 rfl (lv_at hl 0 rfl) ?_
    refine lv_bipush (v := 55) hx hb d_M_others_22 (by decide) ?_
    refine rg_M_others_24 S inC hT (Nat.le_of_ble_eq_true rfl) (Nat.le_of_ble_eq_true rfl) ⟨(Nat.le_of_ble_eq_true rfl), (Nat.le_of_ble_eq_true rfl)⟩ hK hw hl ?_
    refine call_M_name S inC m_833 ⟨(Nat.le_of_ble_eq_true rfl), (Nat.le_of_ble_eq_true rfl)⟩ hl.1 (Nat.le_of_ble_eq_true rfl) d_M_others_36 ⟨(Nat.le_of_ble_eq_true rfl), (Nat.le_of_ble_eq_true rfl)⟩ hK ap ok hS hA hw (by omega) (fun H locs hw hS _ => ?_)
    have hL1 := sName_le (q_M_others_24 bi d a b f (bi &&& 127)) st
    refine lv_aload_n hx hb d_M_others_39 rfl (lv_at hl 1 rfl) ?_
    refine lv_aload_n hx hb d_M_others_40 rfl (lv_at hl 1 rfl) ?_
    obtain ⟨rg, ft, h1, h2, hP⟩ := id hw
    refine va_get (D := (dC, dI)) (ci := 2) (v := .int d) (C := R_M) (T := F_M) (N := 14) hx hb hT i_M hown hK hP 0 rfl rfl 8 (by decide) (hT _ m_761) (fun _ h9 => h9) rfl d_M_others_41 ?_
    refine call_M_register S inC m_846 ⟨(Nat.le_of_ble_eq_true rfl), (Nat.le_of_ble_eq_true rfl)⟩ hl.1 (Nat.le_of_ble_eq_true rfl) d_M_others_44 ⟨(Nat.le_of_ble_eq_true rfl), (Nat.le_of_ble_eq_true rfl)⟩ hK ap ok hS hA hw ok.1 (by omega) (fun H locs hw hS _ => ?_)
    have hL2 := sReg_le d (sName (q_M_others_24 bi d a b f (bi &&& 127)) st)
    refine lv_aload_n hx hb d_M_others_47 rfl (lv_at hl 1 rfl) ?_
    refine lv_aload_n hx hb d_M_others_48 rfl (lv_at hl 1 rfl) ?_
    obtain ⟨rg, ft, h1, h2, hP⟩ := id hw
    refine va_get (D := (dC, dI)) (ci := 2) (v := .int bi) (C := R_M) (T := F_M) (N := 14) hx hb hT i_M hown hK hP 0 rfl rfl 7 (by decide) (hT _ m_760) (fun _ h9 => h9) rfl d_M_others_49 ?_
    refine lv_bipush (v := 12) hx hb d_M_others_52 (by decide) ?_
    refine lv_iushr (v := ushr bi 12) hx hb d_M_others_54 rfl ?_
    refine call_M_immediate S inC m_877 ⟨(Nat.le_of_ble_eq_true rfl), (Nat.le_of_ble_eq_true rfl)⟩ hl.1 (Nat.le_of_ble_eq_true rfl) d_M_others_55 ⟨(Nat.le_of_ble_eq_true rfl), (Nat.le_of_ble_eq_true rfl)⟩ hK ap ok hS hA hw (by omega) (fun H locs hw hS _ => ?_)
    have hL3 := gl_M_immediate bi d a b f (ushr bi 12) (sReg d (sName (q_M_others_24 bi d a b f (bi &&& 127)) st))
    refine lv_goto (tgt := 216) hx hb d_M_others_58 (by decide) ?_
    exact W.vret hx hb hr (fun t ht hW => ⟨⟨(), rfl, trivial, mwd_at ht (mwd_eq (by rw [g_M_others, if_pos c_1]) hw)⟩, hS.F ht⟩) hS.2.2 d_M_others_216
  · refine lv_iload_n hx hb d_M_others_14 rfl (lv_at hl 0 rfl) ?_
    refine lv_bipush (v := 23) hx hb d_M_others_15 (by decide) ?_
    refine lv_icmp_ne (tgt := 61) hx hb d_M_others_17 (by decide) (fun c_2 => ?_) (fun c_2 => ?_)
    · refine lv_iload_n hx hb d_M_others_61 rfl (lv_at hl 0 rfl) ?_
      refine lv_bipush (v := 103) hx hb d_M_others_62 (by decide) ?_
      refine lv_icmp_ne (tgt := 107) hx hb d_M_others_64 (by decide) (fun c_3 => ?_) (fun c_3 => ?_)
      · refine lv_iload_n hx hb d_M_others_107 rfl (lv_at hl 0 rfl) ?_
        refine lv_bipush (v := 111) hx hb d_M_others_108 (by decide) ?_
        refine lv_icmp_ne (tgt := 179) hx hb d_M_others_110 (by decide) (fun c_4 => ?_) (fun c_4 => ?_)
        · refine lv_aload_n hx hb d_M_others_179 rfl (lv_at hl 1 rfl) ?_
          obtain ⟨rg, ft, h1, h2, hP⟩ := id hw
          refine va_get (D := (dC, dI)) (ci := 2) (v := .int bi) (C := R_M) (T := F_M) (N := 14) hx hb hT i_M hown hK hP 0 rfl rfl 7 (by decide) (hT _ m_760) (fun _ h9 => h9) rfl d_M_others_180 ?_
          refine lv_ldcw (v := 267386895) hx hb hown (hT _ m_965) d_M_others_183 ?_
          refine lv_icmp_ne (tgt := 199) hx hb d_M_others_186 (by decide) (fun c_5 => ?_) (fun c_5 => ?_)
          · refine lv_aload_n hx hb d_M_others_199 rfl (lv_at hl 1 rfl) ?_
            obtain ⟨rg, ft, h1, h2, hP⟩ := id hw
            refine va_get (D := (dC, dI)) (ci := 2) (v := .int bi) (C := R_M) (T := F_M) (N := 14) hx hb hT i_M hown hK hP 0 rfl rfl 7 (by decide) (hT _ m_760) (fun _ h9 => h9) rfl d_M_others_200 ?_
            refine lv_sipush (v := 4111) hx hb d_M_others_203 (by decide) ?_
            refine lv_icmp_ne (tgt := 216) hx hb d_M_others_206 (by decide) (fun c_6 => ?_) (fun c_6 => ?_)
            · exact W.vret hx hb hr (fun t ht hW => ⟨⟨(), rfl, trivial, mwd_at ht (mwd_eq (by rw [g_M_others, if_neg c_1, if_neg c_2, if_neg c_3, if_neg c_4, if_neg c_5, if_neg c_6]) hw)⟩, hS.F ht⟩) hS.2.2 d_M_others_216
            · refine lv_aload_n hx hb d_M_others_209 rfl (lv_at hl 1 rfl) ?_
              refine lv_ldc2 (v := 29605885549372774) hx hb hown (hT _ m_967) d_M_others_210 ?_
              refine call_M_name S inC m_833 ⟨(Nat.le_of_ble_eq_true rfl), (Nat.le_of_ble_eq_true rfl)⟩ hl.1 (Nat.le_of_ble_eq_true rfl) d_M_others_213 ⟨(Nat.le_of_ble_eq_true rfl), (Nat.le_of_ble_eq_true rfl)⟩ hK ap ok hS hA hw (by omega) (fun H locs hw hS _ => ?_)
              have hL4 := sName_le 29605885549372774 st
              exact W.vret hx hb hr (fun t ht hW => ⟨⟨(), rfl, trivial, mwd_at ht (mwd_eq (by rw [g_M_others, if_neg c_1, if_neg c_2, if_neg c_3, if_neg c_4, if_neg c_5, if_pos c_6]) hw)⟩, hS.F ht⟩) hS.2.2 d_M_others_216
          · refine lv_aload_n hx hb d_M_others_189 rfl (lv_at hl 1 rfl) ?_
            refine lv_ldc2 (v := 435459876198) hx hb hown (hT _ m_966) d_M_others_190 ?_
            refine call_M_name S inC m_833 ⟨(Nat.le_of_ble_eq_true rfl), (Nat.le_of_ble_eq_true rfl)⟩ hl.1 (Nat.le_of_ble_eq_true rfl) d_M_others_193 ⟨(Nat.le_of_ble_eq_true rfl), (Nat.le_of_ble_eq_true rfl)⟩ hK ap ok hS hA hw (by omega) (fun H locs hw hS _ => ?_)
            have hL5 := sName_le 435459876198 st
            refine lv_goto (tgt := 216) hx hb d_M_others_196 (by decide) ?_
            exact W.vret hx hb hr (fun t ht hW => ⟨⟨(), rfl, trivial, mwd_at ht (mwd_eq (by rw [g_M_others, if_neg c_1, if_neg c_2, if_neg c_3, if_neg c_4, if_pos c_5]) hw)⟩, hS.F ht⟩) hS.2.2 d_M_others_216
        · refine lv_aload_n hx hb d_M_others_113 rfl (lv_at hl 1 rfl) ?_
          refine lv_ldc2 (v := 7102826) hx hb hown (hT _ m_964) d_M_others_114 ?_
          refine call_M_name S inC m_833 ⟨(Nat.le_of_ble_eq_true rfl), (Nat.le_of_ble_eq_true rfl)⟩ hl.1 (Nat.le_of_ble_eq_true rfl) d_M_others_117 ⟨(Nat.le_of_ble_eq_true rfl), (Nat.le_of_ble_eq_true rfl)⟩ hK ap ok hS hA hw (by omega) (fun H locs hw hS _ => ?_)
          have hL6 := sName_le 7102826 st
          refine lv_aload_n hx hb d_M_others_120 rfl (lv_at hl 1 rfl) ?_
          refine lv_aload_n hx hb d_M_others_121 rfl (lv_at hl 1 rfl) ?_
          obtain ⟨rg, ft, h1, h2, hP⟩ := id hw
          refine va_get (D := (dC, dI)) (ci := 2) (v := .int d) (C := R_M) (T := F_M) (N := 14) hx hb hT i_M hown hK hP 0 rfl rfl 8 (by decide) (hT _ m_761) (fun _ h9 => h9) rfl d_M_others_122 ?_
          refine call_M_register S inC m_846 ⟨(Nat.le_of_ble_eq_true rfl), (Nat.le_of_ble_eq_true rfl)⟩ hl.1 (Nat.le_of_ble_eq_true rfl) d_M_others_125 ⟨(Nat.le_of_ble_eq_true rfl), (Nat.le_of_ble_eq_true rfl)⟩ hK ap ok hS hA hw ok.1 (by omega) (fun H locs hw hS _ => ?_)
          have hL7 := sReg_le d (sName 7102826 st)
          refine lv_aload_n hx hb d_M_others_128 rfl (lv_at hl 1 rfl) ?_
          refine lv_aload_n hx hb d_M_others_129 rfl (lv_at hl 1 rfl) ?_
          obtain ⟨rg, ft, h1, h2, hP⟩ := id hw
          refine va_get (D := (dC, dI)) (ci := 2) (v := .int bi) (C := R_M) (T := F_M) (N := 14) hx hb hT i_M hown hK hP 0 rfl rfl 7 (by decide) (hT _ m_760) (fun _ h9 => h9) rfl d_M_others_130 ?_
          refine lv_bipush (v := 31) hx hb d_M_others_133 (by decide) ?_
          refine lv_ishr hx hb d_M_others_135 ?_
          refine lv_bipush (v := 20) hx hb d_M_others_136 (by decide) ?_
          refine lv_ishl hx hb d_M_others_138 ?_
          refine lv_aload_n hx hb d_M_others_139 rfl (lv_at hl 1 rfl) ?_
          refine lv_bipush (v := 12) hx hb d_M_others_140 (by decide) ?_
          refine lv_bipush (v := 8) hx hb d_M_others_142 (by decide) ?_
          refine call_M_part S inC m_809 ⟨(Nat.le_of_ble_eq_true rfl), (Nat.le_of_ble_eq_true rfl)⟩ hl.1 (Nat.le_of_ble_eq_true rfl) d_M_others_144 ⟨(Nat.le_of_ble_eq_true rfl), (Nat.le_of_ble_eq_true rfl)⟩ hK hw ?_
          refine lv_bipush (v := 12) hx hb d_M_others_147 (by decide) ?_
          refine lv_ishl hx hb d_M_others_149 ?_
          refine lv_ior hx hb d_M_others_150 ?_
          refine lv_aload_n hx hb d_M_others_151 rfl (lv_at hl 1 rfl) ?_
          refine lv_bipush (v := 20) hx hb d_M_others_152 (by decide) ?_
          refine lv_iconst (v := 1) hx hb d_M_others_154 (by decide) ?_
          refine call_M_part S inC m_809 ⟨(Nat.le_of_ble_eq_true rfl), (Nat.le_of_ble_eq_true rfl)⟩ hl.1 (Nat.le_of_ble_eq_true rfl) d_M_others_155 ⟨(Nat.le_of_ble_eq_true rfl), (Nat.le_of_ble_eq_true rfl)⟩ hK hw ?_
          refine lv_bipush (v := 11) hx hb d_M_others_158 (by decide) ?_
          refine lv_ishl hx hb d_M_others_160 ?_
          refine lv_ior hx hb d_M_others_161 ?_
          refine lv_aload_n hx hb d_M_others_162 rfl (lv_at hl 1 rfl) ?_
          refine lv_bipush (v := 21) hx hb d_M_others_163 (by decide) ?_
          refine lv_bipush (v := 10) hx hb d_M_others_165 (by decide) ?_
          refine call_M_part S inC m_809 ⟨(Nat.le_of_ble_eq_true rfl), (Nat.le_of_ble_eq_true rfl)⟩ hl.1 (Nat.le_of_ble_eq_true rfl) d_M_others_167 ⟨(Nat.le_of_ble_eq_true rfl), (Nat.le_of_ble_eq_true rfl)⟩ hK hw ?_
          refine lv_iconst (v := 1) hx hb d_M_others_170 (by decide) ?_
          refine lv_ishl hx hb d_M_others_171 ?_
          refine lv_ior hx hb d_M_others_172 ?_
          refine call_M_target S inC m_926 ⟨(Nat.le_of_ble_eq_true rfl), (Nat.le_of_ble_eq_true rfl)⟩ hl.1 (Nat.le_of_ble_eq_true rfl) d_M_others_173 ⟨(Nat.le_of_ble_eq_true rfl), (Nat.le_of_ble_eq_true rfl)⟩ hK ap ok hS hA hw (by omega) (fun H locs hw hS _ => ?_)
          have hL8 := gl_M_target bi d a b f (((((bi >>> ((31 : Int32) &&& 31)) <<< ((20 : Int32) &&& 31)) ||| ((f_M_part bi 12 8) <<< ((12 : Int32) &&& 31))) ||| ((f_M_part bi 20 1) <<< ((11 : Int32) &&& 31))) ||| ((f_M_part bi 21 10) <<< ((1 : Int32) &&& 31))) (sReg d (sName 7102826 st))
          refine lv_goto (tgt := 216) hx hb d_M_others_176 (by decide) ?_
          exact W.vret hx hb hr (fun t ht hW => ⟨⟨(), rfl, trivial, mwd_at ht (mwd_eq (by rw [g_M_others, if_neg c_1, if_neg c_2, if_neg c_3, if_pos c_4]) hw)⟩, hS.F ht⟩) hS.2.2 d_M_others_216
      · refine lv_aload_n hx hb d_M_others_67 rfl (lv_at hl 1 rfl) ?_
        obtain ⟨rg, ft, h1, h2, hP⟩ := id hw
        refine va_get (D := (dC, dI)) (ci := 2) (v := .int f) (C := R_M) (T := F_M) (N := 14) hx hb hT i_M hown hK hP 0 rfl rfl 11 (by decide) (hT _ m_764) (fun _ h9 => h9) rfl d_M_others_68 ?_
        refine lv_if_ne (tgt := 107) hx hb d_M_others_71 (by decide) (fun c_7 => ?_) (fun c_7 => ?_)
        · refine lv_iload_n hx hb d_M_others_107 rfl (lv_at hl 0 rfl) ?_
          refine lv_bipush (v := 111) hx hb d_M_others_108 (by decide) ?_
          refine lv_icmp_ne (tgt := 179) hx hb d_M_others_110 (by decide) (fun c_8 => ?_) (fun c_8 => ?_)
          · refine lv_aload_n hx hb d_M_others_179 rfl (lv_at hl 1 rfl) ?_
            obtain ⟨rg, ft, h1, h2, hP⟩ := id hw
            refine va_get (D := (dC, dI)) (ci := 2) (v := .int bi) (C := R_M) (T := F_M) (N := 14) hx hb hT i_M hown hK hP 0 rfl rfl 7 (by decide) (hT _ m_760) (fun _ h9 => h9) rfl d_M_others_180 ?_
            refine lv_ldcw (v := 267386895) hx hb hown (hT _ m_965) d_M_others_183 ?_
            refine lv_icmp_ne (tgt := 199) hx hb d_M_others_186 (by decide) (fun c_9 => ?_) (fun c_9 => ?_)
            · refine lv_aload_n hx hb d_M_others_199 rfl (lv_at hl 1 rfl) ?_
              obtain ⟨rg, ft, h1, h2, hP⟩ := id hw
              refine va_get (D := (dC, dI)) (ci := 2) (v := .int bi) (C := R_M) (T := F_M) (N := 14) hx hb hT i_M hown hK hP 0 rfl rfl 7 (by decide) (hT _ m_760) (fun _ h9 => h9) rfl d_M_others_200 ?_
              refine lv_sipush (v := 4111) hx hb d_M_others_203 (by decide) ?_
              refine lv_icmp_ne (tgt := 216) hx hb d_M_others_206 (by decide) (fun c_10 => ?_) (fun c_10 => ?_)
              · exact W.vret hx hb hr (fun t ht hW => ⟨⟨(), rfl, trivial, mwd_at ht (mwd_eq (by rw [g_M_others, if_neg c_1, if_neg c_2, if_pos c_3, if_neg c_7, if_neg c_8, if_neg c_9, if_neg c_10]) hw)⟩, hS.F ht⟩) hS.2.2 d_M_others_216
              · refine lv_aload_n hx hb d_M_others_209 rfl (lv_at hl 1 rfl) ?_
                refine lv_ldc2 (v := 29605885549372774) hx hb hown (hT _ m_967) d_M_others_210 ?_
                refine call_M_name S inC m_833 ⟨(Nat.le_of_ble_eq_true rfl), (Nat.le_of_ble_eq_true rfl)⟩ hl.1 (Nat.le_of_ble_eq_true rfl) d_M_others_213 ⟨(Nat.le_of_ble_eq_true rfl), (Nat.le_of_ble_eq_true rfl)⟩ hK ap ok hS hA hw (by omega) (fun H locs hw hS _ => ?_)
                have hL9 := sName_le 29605885549372774 st
                exact W.vret hx hb hr (fun t ht hW => ⟨⟨(), rfl, trivial, mwd_at ht (mwd_eq (by rw [g_M_others, if_neg c_1, if_neg c_2, if_pos c_3, if_neg c_7, if_neg c_8, if_neg c_9, if_pos c_10]) hw)⟩, hS.F ht⟩) hS.2.2 d_M_others_216
            · refine lv_aload_n hx hb d_M_others_189 rfl (lv_at hl 1 rfl) ?_
              refine lv_ldc2 (v := 435459876198) hx hb hown (hT _ m_966) d_M_others_190 ?_
              refine call_M_name S inC m_833 ⟨(Nat.le_of_ble_eq_true rfl), (Nat.le_of_ble_eq_true rfl)⟩ hl.1 (Nat.le_of_ble_eq_true rfl) d_M_others_193 ⟨(Nat.le_of_ble_eq_true rfl), (Nat.le_of_ble_eq_true rfl)⟩ hK ap ok hS hA hw (by omega) (fun H locs hw hS _ => ?_)
              have hL10 := sName_le 435459876198 st
              refine lv_goto (tgt := 216) hx hb d_M_others_196 (by decide) ?_
              exact W.vret hx hb hr (fun t ht hW => ⟨⟨(), rfl, trivial, mwd_at ht (mwd_eq (by rw [g_M_others, if_neg c_1, if_neg c_2, if_pos c_3, if_neg c_7, if_neg c_8, if_pos c_9]) hw)⟩, hS.F ht⟩) hS.2.2 d_M_others_216
          · refine lv_aload_n hx hb d_M_others_113 rfl (lv_at hl 1 rfl) ?_
            refine lv_ldc2 (v := 7102826) hx hb hown (hT _ m_964) d_M_others_114 ?_
            refine call_M_name S inC m_833 ⟨(Nat.le_of_ble_eq_true rfl), (Nat.le_of_ble_eq_true rfl)⟩ hl.1 (Nat.le_of_ble_eq_true rfl) d_M_others_117 ⟨(Nat.le_of_ble_eq_true rfl), (Nat.le_of_ble_eq_true rfl)⟩ hK ap ok hS hA hw (by omega) (fun H locs hw hS _ => ?_)
            have hL11 := sName_le 7102826 st
            refine lv_aload_n hx hb d_M_others_120 rfl (lv_at hl 1 rfl) ?_
            refine lv_aload_n hx hb d_M_others_121 rfl (lv_at hl 1 rfl) ?_
            obtain ⟨rg, ft, h1, h2, hP⟩ := id hw
            refine va_get (D := (dC, dI)) (ci := 2) (v := .int d) (C := R_M) (T := F_M) (N := 14) hx hb hT i_M hown hK hP 0 rfl rfl 8 (by decide) (hT _ m_761) (fun _ h9 => h9) rfl d_M_others_122 ?_
            refine call_M_register S inC m_846 ⟨(Nat.le_of_ble_eq_true rfl), (Nat.le_of_ble_eq_true rfl)⟩ hl.1 (Nat.le_of_ble_eq_true rfl) d_M_others_125 ⟨(Nat.le_of_ble_eq_true rfl), (Nat.le_of_ble_eq_true rfl)⟩ hK ap ok hS hA hw ok.1 (by omega) (fun H locs hw hS _ => ?_)
            have hL12 := sReg_le d (sName 7102826 st)
            refine lv_aload_n hx hb d_M_others_128 rfl (lv_at hl 1 rfl) ?_
            refine lv_aload_n hx hb d_M_others_129 rfl (lv_at hl 1 rfl) ?_
            obtain ⟨rg, ft, h1, h2, hP⟩ := id hw
            refine va_get (D := (dC, dI)) (ci := 2) (v := .int bi) (C := R_M) (T := F_M) (N := 14) hx hb hT i_M hown hK hP 0 rfl rfl 7 (by decide) (hT _ m_760) (fun _ h9 => h9) rfl d_M_others_130 ?_
            refine lv_bipush (v := 31) hx hb d_M_others_133 (by decide) ?_
            refine lv_ishr hx hb d_M_others_135 ?_
            refine lv_bipush (v := 20) hx hb d_M_others_136 (by decide) ?_
            refine lv_ishl hx hb d_M_others_138 ?_
            refine lv_aload_n hx hb d_M_others_139 rfl (lv_at hl 1 rfl) ?_
            refine lv_bipush (v := 12) hx hb d_M_others_140 (by decide) ?_
            refine lv_bipush (v := 8) hx hb d_M_others_142 (by decide) ?_
            refine call_M_part S inC m_809 ⟨(Nat.le_of_ble_eq_true rfl), (Nat.le_of_ble_eq_true rfl)⟩ hl.1 (Nat.le_of_ble_eq_true rfl) d_M_others_144 ⟨(Nat.le_of_ble_eq_true rfl), (Nat.le_of_ble_eq_true rfl)⟩ hK hw ?_
            refine lv_bipush (v := 12) hx hb d_M_others_147 (by decide) ?_
            refine lv_ishl hx hb d_M_others_149 ?_
            refine lv_ior hx hb d_M_others_150 ?_
            refine lv_aload_n hx hb d_M_others_151 rfl (lv_at hl 1 rfl) ?_
            refine lv_bipush (v := 20) hx hb d_M_others_152 (by decide) ?_
            refine lv_iconst (v := 1) hx hb d_M_others_154 (by decide) ?_
            refine call_M_part S inC m_809 ⟨(Nat.le_of_ble_eq_true rfl), (Nat.le_of_ble_eq_true rfl)⟩ hl.1 (Nat.le_of_ble_eq_true rfl) d_M_others_155 ⟨(Nat.le_of_ble_eq_true rfl), (Nat.le_of_ble_eq_true rfl)⟩ hK hw ?_
            refine lv_bipush (v := 11) hx hb d_M_others_158 (by decide) ?_
            refine lv_ishl hx hb d_M_others_160 ?_
            refine lv_ior hx hb d_M_others_161 ?_
            refine lv_aload_n hx hb d_M_others_162 rfl (lv_at hl 1 rfl) ?_
            refine lv_bipush (v := 21) hx hb d_M_others_163 (by decide) ?_
            refine lv_bipush (v := 10) hx hb d_M_others_165 (by decide) ?_
            refine call_M_part S inC m_809 ⟨(Nat.le_of_ble_eq_true rfl), (Nat.le_of_ble_eq_true rfl)⟩ hl.1 (Nat.le_of_ble_eq_true rfl) d_M_others_167 ⟨(Nat.le_of_ble_eq_true rfl), (Nat.le_of_ble_eq_true rfl)⟩ hK hw ?_
            refine lv_iconst (v := 1) hx hb d_M_others_170 (by decide) ?_
            refine lv_ishl hx hb d_M_others_171 ?_
            refine lv_ior hx hb d_M_others_172 ?_
            refine call_M_target S inC m_926 ⟨(Nat.le_of_ble_eq_true rfl), (Nat.le_of_ble_eq_true rfl)⟩ hl.1 (Nat.le_of_ble_eq_true rfl) d_M_others_173 ⟨(Nat.le_of_ble_eq_true rfl), (Nat.le_of_ble_eq_true rfl)⟩ hK ap ok hS hA hw (by omega) (fun H locs hw hS _ => ?_)
            have hL13 := gl_M_target bi d a b f (((((bi >>> ((31 : Int32) &&& 31)) <<< ((20 : Int32) &&& 31)) ||| ((f_M_part bi 12 8) <<< ((12 : Int32) &&& 31))) ||| ((f_M_part bi 20 1) <<< ((11 : Int32) &&& 31))) ||| ((f_M_part bi 21 10) <<< ((1 : Int32) &&& 31))) (sReg d (sName 7102826 st))
            refine lv_goto (tgt := 216) hx hb d_M_others_176 (by decide) ?_
            exact W.vret hx hb hr (fun t ht hW => ⟨⟨(), rfl, trivial, mwd_at ht (mwd_eq (by rw [g_M_others, if_neg c_1, if_neg c_2, if_pos c_3, if_neg c_7, if_pos c_8]) hw)⟩, hS.F ht⟩) hS.2.2 d_M_others_216
        · refine lv_aload_n hx hb d_M_others_74 rfl (lv_at hl 1 rfl) ?_
          refine lv_ldc2 (v := 1919705450) hx hb hown (hT _ m_963) d_M_others_75 ?_
          refine call_M_name S inC m_833 ⟨(Nat.le_of_ble_eq_true rfl), (Nat.le_of_ble_eq_true rfl)⟩ hl.1 (Nat.le_of_ble_eq_true rfl) d_M_others_78 ⟨(Nat.le_of_ble_eq_true rfl), (Nat.le_of_ble_eq_true rfl)⟩ hK ap ok hS hA hw (by omega) (fun H locs hw hS _ => ?_)
          have hL14 := sName_le 1919705450 st
          refine lv_aload_n hx hb d_M_others_81 rfl (lv_at hl 1 rfl) ?_
          refine lv_aload_n hx hb d_M_others_82 rfl (lv_at hl 1 rfl) ?_
          obtain ⟨rg, ft, h1, h2, hP⟩ := id hw
          refine va_get (D := (dC, dI)) (ci := 2) (v := .int d) (C := R_M) (T := F_M) (N := 14) hx hb hT i_M hown hK hP 0 rfl rfl 8 (by decide) (hT _ m_761) (fun _ h9 => h9) rfl d_M_others_83 ?_
          refine call_M_register S inC m_846 ⟨(Nat.le_of_ble_eq_true rfl), (Nat.le_of_ble_eq_true rfl)⟩ hl.1 (Nat.le_of_ble_eq_true rfl) d_M_others_86 ⟨(Nat.le_of_ble_eq_true rfl), (Nat.le_of_ble_eq_true rfl)⟩ hK ap ok hS hA hw ok.1 (by omega) (fun H locs hw hS _ => ?_)
          have hL15 := sReg_le d (sName 1919705450 st)
          refine lv_aload_n hx hb d_M_others_89 rfl (lv_at hl 1 rfl) ?_
          refine lv_aload_n hx hb d_M_others_90 rfl (lv_at hl 1 rfl) ?_
          obtain ⟨rg, ft, h1, h2, hP⟩ := id hw
          refine va_get (D := (dC, dI)) (ci := 2) (v := .int bi) (C := R_M) (T := F_M) (N := 14) hx hb hT i_M hown hK hP 0 rfl rfl 7 (by decide) (hT _ m_760) (fun _ h9 => h9) rfl d_M_others_91 ?_
          refine lv_bipush (v := 20) hx hb d_M_others_94 (by decide) ?_
          refine lv_ishr hx hb d_M_others_96 ?_
          refine lv_aload_n hx hb d_M_others_97 rfl (lv_at hl 1 rfl) ?_
          obtain ⟨rg, ft, h1, h2, hP⟩ := id hw
          refine va_get (D := (dC, dI)) (ci := 2) (v := .int a) (C := R_M) (T := F_M) (N := 14) hx hb hT i_M hown hK hP 0 rfl rfl 9 (by decide) (hT _ m_762) (fun _ h9 => h9) rfl d_M_others_98 ?_
          refine call_M_memory S inC m_901 ⟨(Nat.le_of_ble_eq_true rfl), (Nat.le_of_ble_eq_true rfl)⟩ hl.1 (Nat.le_of_ble_eq_true rfl) d_M_others_101 ⟨(Nat.le_of_ble_eq_true rfl), (Nat.le_of_ble_eq_true rfl)⟩ hK ap ok hS hA hw ok.2.1 (by omega) (fun H locs hw hS _ => ?_)
          have hL16 := gl_M_memory bi d a b f (bi >>> ((20 : Int32) &&& 31)) a (sReg d (sName 1919705450 st))
          refine lv_goto (tgt := 216) hx hb d_M_others_104 (by decide) ?_
          exact W.vret hx hb hr (fun t ht hW => ⟨⟨(), rfl, trivial, mwd_at ht (mwd_eq (by rw [g_M_others, if_neg c_1, if_neg c_2, if_pos c_3, if_pos c_7]) hw)⟩, hS.F ht⟩) hS.2.2 d_M_others_216
    · refine lv_aload_n hx hb d_M_others_20 rfl (lv_at hl 1 rfl) ?_
      refine lv_iload_n hx hb d_M_others_21 rfl (lv_at hl 0 rfl) ?_
      refine lv_bipush (v := 55) hx hb d_M_others_22 (by decide) ?_
      refine rg_M_others_24 S inC hT (Nat.le_of_ble_eq_true rfl) (Nat.le_of_ble_eq_true rfl) ⟨(Nat.le_of_ble_eq_true rfl), (Nat.le_of_ble_eq_true rfl)⟩ hK hw hl ?_
      refine call_M_name S inC m_833 ⟨(Nat.le_of_ble_eq_true rfl), (Nat.le_of_ble_eq_true rfl)⟩ hl.1 (Nat.le_of_ble_eq_true rfl) d_M_others_36 ⟨(Nat.le_of_ble_eq_true rfl), (Nat.le_of_ble_eq_true rfl)⟩ hK ap ok hS hA hw (by omega) (fun H locs hw hS _ => ?_)
      have hL17 := sName_le (q_M_others_24 bi d a b f (bi &&& 127)) st
      refine lv_aload_n hx hb d_M_others_39 rfl (lv_at hl 1 rfl) ?_
      refine lv_aload_n hx hb d_M_others_40 rfl (lv_at hl 1 rfl) ?_
      obtain ⟨rg, ft, h1, h2, hP⟩ := id hw
      refine va_get (D := (dC, dI)) (ci := 2) (v := .int d) (C := R_M) (T := F_M) (N := 14) hx hb hT i_M hown hK hP 0 rfl rfl 8 (by decide) (hT _ m_761) (fun _ h9 => h9) rfl d_M_others_41 ?_
      refine call_M_register S inC m_846 ⟨(Nat.le_of_ble_eq_true rfl), (Nat.le_of_ble_eq_true rfl)⟩ hl.1 (Nat.le_of_ble_eq_true rfl) d_M_others_44 ⟨(Nat.le_of_ble_eq_true rfl), (Nat.le_of_ble_eq_true rfl)⟩ hK ap ok hS hA hw ok.1 (by omega) (fun H locs hw hS _ => ?_)
      have hL18 := sReg_le d (sName (q_M_others_24 bi d a b f (bi &&& 127)) st)
      refine lv_aload_n hx hb d_M_others_47 rfl (lv_at hl 1 rfl) ?_
      refine lv_aload_n hx hb d_M_others_48 rfl (lv_at hl 1 rfl) ?_
      obtain ⟨rg, ft, h1, h2, hP⟩ := id hw
      refine va_get (D := (dC, dI)) (ci := 2) (v := .int bi) (C := R_M) (T := F_M) (N := 14) hx hb hT i_M hown hK hP 0 rfl rfl 7 (by decide) (hT _ m_760) (fun _ h9 => h9) rfl d_M_others_49 ?_
      refine lv_bipush (v := 12) hx hb d_M_others_52 (by decide) ?_
      refine lv_iushr (v := ushr bi 12) hx hb d_M_others_54 rfl ?_
      refine call_M_immediate S inC m_877 ⟨(Nat.le_of_ble_eq_true rfl), (Nat.le_of_ble_eq_true rfl)⟩ hl.1 (Nat.le_of_ble_eq_true rfl) d_M_others_55 ⟨(Nat.le_of_ble_eq_true rfl), (Nat.le_of_ble_eq_true rfl)⟩ hK ap ok hS hA hw (by omega) (fun H locs hw hS _ => ?_)
      have hL19 := gl_M_immediate bi d a b f (ushr bi 12) (sReg d (sName (q_M_others_24 bi d a b f (bi &&& 127)) st))
      refine lv_goto (tgt := 216) hx hb d_M_others_58 (by decide) ?_
      exact W.vret hx hb hr (fun t ht hW => ⟨⟨(), rfl, trivial, mwd_at ht (mwd_eq (by rw [g_M_others, if_neg c_1, if_pos c_2]) hw)⟩, hS.F ht⟩) hS.2.2 d_M_others_216
theorem call_M_others {p : Program} {l : Launch} {e : Env} {R : Room} {s : State} {m : MethodId} {args : Array Value} {below : List Frame} {meth : Method} {c : Code} {H : Heap} {locs : List Loc} {cells slots : Nat} {Q : State → Prop} {cc : ByteArray} {pc nL idx : Nat} {ls : Array Slot} {rest : List Value} {Ts : List Cond} {own : String} {A0 : Nat → Prop} {H0 : Heap} {dC : Nat → ClassId} {dI : Nat → Nat → Nat} {cI cC : ClassId} {m0 mt ms mr mk : Nat} {th yb bi d a b f : Int32} {str fk : Nat → Int32} {st : MT}  (S : CallFix p m c cc nL s args Ts own) (hTs : ∀ w ∈ WT, w ∈ Ts) (hlk : Cond.methodLink own idx y_M_others ∈ WT) (hR : 5 + 1 ≤ R.frames ∧ 8 + (2 + 11) + 111 ≤ R.locals) (hsz : ls.size = nL) (hrm : (rest.map fun v => v.category).sum ≤ 8) (hdg : decode cc pc = .ok (.invokevirtual idx, 3)) (hc : cells ≤ R.cells ∧ slots ≤ R.slots) (hK : rK dC dI cI cC s) (ap : apM m0 mt ms mr mk) (ok : mOk d a b) (hS : va_S A0 H0 H locs) (hA : ∀ q, aM m0 mt ms mr mk q → A0 q) (hw : mwd dC dI cI cC m0 mt ms mr mk th yb bi d a b f str fk st H) (hlen : st.2.2.length + 41 ≤ 64) (kk : ∀ (H1 : Heap) (locs1 : List Loc), mwd dC dI cI cC m0 mt ms mr mk th yb bi d a b f str fk (g_M_others bi d a b f  st) H1 → va_S A0 H0 H1 locs1 → (H.size ≤ H1.size ∧ ∀ q : Nat, q < H.size → ¬ aM m0 mt ms mr mk q → H1[q]? = H[q]?) → W p l e R s m args below meth c H1 locs1 cells slots Q (F0 m (pc + 3) ls (rest))) : W p l e R s m args below meth c H locs cells slots Q (F0 m pc ls (.ref m0 :: rest)) :=
  va_callv (va_runV (As := []) (rest := rest) S (c_M_others l dC dI cI cC m0 mt ms mr mk th yb bi d a b f str fk st ) (cwV 0 S.2.2.2.2 (gV hTs hlk m_959 m_38 m_52 m_960) rfl rfl rfl (by decide +kernel) hR) ⟨fun a U g mk q => ⟨q.1, ⟨q.2.1.blind, q.2.2⟩⟩, mwd.recv hK hw, fun U hU hW => ⟨rfl, ⟨mU.at hK ap ok hw hU hW, hlen⟩⟩⟩ rfl rfl hsz rfl (lv_room hrm) hdg hc) hS (fun q _ h => hA q h) hA (fun u t H1 locs1 ht hvm hp hB hz hk hS1 => kk H1 locs1 (by rw [← ht]; exact hB) hS1 ⟨hz, hk⟩)
