def NF : List Cond := flatC (Jvm.Cond.and given_1 narrow_1)
def pE : List Nat := [29, 30, 31, 32, 33, 0, 64, 65, 66, 67, 20, 26, 21, 22, 23, 27, 28, 24, 25, 39, 35, 36, 37, 50, 49, 47, 48, 51, 53, 52, 54, 55, 56, 57, 2, 4, 5, 6, 7, 8, 10, 11, 12, 13, 14, 15, 16, 17, 18, 19, 3, 9, 38, 40, 41, 42, 43, 44, 45, 34, 46, 58, 59, 60, 61, 62, 63, 68, 1, 69, 70, 71, 72, 73, 75, 76, 77, 80, 78, 79, 81, 82, 83, 84, 74, 85, 86, 87, 88, 93, 92, 91, 90, 89, 94]
def ixY : List Nat := [139, 310, 218, 256, 220, 222, 224, 226, 228, 258, 230, 232, 237, 239, 241, 243, 245, 247, 249, 251, 155, 159, 161, 163, 172, 174, 157, 168, 170, 129, 131, 133, 135, 137, 277, 181, 183, 185, 260, 176, 265, 267, 269, 271, 273, 275, 279, 194, 196, 192, 190, 198, 202, 200, 204, 206, 208, 210, 284, 286, 288, 290, 292, 294, 144, 146, 148, 150, 308, 312, 314, 319, 321, 323, 366, 325, 339, 341, 351, 353, 346, 358, 360, 362, 364, 368, 370, 375, 377, 396, 394, 389, 387, 385, 398]
def iyS : List Nat := [463, 464, 465, 481, 482, 483, 484, 485, 486, 487, 488, 489, 490, 491, 492, 493, 494, 495, 496, 497, 498, 499, 500, 501, 502, 503, 504, 505, 506, 507, 508, 509, 510, 511, 512, 631, 674, 723, 1076, 1077, 1078, 1079, 1080, 1081, 1082, 1083, 1084, 1085, 1086, 1087, 1088, 1089, 1090, 1091, 1092, 1093, 1094, 1095, 1096, 1097, 1098, 1099, 1100, 1101, 1102, 1103, 1104, 1105, 1106, 1107, 1108, 1109, 1110, 1111, 1112, 1113, 1114, 1115, 1116, 1117, 1118, 1119, 1120, 1121, 1122, 1123, 1124, 1125, 1126, 1127, 1128, 1129, 1130, 1131, 1132, 1133, 1134, 1135, 1136, 1137, 1138, 1139, 1140, 1141, 1142, 1143, 1144, 1145, 1146, 1147, 1148, 1149, 1150, 1151, 1152, 1153, 1154, 1155, 1156, 1157, 1158, 1159, 1160, 1161, 1162, 1163, 1164, 1165, 1166, 1167, 1168, 1169, 1170, 1171, 1172, 1173, 1174, 1175, 1176, 1177, 1178, 1179, 1180, 1181, 1182, 1183, 1184, 1185, 1186, 1187, 1188, 1189, 1190, 1191, 1192, 1193, 1194, 1195, 1196]
def tE (i : Nat) : Term := .static R_K (kNm.getD i "") dK
def tS (k : Nat) : Term := .string (sOwn.getD k ("", 0, "")).1 (sOwn.getD k ("", 0, "")).2.1
def bE (i : Nat) : List Cond := [.exactly (tE i) R_K, .eq (.field (tE i) "java/lang/Enum" "ordinal" "I") (.int (Int32.ofNat i)), .eq (.field (tE i) R_K "word" dS) (tS (kW.getD i 0)), .eq (.field (tE i) R_K "operands" dS) (tS (kO.getD i 0)), .eq (.field (tE i) R_K "ordered" "Z") (.int (kOrd.getD i 0))]
def bS (k : Nat) : List Cond := [.exactly (tS k) R_JS, .eq (.field (tS k) R_JS "coder" "B") (.int 0), .arrayOf (.field (tS k) R_JS "value" "[B") .byte, .eq (.length (.field (tS k) R_JS "value" "[B")) (.int (Int32.ofNat (sTx k).length))] ++ (List.range (sTx k).length).map (fun j => .eq (.elem (.field (tS k) R_JS "value" "[B") (.int (Int32.ofNat j))) (.int ((sTx k).getD j 0)))
set_option maxRecDepth 100000 in
theorem nfE : (NF.drop 4).take 475 = pE.flatMap bE := by decide +kernel
set_option maxRecDepth 100000 in
theorem nfS : NF.drop 496 = (List.range 159).flatMap bS := by decide +kernel
theorem pE_all : ∀ i, i < 95 → i ∈ pE := by decide +kernel
theorem gE (i : Nat) (hi : i < 95) : ∀ w ∈ bE i, w ∈ NF := fun w hw => List.mem_of_mem_drop (List.mem_of_mem_take (by rw [nfE]; exact List.mem_flatMap.mpr ⟨i, pE_all i hi, hw⟩))
theorem gS' (k : Nat) (hk : k < 159) : ∀ w ∈ bS k, w ∈ NF := fun w hw => List.mem_of_mem_drop (by rw [nfS]; exact List.mem_flatMap.mpr ⟨k, List.mem_range.mpr hk, hw⟩)
theorem gvE (i : Nat) (hi : i < 95) : (Cond.exactly (tE i) R_K) ∈ NF := gE i hi _ (List.mem_of_getElem? (i := 0) rfl)
theorem gvO (i : Nat) (hi : i < 95) : (Cond.eq (.field (tE i) "java/lang/Enum" "ordinal" "I") (.int (Int32.ofNat i))) ∈ NF := gE i hi _ (List.mem_of_getElem? (i := 1) rfl)
theorem gvW (i : Nat) (hi : i < 95) : (Cond.eq (.field (tE i) R_K "word" dS) (tS (kW.getD i 0))) ∈ NF := gE i hi _ (List.mem_of_getElem? (i := 2) rfl)
theorem gvP (i : Nat) (hi : i < 95) : (Cond.eq (.field (tE i) R_K "operands" dS) (tS (kO.getD i 0))) ∈ NF := gE i hi _ (List.mem_of_getElem? (i := 3) rfl)
theorem gvD (i : Nat) (hi : i < 95) : (Cond.eq (.field (tE i) R_K "ordered" "Z") (.int (kOrd.getD i 0))) ∈ NF := gE i hi _ (List.mem_of_getElem? (i := 4) rfl)
set_option maxRecDepth 100000 in
theorem gvY : ∀ i, i < 95 → lw_tbl[ixY.getD i 0]? = some (.laysStatic R_K (kNm.getD i "") dK) := by decide +kernel
set_option maxRecDepth 100000 in
theorem gsS : ∀ k, k < 159 → lw_tbl[iyS.getD k 0]? = some (.stringRef (sOwn.getD k ("", 0, "")).1 (sOwn.getD k ("", 0, "")).2.1 (sOwn.getD k ("", 0, "")).2.2) := by decide +kernel
theorem gsE (k : Nat) (hk : k < 159) : (Cond.exactly (tS k) R_JS) ∈ NF := gS' k hk _ (List.mem_of_getElem? (i := 0) rfl)
theorem gsC (k : Nat) (hk : k < 159) : (Cond.eq (.field (tS k) R_JS "coder" "B") (.int 0)) ∈ NF := gS' k hk _ (List.mem_of_getElem? (i := 1) rfl)
theorem gsA (k : Nat) (hk : k < 159) : (Cond.arrayOf (.field (tS k) R_JS "value" "[B") .byte) ∈ NF := gS' k hk _ (List.mem_of_getElem? (i := 2) rfl)
theorem gsL (k : Nat) (hk : k < 159) : (Cond.eq (.length (.field (tS k) R_JS "value" "[B")) (.int (Int32.ofNat (sTx k).length))) ∈ NF := gS' k hk _ (List.mem_of_getElem? (i := 3) rfl)
theorem gsB (k : Nat) (hk : k < 159) (j : Nat) (hj : j < (sTx k).length) : (Cond.eq (.elem (.field (tS k) R_JS "value" "[B") (.int (Int32.ofNat j))) (.int ((sTx k).getD j 0))) ∈ NF := gS' k hk _ (List.mem_append_right _ (List.mem_map.mpr ⟨j, List.mem_range.mpr hj, rfl⟩))
theorem eq_of_ref {args : Array Value} {s : State} {t u : Term} {a : Nat} (h : (Cond.eq t u).before args s = true) (hu : u.eval args s none [] s = some (.ref a)) : t.eval args s none [] s = some (.ref a) := by
  cases ht : t.eval args s none [] s with
  | none => simp [Cond.before, Cond.holds, Cond.value, ht] at h
  | some w =>
    simp only [Cond.before, Cond.holds, Cond.value, ht, hu] at h
    cases w <;> simp_all
theorem not_cast {args a : Array Value} {s V : State} {X Y : String} (hal : s.vm.Alike V.vm) (h : (Cond.not (.castable X Y)).before args s = true) : (Cond.not (.castable X Y)).before a V = true := by
  simp only [Cond.before, Cond.holds, Cond.value, hal.findClass, hal.assignable] at h ⊢
  exact h
theorem cast_al {args a : Array Value} {s V : State} {X Y : String} (hal : s.vm.Alike V.vm) (h : (Cond.castable X Y).before args s = true) : (Cond.castable X Y).before a V = true := by
  simp only [Cond.before, Cond.holds, Cond.value, hal.findClass, hal.assignable] at h ⊢
  exact h
theorem decl_al {args a : Array Value} {s V : State} {x : MethodName} (hal : s.vm.Alike V.vm) (h : (Cond.declares x).before args s = true) : (Cond.declares x).before a V = true :=
  va_tabs (u := s.setVm V.vm) rfl rfl (by rw [Cond.declares_setVm hal]; exact h)
theorem txt_start {args : Array Value} {s : State} {A : Nat → Prop} (hs : ∀ w ∈ NF, w.before args s = true) (hA : ∀ a : Nat, a < s.heap.size → ¬ A a) : ∃ adK adV : Nat → Nat, cxS adK adV A s s.heap ∧ ∀ k, k < 159 → (tS k).eval args s none [] s = some (.ref (adK k)) := by
  have h0 : ∀ k : Nat, ∃ q : Nat × Nat, k < 159 → (tS k).eval args s none [] s = some (.ref q.1) ∧ va_O R_JS q.1 A s s.heap ∧ va_OF R_JS "coder" "B" (.int 0) q.1 A s s.heap ∧ va_OF R_JS "value" "[B" (.ref q.2) q.1 A s s.heap ∧ va_T .byte q.2 (sTx k).length (fun j => .int ((sTx k).getD j 0)) A s s.heap := by
    intro k
    by_cases hk : k < 159
    · have hl40 := sTx_lt k hk
      obtain ⟨a, c, cA, kA, q1, q2, q3, q4, q5, q6, -⟩ := Cond.exactly_spec (args := args) (first := s) (o := none) (s := s) (idx := []) (t := tS k) (cls := R_JS) (hs _ (gsE k hk))
      obtain ⟨t, ht, hT⟩ := va_Tof (f := fun j => .int ((sTx k).getD j 0)) (A := A) (N := (sTx k).length) (by omega) (hs _ (gsA k hk)) (va_eqt (hs _ (gsL k hk))) (fun j hj => va_eqt (hs _ (gsB k hk j hj))) hA
      exact ⟨(a, t), fun _ => ⟨q1, ⟨cA, q3, q5, by rw [q6]; exact q2, hA a (Array.getElem?_eq_some_iff.mp q3).1⟩, vk_OFof q1 (va_eqt (hs _ (gsC k hk))) hA, vk_OFof q1 ht hA, hT⟩⟩
    · exact ⟨(0, 0), fun h => absurd h hk⟩
  obtain ⟨ad, had⟩ := Classical.axiomOfChoice h0
  exact ⟨fun i => (ad i).1, fun i => (ad i).2, fun i hi => (had i hi).2, fun i hi => (had i hi).1⟩
theorem cx_start {args : Array Value} {s : State} {A : Nat → Prop} (hts : ∀ w ∈ lw_tbl, w.before args s = true) (hs : ∀ w ∈ NF, w.before args s = true) (hA : ∀ a : Nat, a < s.heap.size → ¬ A a) : ∃ adE adK adV : Nat → Nat, cx adE adK adV A s s.heap := by
  obtain ⟨adK, adV, hS, hev⟩ := txt_start hs hA
  have h0 : ∀ i : Nat, ∃ q : Nat, i < 95 → (tE i).eval args s none [] s = some (.ref q) ∧ va_O R_K q A s s.heap := by
    intro i
    by_cases hi : i < 95
    · obtain ⟨a, c, cA, kA, q1, q2, q3, q4, q5, q6, -⟩ := Cond.exactly_spec (args := args) (first := s) (o := none) (s := s) (idx := []) (t := tE i) (cls := R_K) (hs _ (gvE i hi))
      exact ⟨a, fun _ => ⟨q1, cA, q3, q5, by rw [q6]; exact q2, hA a (Array.getElem?_eq_some_iff.mp q3).1⟩⟩
    · exact ⟨0, fun h => absurd h hi⟩
  obtain ⟨adE, had⟩ := Classical.axiomOfChoice h0
  have hini : (Cond.initialized R_K).before args s = true := (hts _ (List.mem_of_getElem? (i := 55) (by decide +kernel)))
  refine ⟨adE, adK, adV, fun i hi => ?_, hS, fun k hk => vk_R.of (hts _ (List.mem_of_getElem? (gsS k hk))) (hev k hk), fun i j hi hj he => ?_, ?_, ?_⟩
  · have hw := kWO_lt i hi
    exact ⟨va_Zof (hts _ (List.mem_of_getElem? (gvY i hi))) hini (had i hi).1 hA, (had i hi).2, vk_OFof (had i hi).1 (va_eqt (hs _ (gvD i hi))) hA, vk_OFof (had i hi).1 (eq_of_ref (hs _ (gvW i hi)) (hev _ hw.1)) hA, vk_OFof (had i hi).1 (eq_of_ref (hs _ (gvP i hi)) (hev _ hw.2)) hA⟩
  · have h1 := va_eqt (hs _ (gvO i hi))
    have h2 := va_eqt (hs _ (gvO j hj))
    rw [va_fe (had i hi).1] at h1
    rw [va_fe (had j hj).1, ← he, h1] at h2
    have h3 : nI i = nI j := Value.int.inj (Option.some.inj h2)
    exact (nI_eq (by omega) (by omega)).mp h3
  · exact va_Zof (hts _ (List.mem_of_getElem? (i := 416) (by decide +kernel))) (hts _ (List.mem_of_getElem? (i := 58) (by decide +kernel))) (va_eqt (hs _ (List.mem_of_getElem? (i := 479) (by decide +kernel)))) hA
  · exact va_Zqof (hts _ (List.mem_of_getElem? (i := 432) (by decide +kernel))) (hts _ (List.mem_of_getElem? (i := 60) (by decide +kernel))) (hs _ (List.mem_of_getElem? (i := 480) (by decide +kernel))) hA
theorem st_al {args : Array Value} {s : State} {O f d : String} {q : Nat} {cell : Cell} {c i : Nat} {k : Class} {fd : Field} (hf : s.fieldFound? O f d = some (c, k, i, fd)) (hc : s.vm.findClass O = some c) (hst : fd.isStatic = true) (hk : k.statics = some q) (hcell : s.heap[q]? = some cell) (hiss : cell.vm.isStatics = true) (hcls : cell.cls = c) (hlt : fd.slot < cell.slots.size) (hty : k.staticTypes[fd.slot]? = some fd.type) (hr : (Cond.isRef (.static O f d)).before args s = true)
    (V : State) (a : Array Value) (hal : s.vm.Alike V.vm) (hV : V.heap[q]? = some cell) : (Cond.laysStatic O f d).before a V = true ∧ (Cond.isRef (.static O f d)).before a V = true := by
  obtain ⟨k', hf', hek⟩ := State.fieldFound?_setVm hal hf
  have hf2 : V.fieldFound? O f d = some (c, k', i, fd) := hf'
  have hk' : k'.statics = some q := by rw [hek]; exact hk
  refine ⟨Cond.laysStatic_of (by rw [hal.findClass]; exact hc) hf2 hst hk' hV hiss hcls hlt (by rw [hek]; exact hty), ?_⟩
  obtain ⟨u, hu⟩ := Cond.staticRefV hf hst hk hcell hiss hr
  have he : (Term.static O f d).eval a V none [] V = some u.v := by
    simp [Term.eval, State.fieldNamed?, hf2, hst, hk', hV, hiss, hu]
  simp only [Cond.before, Cond.holds, Cond.value, he]
  obtain ⟨v, hv⟩ := u
  cases v <;> first | rfl | (simp [Value.isRef] at hv)
theorem xS_start {args : Array Value} {s : State} {A : Nat → Prop} (hts : ∀ w ∈ lw_tbl, w.before args s = true) (hs : ∀ w ∈ NF, w.before args s = true) (hA : ∀ a : Nat, a < s.heap.size → ¬ A a) : xS A s s.heap := by
  have t1 : (Cond.declares ⟨"java/lang/RuntimeException", "<init>", "(Ljava/lang/String;)V"⟩).before args s = true := (hts _ (List.mem_of_getElem? (i := 595) (by decide +kernel)))
  have t2 : (Cond.declares ⟨"java/lang/Exception", "<init>", "(Ljava/lang/String;)V"⟩).before args s = true := (hts _ (List.mem_of_getElem? (i := 597) (by decide +kernel)))
  have t3 : (Cond.declares ⟨xTn, "<init>", "(Ljava/lang/String;)V"⟩).before args s = true := (hts _ (List.mem_of_getElem? (i := 599) (by decide +kernel)))
  have t4 : (Cond.castable xI xI).before args s = true := (hts _ (List.mem_of_getElem? (i := 593) (by decide +kernel)))
  have t5 : (Cond.castable xA xA).before args s = true := (hts _ (List.mem_of_getElem? (i := 716) (by decide +kernel)))
  have t6 : (Cond.not (.castable xA xI)).before args s = true := (hs _ (List.mem_of_getElem? (i := 490) (by decide +kernel)))
  have l1 : (Cond.laysStatic xTn "UNASSIGNED_STACK" "[Ljava/lang/StackTraceElement;").before args s = true := (hts _ (List.mem_of_getElem? (i := 618) (by decide +kernel)))
  have l2 : (Cond.laysStatic xTn "SUPPRESSED_SENTINEL" "Ljava/util/List;").before args s = true := (hts _ (List.mem_of_getElem? (i := 620) (by decide +kernel)))
  have r1 : (Cond.isRef (.static xTn "UNASSIGNED_STACK" "[Ljava/lang/StackTraceElement;")).before args s = true := (hs _ (List.mem_of_getElem? (i := 484) (by decide +kernel)))
  have r2 : (Cond.isRef (.static xTn "SUPPRESSED_SENTINEL" "Ljava/util/List;")).before args s = true := (hs _ (List.mem_of_getElem? (i := 485) (by decide +kernel)))
  obtain ⟨c, k, i, f, q, cell, a1, a2, a3, a4, a5, a6, a7, a8, a9⟩ := Cond.laysStatic_spec l1
  obtain ⟨c', k2, i2, f2, q2, cell2, b1, b2, b3, b4, b5, b6, b7, b8, b9⟩ := Cond.laysStatic_spec l2
  cases a1.symm.trans b1
  cases (State.fieldFound?_spec a2).1.symm.trans (State.fieldFound?_spec b2).1
  cases a4.symm.trans b4
  cases a5.symm.trans b5
  refine ⟨fun V a hal w hw => ?_, q, cell, a5, hA q (Array.getElem?_eq_some_iff.mp a5).1, fun V a hal hV w hw => ?_⟩
  · simp only [xT, List.mem_cons, List.not_mem_nil, or_false] at hw
    rcases hw with rfl | rfl | rfl | rfl | rfl | rfl
    · exact decl_al hal t1
    · exact decl_al hal t2
    · exact decl_al hal t3
    · exact cast_al hal t4
    · exact cast_al hal t5
    · exact not_cast hal t6
  · have g1 := st_al a2 a1 a3 a4 a5 a6 a7 a8 a9 r1 V a hal hV
    have g2 := st_al b2 a1 b3 a4 a5 a6 a7 b8 b9 r2 V a hal hV
    simp only [xH, List.mem_cons, List.not_mem_nil, or_false] at hw
    rcases hw with rfl | rfl | rfl | rfl
    · exact g1.1
    · exact g2.1
    · exact g1.2
    · exact g2.2
