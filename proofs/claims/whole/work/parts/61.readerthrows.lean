set_option maxRecDepth 100000 in
set_option maxHeartbeats 4000000 in
theorem k_R_demandAddress (l : Launch) (hfl : l.flags = pinnedFlags ++ [noTraceFlag]) (adE adK adV : Nat → Nat) (x0 : Int32) : xMet l y_R_demandAddress (Cond.code y_R_demandAddress b_R_demandAddress 1 none :: WT) ({ frames := 6, cells := 1, slots := 6, locals := 100 }) (va_Pc [.int x0] (fun U => cx adE adK adV no U U.heap ∧ xS no U U.heap ∧ f_R_isAddress x0 = 0)) xI := by
  refine xMet.ofW (cc := b_R_demandAddress) (maxL := 1) (ret := none) (by decide +kernel) rfl ?_
  intro p e s m args below meth c s₁ B hml hv had
  obtain ⟨rfl, hC, hX, ha⟩ := hv
  have hx := B.exec
  have hb := B.bytes
  have hr := B.returns
  have hts := atoms_spec (ws := (Cond.code y_R_demandAddress b_R_demandAddress 1 none :: WT)) B.pre
  have hT : ∀ w ∈ WT, w.before _ s = true := fun w h => hts w (inC w h)
  have hown : s.vm.findClass R_R = some m.cls := findClass_of_methodNamed B.named
  have hlocks := B.notSynchronized
  have hS : va_S no s.heap s.heap [] := va_S.rf
  have S : CallFix p m c b_R_demandAddress 1 s _ (Cond.code y_R_demandAddress b_R_demandAddress 1 none :: WT) R_R := ⟨hx, hb, hml, hown, hts⟩
  have hl := lv_entry ([.int x0]) (n := 1) (Nat.le_of_ble_eq_true rfl)
  rw [lg_entry_eq]
  generalize (lg_sl ([.int x0]) ++ List.replicate (1 - (lg_sl ([.int x0])).length) Slot.unset).toArray = ls at hl ⊢
  have hl : lv_has ls 1 [(0, .int x0)] := hl
  have htr := Launch.traces_off hfl had
  have hemp := B.noHandlers (hts _ List.mem_cons_self)
  refine lv_iload_n hx hb d_R_demandAddress_0 rfl (lv_at hl 0 rfl) ?_
  refine call_R_isAddress S inC m_671 ⟨(Nat.le_of_ble_eq_true rfl), (Nat.le_of_ble_eq_true rfl)⟩ hl.1 (Nat.le_of_ble_eq_true rfl) d_R_demandAddress_1 ⟨(Nat.le_of_ble_eq_true rfl), (Nat.le_of_ble_eq_true rfl)⟩ ?_
  refine lv_if_ne (tgt := 17) hx hb d_R_demandAddress_4 (by decide) (fun h => absurd ha h) (fun _ => ?_)
  exact x_throw S hT hX htr hlocks (fun x hx => covers_of_empty hemp _ x hx) (by decide +kernel) xOwn_I m_591 m_592 m_66 (hC.2.2.1 36 (by decide)) hl.1 ⟨(Nat.le_of_ble_eq_true rfl), (Nat.le_of_ble_eq_true rfl), (Nat.le_of_ble_eq_true rfl), (Nat.le_of_ble_eq_true rfl)⟩ d_R_demandAddress_7 d_R_demandAddress_10 d_R_demandAddress_11 d_R_demandAddress_13 d_R_demandAddress_16

set_option maxRecDepth 100000 in
set_option maxHeartbeats 4000000 in
theorem k_R_poke (l : Launch) (hfl : l.flags = pinnedFlags ++ [noTraceFlag]) (adE adK adV : Nat → Nat) (r0 : Nat) (x y : Int32) : xMet l y_R_poke (Cond.code y_R_poke b_R_poke 3 none :: WT) ({ frames := 7, cells := 1, slots := 6, locals := 120 }) (va_Pc [.ref r0, .int x, .int y] (fun U => cx adE adK adV no U U.heap ∧ xS no U U.heap ∧ f_R_isAddress x = 0)) xI := by
  refine xMet.ofW (cc := b_R_poke) (maxL := 3) (ret := none) (by decide +kernel) rfl ?_
  intro p e s m args below meth c s₁ B hml hv had
  obtain ⟨rfl, hC, hX, ha⟩ := hv
  have hx := B.exec
  have hb := B.bytes
  have hr := B.returns
  have hts := atoms_spec (ws := (Cond.code y_R_poke b_R_poke 3 none :: WT)) B.pre
  have hT : ∀ w ∈ WT, w.before _ s = true := fun w h => hts w (inC w h)
  have hown : s.vm.findClass R_R = some m.cls := findClass_of_methodNamed B.named
  have hlocks := B.notSynchronized
  have hS : va_S no s.heap s.heap [] := va_S.rf
  have S : CallFix p m c b_R_poke 3 s _ (Cond.code y_R_poke b_R_poke 3 none :: WT) R_R := ⟨hx, hb, hml, hown, hts⟩
  have hl := lv_entry ([.ref r0, .int x, .int y]) (n := 3) (Nat.le_of_ble_eq_true rfl)
  rw [lg_entry_eq]
  generalize (lg_sl ([.ref r0, .int x, .int y]) ++ List.replicate (3 - (lg_sl ([.ref r0, .int x, .int y])).length) Slot.unset).toArray = ls at hl ⊢
  have hl : lv_has ls 3 [(0, .ref r0), (1, .int x), (2, .int y)] := hl
  have htr := Launch.traces_off hfl had
  have hemp := B.noHandlers (hts _ List.mem_cons_self)
  refine lv_iload_n hx hb d_R_poke_0 rfl (lv_at hl 1 rfl) ?_
  exact x_pass (x_runS (As := [.int x]) (rest := []) S (k_R_demandAddress l hfl adE adK adV x) (va_cwS 1 hts (gS inC m_668 m_669 m_50 m_670) rfl rfl rfl (by decide +kernel) ⟨(Nat.le_of_ble_eq_true rfl), (Nat.le_of_ble_eq_true rfl)⟩) ⟨fun a U g mk q => ⟨q.1, q.2.1.blind, q.2.2.1.blind, q.2.2.2⟩, fun U hU hW => ⟨rfl, hC.at hS no_in hU hW, hX.at hS no_in hU hW, ha⟩⟩ rfl rfl hl.1 rfl (lv_room (Nat.le_of_ble_eq_true rfl)) d_R_poke_1 ⟨(Nat.le_of_ble_eq_true rfl), (Nat.le_of_ble_eq_true rfl)⟩) rfl rfl rfl (fun x hx => covers_of_empty hemp _ x hx) hlocks

set_option maxRecDepth 100000 in
set_option maxHeartbeats 4000000 in
theorem k_R_at (l : Launch) (hfl : l.flags = pinnedFlags ++ [noTraceFlag]) (adE adK adV : Nat → Nat) (r0 : Nat) (x : Int32) : xMet l y_R_at (Cond.code y_R_at b_R_at 2 (some .int) :: WT) ({ frames := 7, cells := 1, slots := 6, locals := 120 }) (va_Pc [.ref r0, .int x] (fun U => cx adE adK adV no U U.heap ∧ xS no U U.heap ∧ f_R_isAddress x = 0)) xI := by
  refine xMet.ofW (cc := b_R_at) (maxL := 2) (ret := (some .int)) (by decide +kernel) rfl ?_
  intro p e s m args below meth c s₁ B hml hv had
  obtain ⟨rfl, hC, hX, ha⟩ := hv
  have hx := B.exec
  have hb := B.bytes
  have hr := B.returns
  have hts := atoms_spec (ws := (Cond.code y_R_at b_R_at 2 (some .int) :: WT)) B.pre
  have hT : ∀ w ∈ WT, w.before _ s = true := fun w h => hts w (inC w h)
  have hown : s.vm.findClass R_R = some m.cls := findClass_of_methodNamed B.named
  have hlocks := B.notSynchronized
  have hS : va_S no s.heap s.heap [] := va_S.rf
  have S : CallFix p m c b_R_at 2 s _ (Cond.code y_R_at b_R_at 2 (some .int) :: WT) R_R := ⟨hx, hb, hml, hown, hts⟩
  have hl := lv_entry ([.ref r0, .int x]) (n := 2) (Nat.le_of_ble_eq_true rfl)
  rw [lg_entry_eq]
  generalize (lg_sl ([.ref r0, .int x]) ++ List.replicate (2 - (lg_sl ([.ref r0, .int x])).length) Slot.unset).toArray = ls at hl ⊢
  have hl : lv_has ls 2 [(0, .ref r0), (1, .int x)] := hl
  have htr := Launch.traces_off hfl had
  have hemp := B.noHandlers (hts _ List.mem_cons_self)
  refine lv_iload_n hx hb d_R_at_0 rfl (lv_at hl 1 rfl) ?_
  exact x_pass (x_runS (As := [.int x]) (rest := []) S (k_R_demandAddress l hfl adE adK adV x) (va_cwS 1 hts (gS inC m_668 m_669 m_50 m_670) rfl rfl rfl (by decide +kernel) ⟨(Nat.le_of_ble_eq_true rfl), (Nat.le_of_ble_eq_true rfl)⟩) ⟨fun a U g mk q => ⟨q.1, q.2.1.blind, q.2.2.1.blind, q.2.2.2⟩, fun U hU hW => ⟨rfl, hC.at hS no_in hU hW, hX.at hS no_in hU hW, ha⟩⟩ rfl rfl hl.1 rfl (lv_room (Nat.le_of_ble_eq_true rfl)) d_R_at_1 ⟨(Nat.le_of_ble_eq_true rfl), (Nat.le_of_ble_eq_true rfl)⟩) rfl rfl rfl (fun x hx => covers_of_empty hemp _ x hx) hlocks

set_option maxRecDepth 100000 in
set_option maxHeartbeats 4000000 in
theorem k_R_numbers (l : Launch) (hfl : l.flags = pinnedFlags ++ [noTraceFlag]) (adE adK adV : Nat → Nat) (r0 : Nat) (x : Int32) : xMet l y_R_numbers (Cond.code y_R_numbers b_R_numbers 4 (some .int) :: WT) ({ frames := 7, cells := 1, slots := 6, locals := 120 }) (va_Pc [.ref r0, .int x] (fun U => cx adE adK adV no U U.heap ∧ xS no U U.heap ∧ f_R_isAddress x = 0)) xI := by
  refine xMet.ofW (cc := b_R_numbers) (maxL := 4) (ret := (some .int)) (by decide +kernel) rfl ?_
  intro p e s m args below meth c s₁ B hml hv had
  obtain ⟨rfl, hC, hX, ha⟩ := hv
  have hx := B.exec
  have hb := B.bytes
  have hr := B.returns
  have hts := atoms_spec (ws := (Cond.code y_R_numbers b_R_numbers 4 (some .int) :: WT)) B.pre
  have hT : ∀ w ∈ WT, w.before _ s = true := fun w h => hts w (inC w h)
  have hown : s.vm.findClass R_R = some m.cls := findClass_of_methodNamed B.named
  have hlocks := B.notSynchronized
  have hS : va_S no s.heap s.heap [] := va_S.rf
  have S : CallFix p m c b_R_numbers 4 s _ (Cond.code y_R_numbers b_R_numbers 4 (some .int) :: WT) R_R := ⟨hx, hb, hml, hown, hts⟩
  have hl := lv_entry ([.ref r0, .int x]) (n := 4) (Nat.le_of_ble_eq_true rfl)
  rw [lg_entry_eq]
  generalize (lg_sl ([.ref r0, .int x]) ++ List.replicate (4 - (lg_sl ([.ref r0, .int x])).length) Slot.unset).toArray = ls at hl ⊢
  have hl : lv_has ls 4 [(0, .ref r0), (1, .int x)] := hl
  have htr := Launch.traces_off hfl had
  have hemp := B.noHandlers (hts _ List.mem_cons_self)
  refine lv_iload_n hx hb d_R_numbers_0 rfl (lv_at hl 1 rfl) ?_
  exact x_pass (x_runS (As := [.int x]) (rest := []) S (k_R_demandAddress l hfl adE adK adV x) (va_cwS 1 hts (gS inC m_668 m_669 m_50 m_670) rfl rfl rfl (by decide +kernel) ⟨(Nat.le_of_ble_eq_true rfl), (Nat.le_of_ble_eq_true rfl)⟩) ⟨fun a U g mk q => ⟨q.1, q.2.1.blind, q.2.2.1.blind, q.2.2.2⟩, fun U hU hW => ⟨rfl, hC.at hS no_in hU hW, hX.at hS no_in hU hW, ha⟩⟩ rfl rfl hl.1 rfl (lv_room (Nat.le_of_ble_eq_true rfl)) d_R_numbers_1 ⟨(Nat.le_of_ble_eq_true rfl), (Nat.le_of_ble_eq_true rfl)⟩) rfl rfl rfl (fun x hx => covers_of_empty hemp _ x hx) hlocks

set_option maxRecDepth 100000 in
set_option maxHeartbeats 4000000 in
theorem k_R_next (l : Launch) (hfl : l.flags = pinnedFlags ++ [noTraceFlag]) (adE adK adV : Nat → Nat) (r0 : Nat) (x y : Int32) : xMet l y_R_next (Cond.code y_R_next b_R_next 5 (some .int) :: WT) ({ frames := 7, cells := 1, slots := 6, locals := 120 }) (va_Pc [.ref r0, .int x, .int y] (fun U => cx adE adK adV no U U.heap ∧ xS no U U.heap ∧ f_R_isAddress x = 0)) xI := by
  refine xMet.ofW (cc := b_R_next) (maxL := 5) (ret := (some .int)) (by decide +kernel) rfl ?_
  intro p e s m args below meth c s₁ B hml hv had
  obtain ⟨rfl, hC, hX, ha⟩ := hv
  have hx := B.exec
  have hb := B.bytes
  have hr := B.returns
  have hts := atoms_spec (ws := (Cond.code y_R_next b_R_next 5 (some .int) :: WT)) B.pre
  have hT : ∀ w ∈ WT, w.before _ s = true := fun w h => hts w (inC w h)
  have hown : s.vm.findClass R_R = some m.cls := findClass_of_methodNamed B.named
  have hlocks := B.notSynchronized
  have hS : va_S no s.heap s.heap [] := va_S.rf
  have S : CallFix p m c b_R_next 5 s _ (Cond.code y_R_next b_R_next 5 (some .int) :: WT) R_R := ⟨hx, hb, hml, hown, hts⟩
  have hl := lv_entry ([.ref r0, .int x, .int y]) (n := 5) (Nat.le_of_ble_eq_true rfl)
  rw [lg_entry_eq]
  generalize (lg_sl ([.ref r0, .int x, .int y]) ++ List.replicate (5 - (lg_sl ([.ref r0, .int x, .int y])).length) Slot.unset).toArray = ls at hl ⊢
  have hl : lv_has ls 5 [(0, .ref r0), (1, .int x), (2, .int y)] := hl
  have htr := Launch.traces_off hfl had
  have hemp := B.noHandlers (hts _ List.mem_cons_self)
  refine lv_iload_n hx hb d_R_next_0 rfl (lv_at hl 1 rfl) ?_
  exact x_pass (x_runS (As := [.int x]) (rest := []) S (k_R_demandAddress l hfl adE adK adV x) (va_cwS 1 hts (gS inC m_668 m_669 m_50 m_670) rfl rfl rfl (by decide +kernel) ⟨(Nat.le_of_ble_eq_true rfl), (Nat.le_of_ble_eq_true rfl)⟩) ⟨fun a U g mk q => ⟨q.1, q.2.1.blind, q.2.2.1.blind, q.2.2.2⟩, fun U hU hW => ⟨rfl, hC.at hS no_in hU hW, hX.at hS no_in hU hW, ha⟩⟩ rfl rfl hl.1 rfl (lv_room (Nat.le_of_ble_eq_true rfl)) d_R_next_1 ⟨(Nat.le_of_ble_eq_true rfl), (Nat.le_of_ble_eq_true rfl)⟩) rfl rfl rfl (fun x hx => covers_of_empty hemp _ x hx) hlocks

set_option maxRecDepth 100000 in
set_option maxHeartbeats 4000000 in
theorem k_R_before (l : Launch) (hfl : l.flags = pinnedFlags ++ [noTraceFlag]) (adE adK adV : Nat → Nat) (r0 : Nat) (x y : Int32) : xMet l y_R_before (Cond.code y_R_before b_R_before 5 (some .int) :: WT) ({ frames := 7, cells := 1, slots := 6, locals := 120 }) (va_Pc [.ref r0, .int x, .int y] (fun U => cx adE adK adV no U U.heap ∧ xS no U U.heap ∧ f_R_isAddress x = 0)) xI := by
  refine xMet.ofW (cc := b_R_before) (maxL := 5) (ret := (some .int)) (by decide +kernel) rfl ?_
  intro p e s m args below meth c s₁ B hml hv had
  obtain ⟨rfl, hC, hX, ha⟩ := hv
  have hx := B.exec
  have hb := B.bytes
  have hr := B.returns
  have hts := atoms_spec (ws := (Cond.code y_R_before b_R_before 5 (some .int) :: WT)) B.pre
  have hT : ∀ w ∈ WT, w.before _ s = true := fun w h => hts w (inC w h)
  have hown : s.vm.findClass R_R = some m.cls := findClass_of_methodNamed B.named
  have hlocks := B.notSynchronized
  have hS : va_S no s.heap s.heap [] := va_S.rf
  have S : CallFix p m c b_R_before 5 s _ (Cond.code y_R_before b_R_before 5 (some .int) :: WT) R_R := ⟨hx, hb, hml, hown, hts⟩
  have hl := lv_entry ([.ref r0, .int x, .int y]) (n := 5) (Nat.le_of_ble_eq_true rfl)
  rw [lg_entry_eq]
  generalize (lg_sl ([.ref r0, .int x, .int y]) ++ List.replicate (5 - (lg_sl ([.ref r0, .int x, .int y])).length) Slot.unset).toArray = ls at hl ⊢
  have hl : lv_has ls 5 [(0, .ref r0), (1, .int x), (2, .int y)] := hl
  have htr := Launch.traces_off hfl had
  have hemp := B.noHandlers (hts _ List.mem_cons_self)
  refine lv_iload_n hx hb d_R_before_0 rfl (lv_at hl 1 rfl) ?_
  exact x_pass (x_runS (As := [.int x]) (rest := []) S (k_R_demandAddress l hfl adE adK adV x) (va_cwS 1 hts (gS inC m_668 m_669 m_50 m_670) rfl rfl rfl (by decide +kernel) ⟨(Nat.le_of_ble_eq_true rfl), (Nat.le_of_ble_eq_true rfl)⟩) ⟨fun a U g mk q => ⟨q.1, q.2.1.blind, q.2.2.1.blind, q.2.2.2⟩, fun U hU hW => ⟨rfl, hC.at hS no_in hU hW, hX.at hS no_in hU hW, ha⟩⟩ rfl rfl hl.1 rfl (lv_room (Nat.le_of_ble_eq_true rfl)) d_R_before_1 ⟨(Nat.le_of_ble_eq_true rfl), (Nat.le_of_ble_eq_true rfl)⟩) rfl rfl rfl (fun x hx => covers_of_empty hemp _ x hx) hlocks

set_option maxRecDepth 100000 in
set_option maxHeartbeats 4000000 in
theorem k_R_before2 (l : Launch) (hfl : l.flags = pinnedFlags ++ [noTraceFlag]) (adE adK adV : Nat → Nat) (r0 : Nat) (x y : Int32) : xMet l y_R_before (Cond.code y_R_before b_R_before 5 (some .int) :: WT) ({ frames := 7, cells := 1, slots := 6, locals := 120 }) (va_Pc [.ref r0, .int x, .int y] (fun U => cx adE adK adV no U U.heap ∧ xS no U U.heap ∧ ¬ f_R_isAddress x = 0 ∧ f_R_isAddress y = 0)) xI := by
  refine xMet.ofW (cc := b_R_before) (maxL := 5) (ret := (some .int)) (by decide +kernel) rfl ?_
  intro p e s m args below meth c s₁ B hml hv had
  obtain ⟨rfl, hC, hX, ha1, ha⟩ := hv
  have hx := B.exec
  have hb := B.bytes
  have hr := B.returns
  have hts := atoms_spec (ws := (Cond.code y_R_before b_R_before 5 (some .int) :: WT)) B.pre
  have hT : ∀ w ∈ WT, w.before _ s = true := fun w h => hts w (inC w h)
  have hown : s.vm.findClass R_R = some m.cls := findClass_of_methodNamed B.named
  have hlocks := B.notSynchronized
  have hS : va_S no s.heap s.heap [] := va_S.rf
  have S : CallFix p m c b_R_before 5 s _ (Cond.code y_R_before b_R_before 5 (some .int) :: WT) R_R := ⟨hx, hb, hml, hown, hts⟩
  have hl := lv_entry ([.ref r0, .int x, .int y]) (n := 5) (Nat.le_of_ble_eq_true rfl)
  rw [lg_entry_eq]
  generalize (lg_sl ([.ref r0, .int x, .int y]) ++ List.replicate (5 - (lg_sl ([.ref r0, .int x, .int y])).length) Slot.unset).toArray = ls at hl ⊢
  have hl : lv_has ls 5 [(0, .ref r0), (1, .int x), (2, .int y)] := hl
  have htr := Launch.traces_off hfl had
  have hemp := B.noHandlers (hts _ List.mem_cons_self)
  refine lv_iload_n hx hb d_R_before_0 rfl (lv_at hl 1 rfl) ?_
  refine call_R_demandAddress S inC m_668 ⟨(Nat.le_of_ble_eq_true rfl), (Nat.le_of_ble_eq_true rfl)⟩ hl.1 (Nat.le_of_ble_eq_true rfl) d_R_before_1 ⟨(Nat.le_of_ble_eq_true rfl), (Nat.le_of_ble_eq_true rfl)⟩ ha1 ?_
  refine lv_iload_n hx hb d_R_before_4 rfl (lv_at hl 2 rfl) ?_
  exact x_pass (x_runS (As := [.int y]) (rest := []) S (k_R_demandAddress l hfl adE adK adV y) (va_cwS 1 hts (gS inC m_668 m_669 m_50 m_670) rfl rfl rfl (by decide +kernel) ⟨(Nat.le_of_ble_eq_true rfl), (Nat.le_of_ble_eq_true rfl)⟩) ⟨fun a U g mk q => ⟨q.1, q.2.1.blind, q.2.2.1.blind, q.2.2.2⟩, fun U hU hW => ⟨rfl, hC.at hS no_in hU hW, hX.at hS no_in hU hW, ha⟩⟩ rfl rfl hl.1 rfl (lv_room (Nat.le_of_ble_eq_true rfl)) d_R_before_5 ⟨(Nat.le_of_ble_eq_true rfl), (Nat.le_of_ble_eq_true rfl)⟩) rfl rfl rfl (fun x hx => covers_of_empty hemp _ x hx) hlocks

set_option maxRecDepth 100000 in
set_option maxHeartbeats 4000000 in
theorem k_R_next2 (l : Launch) (hfl : l.flags = pinnedFlags ++ [noTraceFlag]) (adE adK adV : Nat → Nat) (r0 : Nat) (x y : Int32) : xMet l y_R_next (Cond.code y_R_next b_R_next 5 (some .int) :: WT) ({ frames := 7, cells := 1, slots := 6, locals := 120 }) (va_Pc [.ref r0, .int x, .int y] (fun U => cx adE adK adV no U U.heap ∧ xS no U U.heap ∧ ¬ f_R_isAddress x = 0 ∧ y < 0)) xA := by
  refine xMet.ofW (cc := b_R_next) (maxL := 5) (ret := (some .int)) (by decide +kernel) rfl ?_
  intro p e s m args below meth c s₁ B hml hv had
  obtain ⟨rfl, hC, hX, ha1, ha⟩ := hv
  have hx := B.exec
  have hb := B.bytes
  have hr := B.returns
  have hts := atoms_spec (ws := (Cond.code y_R_next b_R_next 5 (some .int) :: WT)) B.pre
  have hT : ∀ w ∈ WT, w.before _ s = true := fun w h => hts w (inC w h)
  have hown : s.vm.findClass R_R = some m.cls := findClass_of_methodNamed B.named
  have hlocks := B.notSynchronized
  have hS : va_S no s.heap s.heap [] := va_S.rf
  have S : CallFix p m c b_R_next 5 s _ (Cond.code y_R_next b_R_next 5 (some .int) :: WT) R_R := ⟨hx, hb, hml, hown, hts⟩
  have hl := lv_entry ([.ref r0, .int x, .int y]) (n := 5) (Nat.le_of_ble_eq_true rfl)
  rw [lg_entry_eq]
  generalize (lg_sl ([.ref r0, .int x, .int y]) ++ List.replicate (5 - (lg_sl ([.ref r0, .int x, .int y])).length) Slot.unset).toArray = ls at hl ⊢
  have hl : lv_has ls 5 [(0, .ref r0), (1, .int x), (2, .int y)] := hl
  have htr := Launch.traces_off hfl had
  have hemp := B.noHandlers (hts _ List.mem_cons_self)
  refine lv_iload_n hx hb d_R_next_0 rfl (lv_at hl 1 rfl) ?_
  refine call_R_demandAddress S inC m_668 ⟨(Nat.le_of_ble_eq_true rfl), (Nat.le_of_ble_eq_true rfl)⟩ hl.1 (Nat.le_of_ble_eq_true rfl) d_R_next_1 ⟨(Nat.le_of_ble_eq_true rfl), (Nat.le_of_ble_eq_true rfl)⟩ ha1 ?_
  refine lv_iload_n hx hb d_R_next_4 rfl (lv_at hl 2 rfl) ?_
  refine lv_if_ge (tgt := 18) hx hb d_R_next_5 (by decide) (fun h => absurd ha (Int32.not_lt.mpr h)) (fun _ => ?_)
  exact x_throw S hT hX htr hlocks (fun x hx => covers_of_empty hemp _ x hx) (by decide +kernel) xOwn_A m_714 m_715 m_67 (hC.2.2.1 37 (by decide)) hl.1 ⟨(Nat.le_of_ble_eq_true rfl), (Nat.le_of_ble_eq_true rfl), (Nat.le_of_ble_eq_true rfl), (Nat.le_of_ble_eq_true rfl)⟩ d_R_next_8 d_R_next_11 d_R_next_12 d_R_next_14 d_R_next_17

set_option maxRecDepth 100000 in
set_option maxHeartbeats 4000000 in
theorem k_R_letter (l : Launch) (hfl : l.flags = pinnedFlags ++ [noTraceFlag]) (adE adK adV : Nat → Nat) (dC : Nat → ClassId) (dI : Nat → Nat → Nat) (cI cC : ClassId) (r0 r1 r2 r3 : Nat) (str : Nat → Int32) (tb ti tp : Int32) (v : List Int32) (x : Int32) : xMet l y_R_letter (Cond.code y_R_letter b_R_letter 2 (some .char) :: WT) ({ frames := 6, cells := 1, slots := 6, locals := 100 }) (va_Pc [.ref r0, .int x] (fun U => rK dC dI cI cC U ∧ rwd dC dI cI cC r0 r1 r2 r3 str tb ti tp v U.heap ∧ cx adE adK adV no U U.heap ∧ xS no U U.heap ∧ (x < 0 ∨ nI (min v.length 40) ≤ x))) xI := by
  refine xMet.ofW (cc := b_R_letter) (maxL := 2) (ret := (some .char)) (by decide +kernel) rfl ?_
  intro p e s m args below meth c s₁ B hml hv had
  obtain ⟨rfl, hK, hw, hC, hX, ha⟩ := hv
  have hx := B.exec
  have hb := B.bytes
  have hr := B.returns
  have hts := atoms_spec (ws := (Cond.code y_R_letter b_R_letter 2 (some .char) :: WT)) B.pre
  have hT : ∀ w ∈ WT, w.before _ s = true := fun w h => hts w (inC w h)
  have hown : s.vm.findClass R_R = some m.cls := findClass_of_methodNamed B.named
  have hlocks := B.notSynchronized
  have hS : va_S no s.heap s.heap [] := va_S.rf
  have S : CallFix p m c b_R_letter 2 s _ (Cond.code y_R_letter b_R_letter 2 (some .char) :: WT) R_R := ⟨hx, hb, hml, hown, hts⟩
  have hl := lv_entry ([.ref r0, .int x]) (n := 2) (Nat.le_of_ble_eq_true rfl)
  rw [lg_entry_eq]
  generalize (lg_sl ([.ref r0, .int x]) ++ List.replicate (2 - (lg_sl ([.ref r0, .int x])).length) Slot.unset).toArray = ls at hl ⊢
  have hl : lv_has ls 2 [(0, .ref r0), (1, .int x)] := hl
  have htr := Launch.traces_off hfl had
  have hemp := B.noHandlers (hts _ List.mem_cons_self)
  obtain ⟨f, n, ht0, hP⟩ := id hw
  refine lv_iload_n hx hb d_R_letter_0 rfl (lv_at hl 1 rfl) ?_
  refine lv_if_lt (tgt := 15) hx hb d_R_letter_1 (by decide) (fun _ => ?_) (fun h => ?_)
  · exact x_throw S hT hX htr hlocks (fun x hx => covers_of_empty hemp _ x hx) (by decide +kernel) xOwn_I m_591 m_592 m_66 (hC.2.2.1 35 (by decide)) hl.1 ⟨(Nat.le_of_ble_eq_true rfl), (Nat.le_of_ble_eq_true rfl), (Nat.le_of_ble_eq_true rfl), (Nat.le_of_ble_eq_true rfl)⟩ d_R_letter_15 d_R_letter_18 d_R_letter_19 d_R_letter_21 d_R_letter_24
  · refine lv_iload_n hx hb d_R_letter_4 rfl (lv_at hl 1 rfl) ?_
    refine lv_aload_n hx hb d_R_letter_5 rfl (lv_at hl 0 rfl) ?_
    refine va_get (D := (dC, dI)) (ci := 1) (v := .ref r2) (C := R_R) (T := F_R) (N := 5) hx hb hT i_R hown hK hP 0 rfl rfl 1 (by decide) (hT _ m_92) (fun _ h9 => h9) rfl d_R_letter_6 ?_
    refine call_T_size S inC m_574 ⟨(Nat.le_of_ble_eq_true rfl), (Nat.le_of_ble_eq_true rfl)⟩ hl.1 (Nat.le_of_ble_eq_true rfl) d_R_letter_9 ⟨(Nat.le_of_ble_eq_true rfl), (Nat.le_of_ble_eq_true rfl)⟩ hK.t hw.tw ?_
    refine lv_icmp_lt (tgt := 25) hx hb d_R_letter_12 (by decide) (fun h2 => absurd h2 (Int32.not_lt.mpr (ha.resolve_left h))) (fun _ => ?_)
    exact x_throw S hT hX htr hlocks (fun x hx => covers_of_empty hemp _ x hx) (by decide +kernel) xOwn_I m_591 m_592 m_66 (hC.2.2.1 35 (by decide)) hl.1 ⟨(Nat.le_of_ble_eq_true rfl), (Nat.le_of_ble_eq_true rfl), (Nat.le_of_ble_eq_true rfl), (Nat.le_of_ble_eq_true rfl)⟩ d_R_letter_15 d_R_letter_18 d_R_letter_19 d_R_letter_21 d_R_letter_24
