theorem inw_X0_phase : ∀ w ∈ wsX00, w ∈ wsX0_phase := fun _ h => List.mem_cons_of_mem _ (List.mem_append_right _ h)
set_option maxHeartbeats 4000000 in
set_option maxRecDepth 100000 in
theorem c_X0_phase (l : Launch) (dC : Nat → ClassId) (dI : Nat → Nat → Nat) (h0 q1 q2 q3 q4 : Nat) (cA : ClassId) (S D R K : Nat → Int32) (pc sc ph rd th lm dy wt : Int32) (sz : Nat) : Met l yX0_phase wsX0_phase ({ frames := 0, cells := 0, slots := 0, locals := 0 }) (va_Pc [.ref h0] (fun U => U.heap.size = sz ∧ va_P (dC, dI) vwCl (mg_W h0 q1 q2 q3 q4 cA (S, D, R, K, pc, sc, ph, rd, th, lm, dy, wt)) U.heap ∧ va_K (dC, dI) vwCl [(cA, .int)] U ∧ va_D (fun _ => True) (mg_W h0 q1 q2 q3 q4 cA (S, D, R, K, pc, sc, ph, rd, th, lm, dy, wt)))) (va_Qi (fun (r : Int32) (u : mgS) => r = ph ∧ u = (S, D, R, K, pc, sc, ph, rd, th, lm, dy, wt)) (at_mg dC dI h0 q1 q2 q3 q4 cA (va_A (mg_W h0 q1 q2 q3 q4 cA (S, D, R, K, pc, sc, ph, rd, th, lm, dy, wt)) sz)) (va_A (mg_W h0 q1 q2 q3 q4 cA (S, D, R, K, pc, sc, ph, rd, th, lm, dy, wt)) sz)) 0 0 (va_A (mg_W h0 q1 q2 q3 q4 cA (S, D, R, K, pc, sc, ph, rd, th, lm, dy, wt)) sz) := by
  refine Met.ofW (cc := cX0_phase) (maxL := 1) (ret := (some .int)) (by decide) rfl ?_
  intro p e s m args below meth c s₁ B hml hv
  obtain ⟨rfl, hsz, hP, hK, hD0⟩ := hv
  have hx := B.exec
  have hb := B.bytes
  have hr := B.returns
  have hts := atoms_spec (ws := wsX0_phase) B.pre
  have hown : s.vm.findClass RX0 = some m.cls := findClass_of_methodNamed B.named
  have hlocks := B.notSynchronized
  subst hsz
  have hD := hD0.self (sz := s.heap.size)
  generalize hAe : va_A (mg_W h0 q1 q2 q3 q4 cA (S, D, R, K, pc, sc, ph, rd, th, lm, dy, wt)) s.heap.size = A at hD ⊢
  have hA : ∀ q : Nat, s.heap.size ≤ q → A q := fun q h => by rw [← hAe]; exact Or.inr h
  have hS : va_S A s.heap s.heap [] := va_S.rf
  have hP : va_P (dC, dI) vwCl [(h0, .inr (0, [.ref q1, .ref q2, .ref q3, .ref q4, .int pc, .int sc, .int ph, .int rd, .int th, .int lm, .int dy, .int wt])), (q1, .inl (cA, 64, .inl S)), (q2, .inl (cA, 64, .inl D)), (q3, .inl (cA, 4, .inl R)), (q4, .inl (cA, 8, .inl K))] s.heap := hP
  have hD : va_D A [(h0, .inr (0, [.ref q1, .ref q2, .ref q3, .ref q4, .int pc, .int sc, .int ph, .int rd, .int th, .int lm, .int dy, .int wt])), (q1, .inl (cA, 64, .inl S)), (q2, .inl (cA, 64, .inl D)), (q3, .inl (cA, 4, .inl R)), (q4, .inl (cA, 8, .inl K))] := hD
  have hl := lv_entry ([.ref h0]) (n := 1) (Nat.le_of_ble_eq_true rfl)
  rw [lg_entry_eq]
  generalize (lg_sl ([.ref h0]) ++ List.replicate (1 - (lg_sl ([.ref h0])).length) Slot.unset).toArray = ls at hl ⊢
  have hl : lv_has ls 1 [(0, .ref h0)] := hl
  refine lv_aload_n hx hb dX0_phase_0 rfl (lv_at hl 0 rfl) ?_
  refine va_get (D := (dC, dI)) (ci := 0) (v := .int ph) (C := RX0) (T := TX0) (N := 12) hx hb hts inw_X0_phase hown hK hP 0 rfl rfl 6 (by decide) (hts (.fieldLink RX0 29 "Migrator" "phaseNow" "I") (by decide +kernel)) (fun _ h9 => h9) rfl dX0_phase_1 ?_
  exact W.iret (v := ph) hx hb hr (fun t ht hW => ⟨⟨ph, (S, D, R, K, pc, sc, ph, rd, th, lm, dy, wt), rfl, ⟨rfl, rfl⟩, by rw [ht]; exact hP, va_K.moved hW.alike hK, hD⟩, hS.F ht⟩) hS.2.2 dX0_phase_4
theorem inw_X0_round : ∀ w ∈ wsX00, w ∈ wsX0_round := fun _ h => List.mem_cons_of_mem _ (List.mem_append_right _ h)
set_option maxHeartbeats 4000000 in
set_option maxRecDepth 100000 in
theorem c_X0_round (l : Launch) (dC : Nat → ClassId) (dI : Nat → Nat → Nat) (h0 q1 q2 q3 q4 : Nat) (cA : ClassId) (S D R K : Nat → Int32) (pc sc ph rd th lm dy wt : Int32) (sz : Nat) : Met l yX0_round wsX0_round ({ frames := 0, cells := 0, slots := 0, locals := 0 }) (va_Pc [.ref h0] (fun U => U.heap.size = sz ∧ va_P (dC, dI) vwCl (mg_W h0 q1 q2 q3 q4 cA (S, D, R, K, pc, sc, ph, rd, th, lm, dy, wt)) U.heap ∧ va_K (dC, dI) vwCl [(cA, .int)] U ∧ va_D (fun _ => True) (mg_W h0 q1 q2 q3 q4 cA (S, D, R, K, pc, sc, ph, rd, th, lm, dy, wt)))) (va_Qi (fun (r : Int32) (u : mgS) => r = rd ∧ u = (S, D, R, K, pc, sc, ph, rd, th, lm, dy, wt)) (at_mg dC dI h0 q1 q2 q3 q4 cA (va_A (mg_W h0 q1 q2 q3 q4 cA (S, D, R, K, pc, sc, ph, rd, th, lm, dy, wt)) sz)) (va_A (mg_W h0 q1 q2 q3 q4 cA (S, D, R, K, pc, sc, ph, rd, th, lm, dy, wt)) sz)) 0 0 (va_A (mg_W h0 q1 q2 q3 q4 cA (S, D, R, K, pc, sc, ph, rd, th, lm, dy, wt)) sz) := by
  refine Met.ofW (cc := cX0_round) (maxL := 1) (ret := (some .int)) (by decide) rfl ?_
  intro p e s m args below meth c s₁ B hml hv
  obtain ⟨rfl, hsz, hP, hK, hD0⟩ := hv
  have hx := B.exec
  have hb := B.bytes
  have hr := B.returns
  have hts := atoms_spec (ws := wsX0_round) B.pre
  have hown : s.vm.findClass RX0 = some m.cls := findClass_of_methodNamed B.named
  have hlocks := B.notSynchronized
  subst hsz
  have hD := hD0.self (sz := s.heap.size)
  generalize hAe : va_A (mg_W h0 q1 q2 q3 q4 cA (S, D, R, K, pc, sc, ph, rd, th, lm, dy, wt)) s.heap.size = A at hD ⊢
  have hA : ∀ q : Nat, s.heap.size ≤ q → A q := fun q h => by rw [← hAe]; exact Or.inr h
  have hS : va_S A s.heap s.heap [] := va_S.rf
  have hP : va_P (dC, dI) vwCl [(h0, .inr (0, [.ref q1, .ref q2, .ref q3, .ref q4, .int pc, .int sc, .int ph, .int rd, .int th, .int lm, .int dy, .int wt])), (q1, .inl (cA, 64, .inl S)), (q2, .inl (cA, 64, .inl D)), (q3, .inl (cA, 4, .inl R)), (q4, .inl (cA, 8, .inl K))] s.heap := hP
  have hD : va_D A [(h0, .inr (0, [.ref q1, .ref q2, .ref q3, .ref q4, .int pc, .int sc, .int ph, .int rd, .int th, .int lm, .int dy, .int wt])), (q1, .inl (cA, 64, .inl S)), (q2, .inl (cA, 64, .inl D)), (q3, .inl (cA, 4, .inl R)), (q4, .inl (cA, 8, .inl K))] := hD
  have hl := lv_entry ([.ref h0]) (n := 1) (Nat.le_of_ble_eq_true rfl)
  rw [lg_entry_eq]
  generalize (lg_sl ([.ref h0]) ++ List.replicate (1 - (lg_sl ([.ref h0])).length) Slot.unset).toArray = ls at hl ⊢
  have hl : lv_has ls 1 [(0, .ref h0)] := hl
  refine lv_aload_n hx hb dX0_round_0 rfl (lv_at hl 0 rfl) ?_
  refine va_get (D := (dC, dI)) (ci := 0) (v := .int rd) (C := RX0) (T := TX0) (N := 12) hx hb hts inw_X0_round hown hK hP 0 rfl rfl 7 (by decide) (hts (.fieldLink RX0 32 "Migrator" "roundNow" "I") (by decide +kernel)) (fun _ h9 => h9) rfl dX0_round_1 ?_
  exact W.iret (v := rd) hx hb hr (fun t ht hW => ⟨⟨rd, (S, D, R, K, pc, sc, ph, rd, th, lm, dy, wt), rfl, ⟨rfl, rfl⟩, by rw [ht]; exact hP, va_K.moved hW.alike hK, hD⟩, hS.F ht⟩) hS.2.2 dX0_round_4
theorem inw_X0_pc : ∀ w ∈ wsX00, w ∈ wsX0_pc := fun _ h => List.mem_cons_of_mem _ (List.mem_append_right _ h)
set_option maxHeartbeats 4000000 in
set_option maxRecDepth 100000 in
theorem c_X0_pc (l : Launch) (dC : Nat → ClassId) (dI : Nat → Nat → Nat) (h0 q1 q2 q3 q4 : Nat) (cA : ClassId) (S D R K : Nat → Int32) (pc sc ph rd th lm dy wt : Int32) (sz : Nat) : Met l yX0_pc wsX0_pc ({ frames := 0, cells := 0, slots := 0, locals := 0 }) (va_Pc [.ref h0] (fun U => U.heap.size = sz ∧ va_P (dC, dI) vwCl (mg_W h0 q1 q2 q3 q4 cA (S, D, R, K, pc, sc, ph, rd, th, lm, dy, wt)) U.heap ∧ va_K (dC, dI) vwCl [(cA, .int)] U ∧ va_D (fun _ => True) (mg_W h0 q1 q2 q3 q4 cA (S, D, R, K, pc, sc, ph, rd, th, lm, dy, wt)))) (va_Qi (fun (r : Int32) (u : mgS) => r = pc ∧ u = (S, D, R, K, pc, sc, ph, rd, th, lm, dy, wt)) (at_mg dC dI h0 q1 q2 q3 q4 cA (va_A (mg_W h0 q1 q2 q3 q4 cA (S, D, R, K, pc, sc, ph, rd, th, lm, dy, wt)) sz)) (va_A (mg_W h0 q1 q2 q3 q4 cA (S, D, R, K, pc, sc, ph, rd, th, lm, dy, wt)) sz)) 0 0 (va_A (mg_W h0 q1 q2 q3 q4 cA (S, D, R, K, pc, sc, ph, rd, th, lm, dy, wt)) sz) := by
  refine Met.ofW (cc := cX0_pc) (maxL := 1) (ret := (some .int)) (by decide) rfl ?_
  intro p e s m args below meth c s₁ B hml hv
  obtain ⟨rfl, hsz, hP, hK, hD0⟩ := hv
  have hx := B.exec
  have hb := B.bytes
  have hr := B.returns
  have hts := atoms_spec (ws := wsX0_pc) B.pre
  have hown : s.vm.findClass RX0 = some m.cls := findClass_of_methodNamed B.named
  have hlocks := B.notSynchronized
  subst hsz
  have hD := hD0.self (sz := s.heap.size)
  generalize hAe : va_A (mg_W h0 q1 q2 q3 q4 cA (S, D, R, K, pc, sc, ph, rd, th, lm, dy, wt)) s.heap.size = A at hD ⊢
  have hA : ∀ q : Nat, s.heap.size ≤ q → A q := fun q h => by rw [← hAe]; exact Or.inr h
  have hS : va_S A s.heap s.heap [] := va_S.rf
  have hP : va_P (dC, dI) vwCl [(h0, .inr (0, [.ref q1, .ref q2, .ref q3, .ref q4, .int pc, .int sc, .int ph, .int rd, .int th, .int lm, .int dy, .int wt])), (q1, .inl (cA, 64, .inl S)), (q2, .inl (cA, 64, .inl D)), (q3, .inl (cA, 4, .inl R)), (q4, .inl (cA, 8, .inl K))] s.heap := hP
  have hD : va_D A [(h0, .inr (0, [.ref q1, .ref q2, .ref q3, .ref q4, .int pc, .int sc, .int ph, .int rd, .int th, .int lm, .int dy, .int wt])), (q1, .inl (cA, 64, .inl S)), (q2, .inl (cA, 64, .inl D)), (q3, .inl (cA, 4, .inl R)), (q4, .inl (cA, 8, .inl K))] := hD
  have hl := lv_entry ([.ref h0]) (n := 1) (Nat.le_of_ble_eq_true rfl)
  rw [lg_entry_eq]
  generalize (lg_sl ([.ref h0]) ++ List.replicate (1 - (lg_sl ([.ref h0])).length) Slot.unset).toArray = ls at hl ⊢
  have hl : lv_has ls 1 [(0, .ref h0)] := hl
  refine lv_aload_n hx hb dX0_pc_0 rfl (lv_at hl 0 rfl) ?_
  refine va_get (D := (dC, dI)) (ci := 0) (v := .int pc) (C := RX0) (T := TX0) (N := 12) hx hb hts inw_X0_pc hown hK hP 0 rfl rfl 4 (by decide) (hts (.fieldLink RX0 22 "Migrator" "programCounter" "I") (by decide +kernel)) (fun _ h9 => h9) rfl dX0_pc_1 ?_
  exact W.iret (v := pc) hx hb hr (fun t ht hW => ⟨⟨pc, (S, D, R, K, pc, sc, ph, rd, th, lm, dy, wt), rfl, ⟨rfl, rfl⟩, by rw [ht]; exact hP, va_K.moved hW.alike hK, hD⟩, hS.F ht⟩) hS.2.2 dX0_pc_4
theorem inw_X0_shows : ∀ w ∈ wsX00, w ∈ wsX0_shows := fun _ h => List.mem_cons_of_mem _ (List.mem_append_right _ h)
set_option maxHeartbeats 4000000 in
set_option maxRecDepth 100000 in
theorem c_X0_shows (l : Launch) (dC : Nat → ClassId) (dI : Nat → Nat → Nat) (h0 q1 q2 q3 q4 : Nat) (cA : ClassId) (S D R K : Nat → Int32) (pc sc ph rd th lm dy wt : Int32) (sz : Nat) : Met l yX0_shows wsX0_shows ({ frames := 0, cells := 0, slots := 0, locals := 0 }) (va_Pc [.ref h0] (fun U => U.heap.size = sz ∧ va_P (dC, dI) vwCl (mg_W h0 q1 q2 q3 q4 cA (S, D, R, K, pc, sc, ph, rd, th, lm, dy, wt)) U.heap ∧ va_K (dC, dI) vwCl [(cA, .int)] U ∧ va_D (fun _ => True) (mg_W h0 q1 q2 q3 q4 cA (S, D, R, K, pc, sc, ph, rd, th, lm, dy, wt)))) (va_Qi (fun (r : Int32) (u : mgS) => r = sc ∧ u = (S, D, R, K, pc, sc, ph, rd, th, lm, dy, wt)) (at_mg dC dI h0 q1 q2 q3 q4 cA (va_A (mg_W h0 q1 q2 q3 q4 cA (S, D, R, K, pc, sc, ph, rd, th, lm, dy, wt)) sz)) (va_A (mg_W h0 q1 q2 q3 q4 cA (S, D, R, K, pc, sc, ph, rd, th, lm, dy, wt)) sz)) 0 0 (va_A (mg_W h0 q1 q2 q3 q4 cA (S, D, R, K, pc, sc, ph, rd, th, lm, dy, wt)) sz) := by
  refine Met.ofW (cc := cX0_shows) (maxL := 1) (ret := (some .int)) (by decide) rfl ?_
  intro p e s m args below meth c s₁ B hml hv
  obtain ⟨rfl, hsz, hP, hK, hD0⟩ := hv
  have hx := B.exec
  have hb := B.bytes
  have hr := B.returns
  have hts := atoms_spec (ws := wsX0_shows) B.pre
  have hown : s.vm.findClass RX0 = some m.cls := findClass_of_methodNamed B.named
  have hlocks := B.notSynchronized
  subst hsz
  have hD := hD0.self (sz := s.heap.size)
  generalize hAe : va_A (mg_W h0 q1 q2 q3 q4 cA (S, D, R, K, pc, sc, ph, rd, th, lm, dy, wt)) s.heap.size = A at hD ⊢
  have hA : ∀ q : Nat, s.heap.size ≤ q → A q := fun q h => by rw [← hAe]; exact Or.inr h
  have hS : va_S A s.heap s.heap [] := va_S.rf
  have hP : va_P (dC, dI) vwCl [(h0, .inr (0, [.ref q1, .ref q2, .ref q3, .ref q4, .int pc, .int sc, .int ph, .int rd, .int th, .int lm, .int dy, .int wt])), (q1, .inl (cA, 64, .inl S)), (q2, .inl (cA, 64, .inl D)), (q3, .inl (cA, 4, .inl R)), (q4, .inl (cA, 8, .inl K))] s.heap := hP
  have hD : va_D A [(h0, .inr (0, [.ref q1, .ref q2, .ref q3, .ref q4, .int pc, .int sc, .int ph, .int rd, .int th, .int lm, .int dy, .int wt])), (q1, .inl (cA, 64, .inl S)), (q2, .inl (cA, 64, .inl D)), (q3, .inl (cA, 4, .inl R)), (q4, .inl (cA, 8, .inl K))] := hD
  have hl := lv_entry ([.ref h0]) (n := 1) (Nat.le_of_ble_eq_true rfl)
  rw [lg_entry_eq]
  generalize (lg_sl ([.ref h0]) ++ List.replicate (1 - (lg_sl ([.ref h0])).length) Slot.unset).toArray = ls at hl ⊢
  have hl : lv_has ls 1 [(0, .ref h0)] := hl
  refine lv_aload_n hx hb dX0_shows_0 rfl (lv_at hl 0 rfl) ?_
  refine va_get (D := (dC, dI)) (ci := 0) (v := .int sc) (C := RX0) (T := TX0) (N := 12) hx hb hts inw_X0_shows hown hK hP 0 rfl rfl 5 (by decide) (hts (.fieldLink RX0 26 "Migrator" "showCount" "I") (by decide +kernel)) (fun _ h9 => h9) rfl dX0_shows_1 ?_
  exact W.iret (v := sc) hx hb hr (fun t ht hW => ⟨⟨sc, (S, D, R, K, pc, sc, ph, rd, th, lm, dy, wt), rfl, ⟨rfl, rfl⟩, by rw [ht]; exact hP, va_K.moved hW.alike hK, hD⟩, hS.F ht⟩) hS.2.2 dX0_shows_4
theorem inw_X0_dirty : ∀ w ∈ wsX00, w ∈ wsX0_dirty := fun _ h => List.mem_cons_of_mem _ (List.mem_append_right _ h)
set_option maxHeartbeats 4000000 in
set_option maxRecDepth 100000 in
theorem c_X0_dirty (l : Launch) (dC : Nat → ClassId) (dI : Nat → Nat → Nat) (h0 q1 q2 q3 q4 : Nat) (cA : ClassId) (S D R K : Nat → Int32) (pc sc ph rd th lm dy wt : Int32) (a : Int32) (sz : Nat) : Met l yX0_dirty wsX0_dirty ({ frames := 1, cells := 0, slots := 0, locals := 21 }) (va_Pc [.ref h0, .int a] (fun U => U.heap.size = sz ∧ va_P (dC, dI) vwCl (mg_W h0 q1 q2 q3 q4 cA (S, D, R, K, pc, sc, ph, rd, th, lm, dy, wt)) U.heap ∧ va_K (dC, dI) vwCl [(cA, .int)] U ∧ va_D (fun _ => True) (mg_W h0 q1 q2 q3 q4 cA (S, D, R, K, pc, sc, ph, rd, th, lm, dy, wt)))) (va_Qi (fun (r : Int32) (u : mgS) => ((r = 1 ∧ mg_ip a ∧ mg_bt dy a) ∨ (r = 0 ∧ ¬ (mg_ip a ∧ mg_bt dy a))) ∧ u = (S, D, R, K, pc, sc, ph, rd, th, lm, dy, wt)) (at_mg dC dI h0 q1 q2 q3 q4 cA (va_A (mg_W h0 q1 q2 q3 q4 cA (S, D, R, K, pc, sc, ph, rd, th, lm, dy, wt)) sz)) (va_A (mg_W h0 q1 q2 q3 q4 cA (S, D, R, K, pc, sc, ph, rd, th, lm, dy, wt)) sz)) 0 0 (va_A (mg_W h0 q1 q2 q3 q4 cA (S, D, R, K, pc, sc, ph, rd, th, lm, dy, wt)) sz) := by
  refine Met.ofW (cc := cX0_dirty) (maxL := 2) (ret := (some .boolean)) (by decide) rfl ?_
  intro p e s m args below meth c s₁ B hml hv
  obtain ⟨rfl, hsz, hP, hK, hD0⟩ := hv
  have hx := B.exec
  have hb := B.bytes
  have hr := B.returns
  have hts := atoms_spec (ws := wsX0_dirty) B.pre
  have hown : s.vm.findClass RX0 = some m.cls := findClass_of_methodNamed B.named
  have hlocks := B.notSynchronized
  subst hsz
  have hD := hD0.self (sz := s.heap.size)
  generalize hAe : va_A (mg_W h0 q1 q2 q3 q4 cA (S, D, R, K, pc, sc, ph, rd, th, lm, dy, wt)) s.heap.size = A at hD ⊢
  have hA : ∀ q : Nat, s.heap.size ≤ q → A q := fun q h => by rw [← hAe]; exact Or.inr h
  have hS : va_S A s.heap s.heap [] := va_S.rf
  have hP : va_P (dC, dI) vwCl [(h0, .inr (0, [.ref q1, .ref q2, .ref q3, .ref q4, .int pc, .int sc, .int ph, .int rd, .int th, .int lm, .int dy, .int wt])), (q1, .inl (cA, 64, .inl S)), (q2, .inl (cA, 64, .inl D)), (q3, .inl (cA, 4, .inl R)), (q4, .inl (cA, 8, .inl K))] s.heap := hP
  have hD : va_D A [(h0, .inr (0, [.ref q1, .ref q2, .ref q3, .ref q4, .int pc, .int sc, .int ph, .int rd, .int th, .int lm, .int dy, .int wt])), (q1, .inl (cA, 64, .inl S)), (q2, .inl (cA, 64, .inl D)), (q3, .inl (cA, 4, .inl R)), (q4, .inl (cA, 8, .inl K))] := hD
  have hl := lv_entry ([.ref h0, .int a]) (n := 2) (Nat.le_of_ble_eq_true rfl)
  rw [lg_entry_eq]
  generalize (lg_sl ([.ref h0, .int a]) ++ List.replicate (2 - (lg_sl ([.ref h0, .int a])).length) Slot.unset).toArray = ls at hl ⊢
  have hl : lv_has ls 2 [(0, .ref h0), (1, .int a)] := hl
  refine lv_iload_n hx hb dX0_dirty_0 rfl (lv_at hl 1 rfl) ?_
  have hPc := hP.sub (ws' := []) [] rfl
  have hDc := hD.sub (ws' := []) [] (by decide) rfl
  have hKc := hK.sub (tys' := []) [] rfl
  have hFc := va_free (wc := []) hD hS hA [] rfl
  refine va_calli (va_runS (As := [.int a]) (rest := []) ⟨hx, hb, hml, hown, hts⟩ (c_X0_isPage l dC dI a s.heap.size) (va_cwS 1 hts gX0_dirty_X0_isPage rfl rfl rfl (by decide +kernel) ⟨Nat.le_of_ble_eq_true rfl, Nat.le_of_ble_eq_true rfl⟩) ⟨fun a U g mk q => by obtain ⟨q0, q1, qP, qK, qD⟩ := q; exact ⟨q0, q1, qP, va_K.moved (u := U) (U := U.calling g mk a) (Vm.Alike.refl U.vm) qK, qD⟩, fun U hU hW => ⟨rfl, by rw [hU], by rw [hU]; exact hPc, va_K.moved hW.alike hKc, hDc.weaken (fun _ _ _ _ => trivial)⟩⟩ rfl rfl hl.1 rfl (lv_room (Nat.le_of_ble_eq_true rfl)) dX0_dirty_1 ⟨(Nat.zero_le _), (Nat.zero_le _)⟩) hS (fun q _ h => hFc q h) hFc (fun r_1 u_2 t H1 locs ht hvm w_3 hB hz1 hk1 hS => ?_)
  obtain ⟨hP1, hK1, hD1⟩ := hB
  rw [ht] at hP1
  obtain ⟨hP, hD⟩ := va_join (wr := [(h0, .inr (0, [.ref q1, .ref q2, .ref q3, .ref q4, .int pc, .int sc, .int ph, .int rd, .int th, .int lm, .int dy, .int wt])), (q1, .inl (cA, 64, .inl S)), (q2, .inl (cA, 64, .inl D)), (q3, .inl (cA, 4, .inl R)), (q4, .inl (cA, 8, .inl K))]) (w1 := []) hP hD [] [0, 1, 2, 3, 4] rfl rfl (by decide) (by decide) hk1 hFc hP1 hD1
  clear hPc hDc hFc hP1 hD1 hk1 hK1
  generalize H1 = H at hP hS ⊢
  have hP : va_P (dC, dI) vwCl [(h0, .inr (0, [.ref q1, .ref q2, .ref q3, .ref q4, .int pc, .int sc, .int ph, .int rd, .int th, .int lm, .int dy, .int wt])), (q1, .inl (cA, 64, .inl S)), (q2, .inl (cA, 64, .inl D)), (q3, .inl (cA, 4, .inl R)), (q4, .inl (cA, 8, .inl K))] H := hP
  have hD : va_D A [(h0, .inr (0, [.ref q1, .ref q2, .ref q3, .ref q4, .int pc, .int sc, .int ph, .int rd, .int th, .int lm, .int dy, .int wt])), (q1, .inl (cA, 64, .inl S)), (q2, .inl (cA, 64, .inl D)), (q3, .inl (cA, 4, .inl R)), (q4, .inl (cA, 8, .inl K))] := hD
  rcases w_3 with ⟨rfl, a_4⟩ | ⟨rfl, a_4⟩
  · refine lv_if_eq (tgt := 22) hx hb dX0_dirty_4 (by decide) (fun c_5 => ?_) (fun c_5 => ?_)
    · exact absurd c_5 (by decide)
    · refine lv_aload_n hx hb dX0_dirty_7 rfl (lv_at hl 0 rfl) ?_
      refine va_get (D := (dC, dI)) (ci := 0) (v := .int dy) (C := RX0) (T := TX0) (N := 12) hx hb hts inw_X0_dirty hown hK hP 0 rfl rfl 10 (by decide) (hts (.fieldLink RX0 41 "Migrator" "dirtyPages" "I") (by decide +kernel)) (fun _ h9 => h9) rfl dX0_dirty_8 ?_
      refine lv_iload_n hx hb dX0_dirty_11 rfl (lv_at hl 1 rfl) ?_
      have hPc := hP.sub (ws' := []) [] rfl
      have hDc := hD.sub (ws' := []) [] (by decide) rfl
      have hKc := hK.sub (tys' := []) [] rfl
      have hFc := va_free (wc := []) hD hS hA [] rfl
      refine va_calli (va_runS (As := [.int dy, .int a]) (rest := []) ⟨hx, hb, hml, hown, hts⟩ (c_X0_hasPage l dC dI dy a H.size) (va_cwS 2 hts gX0_dirty_X0_hasPage rfl rfl rfl (by decide +kernel) ⟨Nat.le_of_ble_eq_true rfl, Nat.le_of_ble_eq_true rfl⟩) ⟨fun a U g mk q => by obtain ⟨q0, q1, qP, qK, qD⟩ := q; exact ⟨q0, q1, qP, va_K.moved (u := U) (U := U.calling g mk a) (Vm.Alike.refl U.vm) qK, qD⟩, fun U hU hW => ⟨rfl, by rw [hU], by rw [hU]; exact hPc, va_K.moved hW.alike hKc, hDc.weaken (fun _ _ _ _ => trivial)⟩⟩ rfl rfl hl.1 rfl (lv_room (Nat.le_of_ble_eq_true rfl)) dX0_dirty_12 ⟨(Nat.zero_le _), (Nat.zero_le _)⟩) hS (fun q _ h => hFc q h) hFc (fun r_6 u_7 t H1 locs ht hvm w_8 hB hz1 hk1 hS => ?_)
      obtain ⟨hP1, hK1, hD1⟩ := hB
      rw [ht] at hP1
      obtain ⟨hP, hD⟩ := va_join (wr := [(h0, .inr (0, [.ref q1, .ref q2, .ref q3, .ref q4, .int pc, .int sc, .int ph, .int rd, .int th, .int lm, .int dy, .int wt])), (q1, .inl (cA, 64, .inl S)), (q2, .inl (cA, 64, .inl D)), (q3, .inl (cA, 4, .inl R)), (q4, .inl (cA, 8, .inl K))]) (w1 := []) hP hD [] [0, 1, 2, 3, 4] rfl rfl (by decide) (by decide) hk1 hFc hP1 hD1
      clear hPc hDc hFc hP1 hD1 hk1 hK1
      generalize H1 = H at hP hS ⊢
      have hP : va_P (dC, dI) vwCl [(h0, .inr (0, [.ref q1, .ref q2, .ref q3, .ref q4, .int pc, .int sc, .int ph, .int rd, .int th, .int lm, .int dy, .int wt])), (q1, .inl (cA, 64, .inl S)), (q2, .inl (cA, 64, .inl D)), (q3, .inl (cA, 4, .inl R)), (q4, .inl (cA, 8, .inl K))] H := hP
      have hD : va_D A [(h0, .inr (0, [.ref q1, .ref q2, .ref q3, .ref q4, .int pc, .int sc, .int ph, .int rd, .int th, .int lm, .int dy, .int wt])), (q1, .inl (cA, 64, .inl S)), (q2, .inl (cA, 64, .inl D)), (q3, .inl (cA, 4, .inl R)), (q4, .inl (cA, 8, .inl K))] := hD
      rcases w_8 with ⟨rfl, a_9⟩ | ⟨rfl, a_9⟩
      · refine lv_if_eq (tgt := 22) hx hb dX0_dirty_15 (by decide) (fun c_10 => ?_) (fun c_10 => ?_)
        · exact absurd c_10 (by decide)
        · refine lv_iconst (v := 1) hx hb dX0_dirty_18 (by decide) ?_
          refine lv_goto (tgt := 23) hx hb dX0_dirty_19 (by decide) ?_
          exact W.zret (v := 1) (ty := .boolean) hx hb hr rfl (fun t ht hW => ⟨⟨1, (S, D, R, K, pc, sc, ph, rd, th, lm, dy, wt), rfl, ⟨Or.inl ⟨rfl, a_4, a_9⟩, rfl⟩, by rw [ht]; exact hP, va_K.moved hW.alike hK, hD⟩, hS.F ht⟩) hS.2.2 dX0_dirty_23
      · refine lv_if_eq (tgt := 22) hx hb dX0_dirty_15 (by decide) (fun c_11 => ?_) (fun c_11 => ?_)
        · refine lv_iconst (v := 0) hx hb dX0_dirty_22 (by decide) ?_
          exact W.zret (v := 0) (ty := .boolean) hx hb hr rfl (fun t ht hW => ⟨⟨0, (S, D, R, K, pc, sc, ph, rd, th, lm, dy, wt), rfl, ⟨Or.inr ⟨rfl, fun h => a_9 h.2⟩, rfl⟩, by rw [ht]; exact hP, va_K.moved hW.alike hK, hD⟩, hS.F ht⟩) hS.2.2 dX0_dirty_23
        · exact absurd c_11 (by decide)
  · refine lv_if_eq (tgt := 22) hx hb dX0_dirty_4 (by decide) (fun c_12 => ?_) (fun c_12 => ?_)
    · refine lv_iconst (v := 0) hx hb dX0_dirty_22 (by decide) ?_
      exact W.zret (v := 0) (ty := .boolean) hx hb hr rfl (fun t ht hW => ⟨⟨0, (S, D, R, K, pc, sc, ph, rd, th, lm, dy, wt), rfl, ⟨Or.inr ⟨rfl, fun h => a_4 h.1⟩, rfl⟩, by rw [ht]; exact hP, va_K.moved hW.alike hK, hD⟩, hS.F ht⟩) hS.2.2 dX0_dirty_23
    · exact absurd c_12 (by decide)
theorem inw_X0_waits : ∀ w ∈ wsX00, w ∈ wsX0_waits := fun _ h => List.mem_cons_of_mem _ (List.mem_append_right _ h)
set_option maxHeartbeats 4000000 in
set_option maxRecDepth 100000 in
theorem c_X0_waits (l : Launch) (dC : Nat → ClassId) (dI : Nat → Nat → Nat) (h0 q1 q2 q3 q4 : Nat) (cA : ClassId) (S D R K : Nat → Int32) (pc sc ph rd th lm dy wt : Int32) (a : Int32) (sz : Nat) : Met l yX0_waits wsX0_waits ({ frames := 1, cells := 0, slots := 0, locals := 21 }) (va_Pc [.ref h0, .int a] (fun U => U.heap.size = sz ∧ va_P (dC, dI) vwCl (mg_W h0 q1 q2 q3 q4 cA (S, D, R, K, pc, sc, ph, rd, th, lm, dy, wt)) U.heap ∧ va_K (dC, dI) vwCl [(cA, .int)] U ∧ va_D (fun _ => True) (mg_W h0 q1 q2 q3 q4 cA (S, D, R, K, pc, sc, ph, rd, th, lm, dy, wt)))) (va_Qi (fun (r : Int32) (u : mgS) => ((r = 1 ∧ mg_ip a ∧ mg_bt wt a) ∨ (r = 0 ∧ ¬ (mg_ip a ∧ mg_bt wt a))) ∧ u = (S, D, R, K, pc, sc, ph, rd, th, lm, dy, wt)) (at_mg dC dI h0 q1 q2 q3 q4 cA (va_A (mg_W h0 q1 q2 q3 q4 cA (S, D, R, K, pc, sc, ph, rd, th, lm, dy, wt)) sz)) (va_A (mg_W h0 q1 q2 q3 q4 cA (S, D, R, K, pc, sc, ph, rd, th, lm, dy, wt)) sz)) 0 0 (va_A (mg_W h0 q1 q2 q3 q4 cA (S, D, R, K, pc, sc, ph, rd, th, lm, dy, wt)) sz) := by
  refine Met.ofW (cc := cX0_waits) (maxL := 2) (ret := (some .boolean)) (by decide) rfl ?_
  intro p e s m args below meth c s₁ B hml hv
  obtain ⟨rfl, hsz, hP, hK, hD0⟩ := hv
  have hx := B.exec
  have hb := B.bytes
  have hr := B.returns
  have hts := atoms_spec (ws := wsX0_waits) B.pre
  have hown : s.vm.findClass RX0 = some m.cls := findClass_of_methodNamed B.named
  have hlocks := B.notSynchronized
  subst hsz
  have hD := hD0.self (sz := s.heap.size)
  generalize hAe : va_A (mg_W h0 q1 q2 q3 q4 cA (S, D, R, K, pc, sc, ph, rd, th, lm, dy, wt)) s.heap.size = A at hD ⊢
  have hA : ∀ q : Nat, s.heap.size ≤ q → A q := fun q h => by rw [← hAe]; exact Or.inr h
  have hS : va_S A s.heap s.heap [] := va_S.rf
  have hP : va_P (dC, dI) vwCl [(h0, .inr (0, [.ref q1, .ref q2, .ref q3, .ref q4, .int pc, .int sc, .int ph, .int rd, .int th, .int lm, .int dy, .int wt])), (q1, .inl (cA, 64, .inl S)), (q2, .inl (cA, 64, .inl D)), (q3, .inl (cA, 4, .inl R)), (q4, .inl (cA, 8, .inl K))] s.heap := hP
  have hD : va_D A [(h0, .inr (0, [.ref q1, .ref q2, .ref q3, .ref q4, .int pc, .int sc, .int ph, .int rd, .int th, .int lm, .int dy, .int wt])), (q1, .inl (cA, 64, .inl S)), (q2, .inl (cA, 64, .inl D)), (q3, .inl (cA, 4, .inl R)), (q4, .inl (cA, 8, .inl K))] := hD
  have hl := lv_entry ([.ref h0, .int a]) (n := 2) (Nat.le_of_ble_eq_true rfl)
  rw [lg_entry_eq]
  generalize (lg_sl ([.ref h0, .int a]) ++ List.replicate (2 - (lg_sl ([.ref h0, .int a])).length) Slot.unset).toArray = ls at hl ⊢
  have hl : lv_has ls 2 [(0, .ref h0), (1, .int a)] := hl
  refine lv_iload_n hx hb dX0_waits_0 rfl (lv_at hl 1 rfl) ?_
  have hPc := hP.sub (ws' := []) [] rfl
  have hDc := hD.sub (ws' := []) [] (by decide) rfl
  have hKc := hK.sub (tys' := []) [] rfl
  have hFc := va_free (wc := []) hD hS hA [] rfl
  refine va_calli (va_runS (As := [.int a]) (rest := []) ⟨hx, hb, hml, hown, hts⟩ (c_X0_isPage l dC dI a s.heap.size) (va_cwS 1 hts gX0_waits_X0_isPage rfl rfl rfl (by decide +kernel) ⟨Nat.le_of_ble_eq_true rfl, Nat.le_of_ble_eq_true rfl⟩) ⟨fun a U g mk q => by obtain ⟨q0, q1, qP, qK, qD⟩ := q; exact ⟨q0, q1, qP, va_K.moved (u := U) (U := U.calling g mk a) (Vm.Alike.refl U.vm) qK, qD⟩, fun U hU hW => ⟨rfl, by rw [hU], by rw [hU]; exact hPc, va_K.moved hW.alike hKc, hDc.weaken (fun _ _ _ _ => trivial)⟩⟩ rfl rfl hl.1 rfl (lv_room (Nat.le_of_ble_eq_true rfl)) dX0_waits_1 ⟨(Nat.zero_le _), (Nat.zero_le _)⟩) hS (fun q _ h => hFc q h) hFc (fun r_1 u_2 t H1 locs ht hvm w_3 hB hz1 hk1 hS => ?_)
  obtain ⟨hP1, hK1, hD1⟩ := hB
  rw [ht] at hP1
  obtain ⟨hP, hD⟩ := va_join (wr := [(h0, .inr (0, [.ref q1, .ref q2, .ref q3, .ref q4, .int pc, .int sc, .int ph, .int rd, .int th, .int lm, .int dy, .int wt])), (q1, .inl (cA, 64, .inl S)), (q2, .inl (cA, 64, .inl D)), (q3, .inl (cA, 4, .inl R)), (q4, .inl (cA, 8, .inl K))]) (w1 := []) hP hD [] [0, 1, 2, 3, 4] rfl rfl (by decide) (by decide) hk1 hFc hP1 hD1
  clear hPc hDc hFc hP1 hD1 hk1 hK1
  generalize H1 = H at hP hS ⊢
  have hP : va_P (dC, dI) vwCl [(h0, .inr (0, [.ref q1, .ref q2, .ref q3, .ref q4, .int pc, .int sc, .int ph, .int rd, .int th, .int lm, .int dy, .int wt])), (q1, .inl (cA, 64, .inl S)), (q2, .inl (cA, 64, .inl D)), (q3, .inl (cA, 4, .inl R)), (q4, .inl (cA, 8, .inl K))] H := hP
  have hD : va_D A [(h0, .inr (0, [.ref q1, .ref q2, .ref q3, .ref q4, .int pc, .int sc, .int ph, .int rd, .int th, .int lm, .int dy, .int wt])), (q1, .inl (cA, 64, .inl S)), (q2, .inl (cA, 64, .inl D)), (q3, .inl (cA, 4, .inl R)), (q4, .inl (cA, 8, .inl K))] := hD
  rcases w_3 with ⟨rfl, a_4⟩ | ⟨rfl, a_4⟩
  · refine lv_if_eq (tgt := 22) hx hb dX0_waits_4 (by decide) (fun c_5 => ?_) (fun c_5 => ?_)
    · exact absurd c_5 (by decide)
    · refine lv_aload_n hx hb dX0_waits_7 rfl (lv_at hl 0 rfl) ?_
      refine va_get (D := (dC, dI)) (ci := 0) (v := .int wt) (C := RX0) (T := TX0) (N := 12) hx hb hts inw_X0_waits hown hK hP 0 rfl rfl 11 (by decide) (hts (.fieldLink RX0 44 "Migrator" "waitingPages" "I") (by decide +kernel)) (fun _ h9 => h9) rfl dX0_waits_8 ?_
      refine lv_iload_n hx hb dX0_waits_11 rfl (lv_at hl 1 rfl) ?_
      have hPc := hP.sub (ws' := []) [] rfl
      have hDc := hD.sub (ws' := []) [] (by decide) rfl
      have hKc := hK.sub (tys' := []) [] rfl
      have hFc := va_free (wc := []) hD hS hA [] rfl
      refine va_calli (va_runS (As := [.int wt, .int a]) (rest := []) ⟨hx, hb, hml, hown, hts⟩ (c_X0_hasPage l dC dI wt a H.size) (va_cwS 2 hts gX0_waits_X0_hasPage rfl rfl rfl (by decide +kernel) ⟨Nat.le_of_ble_eq_true rfl, Nat.le_of_ble_eq_true rfl⟩) ⟨fun a U g mk q => by obtain ⟨q0, q1, qP, qK, qD⟩ := q; exact ⟨q0, q1, qP, va_K.moved (u := U) (U := U.calling g mk a) (Vm.Alike.refl U.vm) qK, qD⟩, fun U hU hW => ⟨rfl, by rw [hU], by rw [hU]; exact hPc, va_K.moved hW.alike hKc, hDc.weaken (fun _ _ _ _ => trivial)⟩⟩ rfl rfl hl.1 rfl (lv_room (Nat.le_of_ble_eq_true rfl)) dX0_waits_12 ⟨(Nat.zero_le _), (Nat.zero_le _)⟩) hS (fun q _ h => hFc q h) hFc (fun r_6 u_7 t H1 locs ht hvm w_8 hB hz1 hk1 hS => ?_)
      obtain ⟨hP1, hK1, hD1⟩ := hB
      rw [ht] at hP1
      obtain ⟨hP, hD⟩ := va_join (wr := [(h0, .inr (0, [.ref q1, .ref q2, .ref q3, .ref q4, .int pc, .int sc, .int ph, .int rd, .int th, .int lm, .int dy, .int wt])), (q1, .inl (cA, 64, .inl S)), (q2, .inl (cA, 64, .inl D)), (q3, .inl (cA, 4, .inl R)), (q4, .inl (cA, 8, .inl K))]) (w1 := []) hP hD [] [0, 1, 2, 3, 4] rfl rfl (by decide) (by decide) hk1 hFc hP1 hD1
      clear hPc hDc hFc hP1 hD1 hk1 hK1
      generalize H1 = H at hP hS ⊢
      have hP : va_P (dC, dI) vwCl [(h0, .inr (0, [.ref q1, .ref q2, .ref q3, .ref q4, .int pc, .int sc, .int ph, .int rd, .int th, .int lm, .int dy, .int wt])), (q1, .inl (cA, 64, .inl S)), (q2, .inl (cA, 64, .inl D)), (q3, .inl (cA, 4, .inl R)), (q4, .inl (cA, 8, .inl K))] H := hP
      have hD : va_D A [(h0, .inr (0, [.ref q1, .ref q2, .ref q3, .ref q4, .int pc, .int sc, .int ph, .int rd, .int th, .int lm, .int dy, .int wt])), (q1, .inl (cA, 64, .inl S)), (q2, .inl (cA, 64, .inl D)), (q3, .inl (cA, 4, .inl R)), (q4, .inl (cA, 8, .inl K))] := hD
      rcases w_8 with ⟨rfl, a_9⟩ | ⟨rfl, a_9⟩
      · refine lv_if_eq (tgt := 22) hx hb dX0_waits_15 (by decide) (fun c_10 => ?_) (fun c_10 => ?_)
        · exact absurd c_10 (by decide)
        · refine lv_iconst (v := 1) hx hb dX0_waits_18 (by decide) ?_
          refine lv_goto (tgt := 23) hx hb dX0_waits_19 (by decide) ?_
          exact W.zret (v := 1) (ty := .boolean) hx hb hr rfl (fun t ht hW => ⟨⟨1, (S, D, R, K, pc, sc, ph, rd, th, lm, dy, wt), rfl, ⟨Or.inl ⟨rfl, a_4, a_9⟩, rfl⟩, by rw [ht]; exact hP, va_K.moved hW.alike hK, hD⟩, hS.F ht⟩) hS.2.2 dX0_waits_23
      · refine lv_if_eq (tgt := 22) hx hb dX0_waits_15 (by decide) (fun c_11 => ?_) (fun c_11 => ?_)
        · refine lv_iconst (v := 0) hx hb dX0_waits_22 (by decide) ?_
          exact W.zret (v := 0) (ty := .boolean) hx hb hr rfl (fun t ht hW => ⟨⟨0, (S, D, R, K, pc, sc, ph, rd, th, lm, dy, wt), rfl, ⟨Or.inr ⟨rfl, fun h => a_9 h.2⟩, rfl⟩, by rw [ht]; exact hP, va_K.moved hW.alike hK, hD⟩, hS.F ht⟩) hS.2.2 dX0_waits_23
        · exact absurd c_11 (by decide)
  · refine lv_if_eq (tgt := 22) hx hb dX0_waits_4 (by decide) (fun c_12 => ?_) (fun c_12 => ?_)
    · refine lv_iconst (v := 0) hx hb dX0_waits_22 (by decide) ?_
      exact W.zret (v := 0) (ty := .boolean) hx hb hr rfl (fun t ht hW => ⟨⟨0, (S, D, R, K, pc, sc, ph, rd, th, lm, dy, wt), rfl, ⟨Or.inr ⟨rfl, fun h => a_4 h.1⟩, rfl⟩, by rw [ht]; exact hP, va_K.moved hW.alike hK, hD⟩, hS.F ht⟩) hS.2.2 dX0_waits_23
    · exact absurd c_12 (by decide)
theorem inw_X0_source : ∀ w ∈ wsX00, w ∈ wsX0_source := fun _ h => List.mem_cons_of_mem _ (List.mem_append_right _ h)
set_option maxHeartbeats 4000000 in
set_option maxRecDepth 100000 in
theorem c_X0_source (l : Launch) (dC : Nat → ClassId) (dI : Nat → Nat → Nat) (h0 q1 q2 q3 q4 : Nat) (cA : ClassId) (S D R K : Nat → Int32) (pc sc ph rd th lm dy wt : Int32) (a : Int32) (sz : Nat) : Met l yX0_source wsX0_source ({ frames := 1, cells := 0, slots := 0, locals := 20 }) (va_Pc [.ref h0, .int a] (fun U => U.heap.size = sz ∧ va_P (dC, dI) vwCl (mg_W h0 q1 q2 q3 q4 cA (S, D, R, K, pc, sc, ph, rd, th, lm, dy, wt)) U.heap ∧ va_K (dC, dI) vwCl [(cA, .int)] U ∧ va_D (fun _ => True) (mg_W h0 q1 q2 q3 q4 cA (S, D, R, K, pc, sc, ph, rd, th, lm, dy, wt)))) (va_Qi (fun (r : Int32) (u : mgS) => ((mg_ia a ∧ r = S a.toNatClampNeg) ∨ (r = 0 ∧ ¬ mg_ia a)) ∧ u = (S, D, R, K, pc, sc, ph, rd, th, lm, dy, wt)) (at_mg dC dI h0 q1 q2 q3 q4 cA (va_A (mg_W h0 q1 q2 q3 q4 cA (S, D, R, K, pc, sc, ph, rd, th, lm, dy, wt)) sz)) (va_A (mg_W h0 q1 q2 q3 q4 cA (S, D, R, K, pc, sc, ph, rd, th, lm, dy, wt)) sz)) 0 0 (va_A (mg_W h0 q1 q2 q3 q4 cA (S, D, R, K, pc, sc, ph, rd, th, lm, dy, wt)) sz) := by
  refine Met.ofW (cc := cX0_source) (maxL := 2) (ret := (some .int)) (by decide) rfl ?_
  intro p e s m args below meth c s₁ B hml hv
  obtain ⟨rfl, hsz, hP, hK, hD0⟩ := hv
  have hx := B.exec
  have hb := B.bytes
  have hr := B.returns
  have hts := atoms_spec (ws := wsX0_source) B.pre
  have hown : s.vm.findClass RX0 = some m.cls := findClass_of_methodNamed B.named
  have hlocks := B.notSynchronized
  subst hsz
  have hD := hD0.self (sz := s.heap.size)
  generalize hAe : va_A (mg_W h0 q1 q2 q3 q4 cA (S, D, R, K, pc, sc, ph, rd, th, lm, dy, wt)) s.heap.size = A at hD ⊢
  have hA : ∀ q : Nat, s.heap.size ≤ q → A q := fun q h => by rw [← hAe]; exact Or.inr h
  have hS : va_S A s.heap s.heap [] := va_S.rf
  have hP : va_P (dC, dI) vwCl [(h0, .inr (0, [.ref q1, .ref q2, .ref q3, .ref q4, .int pc, .int sc, .int ph, .int rd, .int th, .int lm, .int dy, .int wt])), (q1, .inl (cA, 64, .inl S)), (q2, .inl (cA, 64, .inl D)), (q3, .inl (cA, 4, .inl R)), (q4, .inl (cA, 8, .inl K))] s.heap := hP
  have hD : va_D A [(h0, .inr (0, [.ref q1, .ref q2, .ref q3, .ref q4, .int pc, .int sc, .int ph, .int rd, .int th, .int lm, .int dy, .int wt])), (q1, .inl (cA, 64, .inl S)), (q2, .inl (cA, 64, .inl D)), (q3, .inl (cA, 4, .inl R)), (q4, .inl (cA, 8, .inl K))] := hD
  have hl := lv_entry ([.ref h0, .int a]) (n := 2) (Nat.le_of_ble_eq_true rfl)
  rw [lg_entry_eq]
  generalize (lg_sl ([.ref h0, .int a]) ++ List.replicate (2 - (lg_sl ([.ref h0, .int a])).length) Slot.unset).toArray = ls at hl ⊢
  have hl : lv_has ls 2 [(0, .ref h0), (1, .int a)] := hl
  refine lv_iload_n hx hb dX0_source_0 rfl (lv_at hl 1 rfl) ?_
  have hPc := hP.sub (ws' := []) [] rfl
  have hDc := hD.sub (ws' := []) [] (by decide) rfl
  have hKc := hK.sub (tys' := []) [] rfl
  have hFc := va_free (wc := []) hD hS hA [] rfl
  refine va_calli (va_runS (As := [.int a]) (rest := []) ⟨hx, hb, hml, hown, hts⟩ (c_X0_isAddress l dC dI a s.heap.size) (va_cwS 1 hts gX0_source_X0_isAddress rfl rfl rfl (by decide +kernel) ⟨Nat.le_of_ble_eq_true rfl, Nat.le_of_ble_eq_true rfl⟩) ⟨fun a U g mk q => by obtain ⟨q0, q1, qP, qK, qD⟩ := q; exact ⟨q0, q1, qP, va_K.moved (u := U) (U := U.calling g mk a) (Vm.Alike.refl U.vm) qK, qD⟩, fun U hU hW => ⟨rfl, by rw [hU], by rw [hU]; exact hPc, va_K.moved hW.alike hKc, hDc.weaken (fun _ _ _ _ => trivial)⟩⟩ rfl rfl hl.1 rfl (lv_room (Nat.le_of_ble_eq_true rfl)) dX0_source_1 ⟨(Nat.zero_le _), (Nat.zero_le _)⟩) hS (fun q _ h => hFc q h) hFc (fun r_1 u_2 t H1 locs ht hvm w_3 hB hz1 hk1 hS => ?_)
  obtain ⟨hP1, hK1, hD1⟩ := hB
  rw [ht] at hP1
  obtain ⟨hP, hD⟩ := va_join (wr := [(h0, .inr (0, [.ref q1, .ref q2, .ref q3, .ref q4, .int pc, .int sc, .int ph, .int rd, .int th, .int lm, .int dy, .int wt])), (q1, .inl (cA, 64, .inl S)), (q2, .inl (cA, 64, .inl D)), (q3, .inl (cA, 4, .inl R)), (q4, .inl (cA, 8, .inl K))]) (w1 := []) hP hD [] [0, 1, 2, 3, 4] rfl rfl (by decide) (by decide) hk1 hFc hP1 hD1
  clear hPc hDc hFc hP1 hD1 hk1 hK1
  generalize H1 = H at hP hS ⊢
  have hP : va_P (dC, dI) vwCl [(h0, .inr (0, [.ref q1, .ref q2, .ref q3, .ref q4, .int pc, .int sc, .int ph, .int rd, .int th, .int lm, .int dy, .int wt])), (q1, .inl (cA, 64, .inl S)), (q2, .inl (cA, 64, .inl D)), (q3, .inl (cA, 4, .inl R)), (q4, .inl (cA, 8, .inl K))] H := hP
  have hD : va_D A [(h0, .inr (0, [.ref q1, .ref q2, .ref q3, .ref q4, .int pc, .int sc, .int ph, .int rd, .int th, .int lm, .int dy, .int wt])), (q1, .inl (cA, 64, .inl S)), (q2, .inl (cA, 64, .inl D)), (q3, .inl (cA, 4, .inl R)), (q4, .inl (cA, 8, .inl K))] := hD
  rcases w_3 with ⟨rfl, a_4⟩ | ⟨rfl, a_4⟩
  · refine lv_if_eq (tgt := 16) hx hb dX0_source_4 (by decide) (fun c_5 => ?_) (fun c_5 => ?_)
    · exact absurd c_5 (by decide)
    · refine lv_aload_n hx hb dX0_source_7 rfl (lv_at hl 0 rfl) ?_
      refine va_get (D := (dC, dI)) (ci := 0) (v := .ref q1) (C := RX0) (T := TX0) (N := 12) hx hb hts inw_X0_source hown hK hP 0 rfl rfl 0 (by decide) (hts (.fieldLink RX0 9 "Migrator" "sourceWords" "[I") (by decide +kernel)) (fun _ h9 => h9) rfl dX0_source_8 ?_
      refine lv_iload_n hx hb dX0_source_11 rfl (lv_at hl 1 rfl) ?_
      refine va_iald hx hb hK hP 1 0 rfl rfl (in_lt (y := 64) (by decide) a_4.1 a_4.2) dX0_source_12 ?_
      refine lv_goto (tgt := 17) hx hb dX0_source_13 (by decide) ?_
      exact W.iret (v := S a.toNatClampNeg) hx hb hr (fun t ht hW => ⟨⟨S a.toNatClampNeg, (S, D, R, K, pc, sc, ph, rd, th, lm, dy, wt), rfl, ⟨Or.inl ⟨a_4, rfl⟩, rfl⟩, by rw [ht]; exact hP, va_K.moved hW.alike hK, hD⟩, hS.F ht⟩) hS.2.2 dX0_source_17
  · refine lv_if_eq (tgt := 16) hx hb dX0_source_4 (by decide) (fun c_6 => ?_) (fun c_6 => ?_)
    · refine lv_iconst (v := 0) hx hb dX0_source_16 (by decide) ?_
      exact W.iret (v := 0) hx hb hr (fun t ht hW => ⟨⟨0, (S, D, R, K, pc, sc, ph, rd, th, lm, dy, wt), rfl, ⟨Or.inr ⟨rfl, a_4⟩, rfl⟩, by rw [ht]; exact hP, va_K.moved hW.alike hK, hD⟩, hS.F ht⟩) hS.2.2 dX0_source_17
    · exact absurd c_6 (by decide)
theorem inw_X0_destination : ∀ w ∈ wsX00, w ∈ wsX0_destination := fun _ h => List.mem_cons_of_mem _ (List.mem_append_right _ h)
set_option maxHeartbeats 4000000 in
set_option maxRecDepth 100000 in
theorem c_X0_destination (l : Launch) (dC : Nat → ClassId) (dI : Nat → Nat → Nat) (h0 q1 q2 q3 q4 : Nat) (cA : ClassId) (S D R K : Nat → Int32) (pc sc ph rd th lm dy wt : Int32) (a : Int32) (sz : Nat) : Met l yX0_destination wsX0_destination ({ frames := 1, cells := 0, slots := 0, locals := 20 }) (va_Pc [.ref h0, .int a] (fun U => U.heap.size = sz ∧ va_P (dC, dI) vwCl (mg_W h0 q1 q2 q3 q4 cA (S, D, R, K, pc, sc, ph, rd, th, lm, dy, wt)) U.heap ∧ va_K (dC, dI) vwCl [(cA, .int)] U ∧ va_D (fun _ => True) (mg_W h0 q1 q2 q3 q4 cA (S, D, R, K, pc, sc, ph, rd, th, lm, dy, wt)))) (va_Qi (fun (r : Int32) (u : mgS) => ((mg_ia a ∧ r = D a.toNatClampNeg) ∨ (r = 0 ∧ ¬ mg_ia a)) ∧ u = (S, D, R, K, pc, sc, ph, rd, th, lm, dy, wt)) (at_mg dC dI h0 q1 q2 q3 q4 cA (va_A (mg_W h0 q1 q2 q3 q4 cA (S, D, R, K, pc, sc, ph, rd, th, lm, dy, wt)) sz)) (va_A (mg_W h0 q1 q2 q3 q4 cA (S, D, R, K, pc, sc, ph, rd, th, lm, dy, wt)) sz)) 0 0 (va_A (mg_W h0 q1 q2 q3 q4 cA (S, D, R, K, pc, sc, ph, rd, th, lm, dy, wt)) sz) := by
  refine Met.ofW (cc := cX0_destination) (maxL := 2) (ret := (some .int)) (by decide) rfl ?_
  intro p e s m args below meth c s₁ B hml hv
  obtain ⟨rfl, hsz, hP, hK, hD0⟩ := hv
  have hx := B.exec
  have hb := B.bytes
  have hr := B.returns
  have hts := atoms_spec (ws := wsX0_destination) B.pre
  have hown : s.vm.findClass RX0 = some m.cls := findClass_of_methodNamed B.named
  have hlocks := B.notSynchronized
  subst hsz
  have hD := hD0.self (sz := s.heap.size)
  generalize hAe : va_A (mg_W h0 q1 q2 q3 q4 cA (S, D, R, K, pc, sc, ph, rd, th, lm, dy, wt)) s.heap.size = A at hD ⊢
  have hA : ∀ q : Nat, s.heap.size ≤ q → A q := fun q h => by rw [← hAe]; exact Or.inr h
  have hS : va_S A s.heap s.heap [] := va_S.rf
  have hP : va_P (dC, dI) vwCl [(h0, .inr (0, [.ref q1, .ref q2, .ref q3, .ref q4, .int pc, .int sc, .int ph, .int rd, .int th, .int lm, .int dy, .int wt])), (q1, .inl (cA, 64, .inl S)), (q2, .inl (cA, 64, .inl D)), (q3, .inl (cA, 4, .inl R)), (q4, .inl (cA, 8, .inl K))] s.heap := hP
  have hD : va_D A [(h0, .inr (0, [.ref q1, .ref q2, .ref q3, .ref q4, .int pc, .int sc, .int ph, .int rd, .int th, .int lm, .int dy, .int wt])), (q1, .inl (cA, 64, .inl S)), (q2, .inl (cA, 64, .inl D)), (q3, .inl (cA, 4, .inl R)), (q4, .inl (cA, 8, .inl K))] := hD
  have hl := lv_entry ([.ref h0, .int a]) (n := 2) (Nat.le_of_ble_eq_true rfl)
  rw [lg_entry_eq]
  generalize (lg_sl ([.ref h0, .int a]) ++ List.replicate (2 - (lg_sl ([.ref h0, .int a])).length) Slot.unset).toArray = ls at hl ⊢
  have hl : lv_has ls 2 [(0, .ref h0), (1, .int a)] := hl
  refine lv_iload_n hx hb dX0_destination_0 rfl (lv_at hl 1 rfl) ?_
  have hPc := hP.sub (ws' := []) [] rfl
  have hDc := hD.sub (ws' := []) [] (by decide) rfl
  have hKc := hK.sub (tys' := []) [] rfl
  have hFc := va_free (wc := []) hD hS hA [] rfl
  refine va_calli (va_runS (As := [.int a]) (rest := []) ⟨hx, hb, hml, hown, hts⟩ (c_X0_isAddress l dC dI a s.heap.size) (va_cwS 1 hts gX0_destination_X0_isAddress rfl rfl rfl (by decide +kernel) ⟨Nat.le_of_ble_eq_true rfl, Nat.le_of_ble_eq_true rfl⟩) ⟨fun a U g mk q => by obtain ⟨q0, q1, qP, qK, qD⟩ := q; exact ⟨q0, q1, qP, va_K.moved (u := U) (U := U.calling g mk a) (Vm.Alike.refl U.vm) qK, qD⟩, fun U hU hW => ⟨rfl, by rw [hU], by rw [hU]; exact hPc, va_K.moved hW.alike hKc, hDc.weaken (fun _ _ _ _ => trivial)⟩⟩ rfl rfl hl.1 rfl (lv_room (Nat.le_of_ble_eq_true rfl)) dX0_destination_1 ⟨(Nat.zero_le _), (Nat.zero_le _)⟩) hS (fun q _ h => hFc q h) hFc (fun r_1 u_2 t H1 locs ht hvm w_3 hB hz1 hk1 hS => ?_)
  obtain ⟨hP1, hK1, hD1⟩ := hB
  rw [ht] at hP1
  obtain ⟨hP, hD⟩ := va_join (wr := [(h0, .inr (0, [.ref q1, .ref q2, .ref q3, .ref q4, .int pc, .int sc, .int ph, .int rd, .int th, .int lm, .int dy, .int wt])), (q1, .inl (cA, 64, .inl S)), (q2, .inl (cA, 64, .inl D)), (q3, .inl (cA, 4, .inl R)), (q4, .inl (cA, 8, .inl K))]) (w1 := []) hP hD [] [0, 1, 2, 3, 4] rfl rfl (by decide) (by decide) hk1 hFc hP1 hD1
  clear hPc hDc hFc hP1 hD1 hk1 hK1
  generalize H1 = H at hP hS ⊢
  have hP : va_P (dC, dI) vwCl [(h0, .inr (0, [.ref q1, .ref q2, .ref q3, .ref q4, .int pc, .int sc, .int ph, .int rd, .int th, .int lm, .int dy, .int wt])), (q1, .inl (cA, 64, .inl S)), (q2, .inl (cA, 64, .inl D)), (q3, .inl (cA, 4, .inl R)), (q4, .inl (cA, 8, .inl K))] H := hP
  have hD : va_D A [(h0, .inr (0, [.ref q1, .ref q2, .ref q3, .ref q4, .int pc, .int sc, .int ph, .int rd, .int th, .int lm, .int dy, .int wt])), (q1, .inl (cA, 64, .inl S)), (q2, .inl (cA, 64, .inl D)), (q3, .inl (cA, 4, .inl R)), (q4, .inl (cA, 8, .inl K))] := hD
  rcases w_3 with ⟨rfl, a_4⟩ | ⟨rfl, a_4⟩
  · refine lv_if_eq (tgt := 16) hx hb dX0_destination_4 (by decide) (fun c_5 => ?_) (fun c_5 => ?_)
    · exact absurd c_5 (by decide)
    · refine lv_aload_n hx hb dX0_destination_7 rfl (lv_at hl 0 rfl) ?_
      refine va_get (D := (dC, dI)) (ci := 0) (v := .ref q2) (C := RX0) (T := TX0) (N := 12) hx hb hts inw_X0_destination hown hK hP 0 rfl rfl 1 (by decide) (hts (.fieldLink RX0 13 "Migrator" "destinationWords" "[I") (by decide +kernel)) (fun _ h9 => h9) rfl dX0_destination_8 ?_
      refine lv_iload_n hx hb dX0_destination_11 rfl (lv_at hl 1 rfl) ?_
      refine va_iald hx hb hK hP 2 0 rfl rfl (in_lt (y := 64) (by decide) a_4.1 a_4.2) dX0_destination_12 ?_
      refine lv_goto (tgt := 17) hx hb dX0_destination_13 (by decide) ?_
      exact W.iret (v := D a.toNatClampNeg) hx hb hr (fun t ht hW => ⟨⟨D a.toNatClampNeg, (S, D, R, K, pc, sc, ph, rd, th, lm, dy, wt), rfl, ⟨Or.inl ⟨a_4, rfl⟩, rfl⟩, by rw [ht]; exact hP, va_K.moved hW.alike hK, hD⟩, hS.F ht⟩) hS.2.2 dX0_destination_17
  · refine lv_if_eq (tgt := 16) hx hb dX0_destination_4 (by decide) (fun c_6 => ?_) (fun c_6 => ?_)
    · refine lv_iconst (v := 0) hx hb dX0_destination_16 (by decide) ?_
      exact W.iret (v := 0) hx hb hr (fun t ht hW => ⟨⟨0, (S, D, R, K, pc, sc, ph, rd, th, lm, dy, wt), rfl, ⟨Or.inr ⟨rfl, a_4⟩, rfl⟩, by rw [ht]; exact hP, va_K.moved hW.alike hK, hD⟩, hS.F ht⟩) hS.2.2 dX0_destination_17
    · exact absurd c_6 (by decide)
theorem inw_X0_register : ∀ w ∈ wsX00, w ∈ wsX0_register := fun _ h => List.mem_cons_of_mem _ (List.mem_append_right _ h)
set_option maxHeartbeats 4000000 in
set_option maxRecDepth 100000 in
theorem c_X0_register (l : Launch) (dC : Nat → ClassId) (dI : Nat → Nat → Nat) (h0 q1 q2 q3 q4 : Nat) (cA : ClassId) (S D R K : Nat → Int32) (pc sc ph rd th lm dy wt : Int32) (a : Int32) (sz : Nat) : Met l yX0_register wsX0_register ({ frames := 0, cells := 0, slots := 0, locals := 0 }) (va_Pc [.ref h0, .int a] (fun U => U.heap.size = sz ∧ va_P (dC, dI) vwCl (mg_W h0 q1 q2 q3 q4 cA (S, D, R, K, pc, sc, ph, rd, th, lm, dy, wt)) U.heap ∧ va_K (dC, dI) vwCl [(cA, .int)] U ∧ va_D (fun _ => True) (mg_W h0 q1 q2 q3 q4 cA (S, D, R, K, pc, sc, ph, rd, th, lm, dy, wt)))) (va_Qi (fun (r : Int32) (u : mgS) => ((¬ a < 0 ∧ ¬ 4 ≤ a ∧ r = R a.toNatClampNeg) ∨ (r = 0 ∧ (a < 0 ∨ 4 ≤ a))) ∧ u = (S, D, R, K, pc, sc, ph, rd, th, lm, dy, wt)) (at_mg dC dI h0 q1 q2 q3 q4 cA (va_A (mg_W h0 q1 q2 q3 q4 cA (S, D, R, K, pc, sc, ph, rd, th, lm, dy, wt)) sz)) (va_A (mg_W h0 q1 q2 q3 q4 cA (S, D, R, K, pc, sc, ph, rd, th, lm, dy, wt)) sz)) 0 0 (va_A (mg_W h0 q1 q2 q3 q4 cA (S, D, R, K, pc, sc, ph, rd, th, lm, dy, wt)) sz) := by
  refine Met.ofW (cc := cX0_register) (maxL := 2) (ret := (some .int)) (by decide) rfl ?_
  intro p e s m args below meth c s₁ B hml hv
  obtain ⟨rfl, hsz, hP, hK, hD0⟩ := hv
  have hx := B.exec
  have hb := B.bytes
  have hr := B.returns
  have hts := atoms_spec (ws := wsX0_register) B.pre
  have hown : s.vm.findClass RX0 = some m.cls := findClass_of_methodNamed B.named
  have hlocks := B.notSynchronized
  subst hsz
  have hD := hD0.self (sz := s.heap.size)
  generalize hAe : va_A (mg_W h0 q1 q2 q3 q4 cA (S, D, R, K, pc, sc, ph, rd, th, lm, dy, wt)) s.heap.size = A at hD ⊢
  have hA : ∀ q : Nat, s.heap.size ≤ q → A q := fun q h => by rw [← hAe]; exact Or.inr h
  have hS : va_S A s.heap s.heap [] := va_S.rf
  have hP : va_P (dC, dI) vwCl [(h0, .inr (0, [.ref q1, .ref q2, .ref q3, .ref q4, .int pc, .int sc, .int ph, .int rd, .int th, .int lm, .int dy, .int wt])), (q1, .inl (cA, 64, .inl S)), (q2, .inl (cA, 64, .inl D)), (q3, .inl (cA, 4, .inl R)), (q4, .inl (cA, 8, .inl K))] s.heap := hP
  have hD : va_D A [(h0, .inr (0, [.ref q1, .ref q2, .ref q3, .ref q4, .int pc, .int sc, .int ph, .int rd, .int th, .int lm, .int dy, .int wt])), (q1, .inl (cA, 64, .inl S)), (q2, .inl (cA, 64, .inl D)), (q3, .inl (cA, 4, .inl R)), (q4, .inl (cA, 8, .inl K))] := hD
  have hl := lv_entry ([.ref h0, .int a]) (n := 2) (Nat.le_of_ble_eq_true rfl)
  rw [lg_entry_eq]
  generalize (lg_sl ([.ref h0, .int a]) ++ List.replicate (2 - (lg_sl ([.ref h0, .int a])).length) Slot.unset).toArray = ls at hl ⊢
  have hl : lv_has ls 2 [(0, .ref h0), (1, .int a)] := hl
  refine lv_iload_n hx hb dX0_register_0 rfl (lv_at hl 1 rfl) ?_
  refine lv_if_lt (tgt := 18) hx hb dX0_register_1 (by decide) (fun c_1 => ?_) (fun c_1 => ?_)
  · refine lv_iconst (v := 0) hx hb dX0_register_18 (by decide) ?_
    exact W.iret (v := 0) hx hb hr (fun t ht hW => ⟨⟨0, (S, D, R, K, pc, sc, ph, rd, th, lm, dy, wt), rfl, ⟨Or.inr ⟨rfl, Or.inl c_1⟩, rfl⟩, by rw [ht]; exact hP, va_K.moved hW.alike hK, hD⟩, hS.F ht⟩) hS.2.2 dX0_register_19
  · refine lv_iload_n hx hb dX0_register_4 rfl (lv_at hl 1 rfl) ?_
    refine lv_iconst (v := 4) hx hb dX0_register_5 (by decide) ?_
    refine lv_icmp_ge (tgt := 18) hx hb dX0_register_6 (by decide) (fun c_2 => ?_) (fun c_2 => ?_)
    · refine lv_iconst (v := 0) hx hb dX0_register_18 (by decide) ?_
      exact W.iret (v := 0) hx hb hr (fun t ht hW => ⟨⟨0, (S, D, R, K, pc, sc, ph, rd, th, lm, dy, wt), rfl, ⟨Or.inr ⟨rfl, Or.inr c_2⟩, rfl⟩, by rw [ht]; exact hP, va_K.moved hW.alike hK, hD⟩, hS.F ht⟩) hS.2.2 dX0_register_19
    · refine lv_aload_n hx hb dX0_register_9 rfl (lv_at hl 0 rfl) ?_
      refine va_get (D := (dC, dI)) (ci := 0) (v := .ref q3) (C := RX0) (T := TX0) (N := 12) hx hb hts inw_X0_register hown hK hP 0 rfl rfl 2 (by decide) (hts (.fieldLink RX0 16 "Migrator" "registers" "[I") (by decide +kernel)) (fun _ h9 => h9) rfl dX0_register_10 ?_
      refine lv_iload_n hx hb dX0_register_13 rfl (lv_at hl 1 rfl) ?_
      refine va_iald hx hb hK hP 3 0 rfl rfl (in_lt (y := 4) (by decide) c_1 c_2) dX0_register_14 ?_
      refine lv_goto (tgt := 19) hx hb dX0_register_15 (by decide) ?_
      exact W.iret (v := R a.toNatClampNeg) hx hb hr (fun t ht hW => ⟨⟨R a.toNatClampNeg, (S, D, R, K, pc, sc, ph, rd, th, lm, dy, wt), rfl, ⟨Or.inl ⟨c_1, c_2, rfl⟩, rfl⟩, by rw [ht]; exact hP, va_K.moved hW.alike hK, hD⟩, hS.F ht⟩) hS.2.2 dX0_register_19
theorem inw_X0_shown : ∀ w ∈ wsX00, w ∈ wsX0_shown := fun _ h => List.mem_cons_of_mem _ (List.mem_append_right _ h)
set_option maxHeartbeats 4000000 in
set_option maxRecDepth 100000 in
theorem c_X0_shown (l : Launch) (dC : Nat → ClassId) (dI : Nat → Nat → Nat) (h0 q1 q2 q3 q4 : Nat) (cA : ClassId) (S D R K : Nat → Int32) (pc sc ph rd th lm dy wt : Int32) (a : Int32) (sz : Nat) : Met l yX0_shown wsX0_shown ({ frames := 0, cells := 0, slots := 0, locals := 0 }) (va_Pc [.ref h0, .int a] (fun U => U.heap.size = sz ∧ va_P (dC, dI) vwCl (mg_W h0 q1 q2 q3 q4 cA (S, D, R, K, pc, sc, ph, rd, th, lm, dy, wt)) U.heap ∧ va_K (dC, dI) vwCl [(cA, .int)] U ∧ va_D (fun _ => True) (mg_W h0 q1 q2 q3 q4 cA (S, D, R, K, pc, sc, ph, rd, th, lm, dy, wt)))) (va_Qi (fun (r : Int32) (u : mgS) => ((¬ a < 0 ∧ ¬ 8 ≤ a ∧ ¬ sc ≤ a ∧ r = K (((sc - 1) - a) &&& 7).toNatClampNeg) ∨ (r = 0 ∧ (a < 0 ∨ 8 ≤ a ∨ sc ≤ a))) ∧ u = (S, D, R, K, pc, sc, ph, rd, th, lm, dy, wt)) (at_mg dC dI h0 q1 q2 q3 q4 cA (va_A (mg_W h0 q1 q2 q3 q4 cA (S, D, R, K, pc, sc, ph, rd, th, lm, dy, wt)) sz)) (va_A (mg_W h0 q1 q2 q3 q4 cA (S, D, R, K, pc, sc, ph, rd, th, lm, dy, wt)) sz)) 0 0 (va_A (mg_W h0 q1 q2 q3 q4 cA (S, D, R, K, pc, sc, ph, rd, th, lm, dy, wt)) sz) := by
  refine Met.ofW (cc := cX0_shown) (maxL := 2) (ret := (some .int)) (by decide) rfl ?_
  intro p e s m args below meth c s₁ B hml hv
  obtain ⟨rfl, hsz, hP, hK, hD0⟩ := hv
  have hx := B.exec
  have hb := B.bytes
  have hr := B.returns
  have hts := atoms_spec (ws := wsX0_shown) B.pre
  have hown : s.vm.findClass RX0 = some m.cls := findClass_of_methodNamed B.named
  have hlocks := B.notSynchronized
  subst hsz
  have hD := hD0.self (sz := s.heap.size)
  generalize hAe : va_A (mg_W h0 q1 q2 q3 q4 cA (S, D, R, K, pc, sc, ph, rd, th, lm, dy, wt)) s.heap.size = A at hD ⊢
  have hA : ∀ q : Nat, s.heap.size ≤ q → A q := fun q h => by rw [← hAe]; exact Or.inr h
  have hS : va_S A s.heap s.heap [] := va_S.rf
  have hP : va_P (dC, dI) vwCl [(h0, .inr (0, [.ref q1, .ref q2, .ref q3, .ref q4, .int pc, .int sc, .int ph, .int rd, .int th, .int lm, .int dy, .int wt])), (q1, .inl (cA, 64, .inl S)), (q2, .inl (cA, 64, .inl D)), (q3, .inl (cA, 4, .inl R)), (q4, .inl (cA, 8, .inl K))] s.heap := hP
  have hD : va_D A [(h0, .inr (0, [.ref q1, .ref q2, .ref q3, .ref q4, .int pc, .int sc, .int ph, .int rd, .int th, .int lm, .int dy, .int wt])), (q1, .inl (cA, 64, .inl S)), (q2, .inl (cA, 64, .inl D)), (q3, .inl (cA, 4, .inl R)), (q4, .inl (cA, 8, .inl K))] := hD
  have hl := lv_entry ([.ref h0, .int a]) (n := 2) (Nat.le_of_ble_eq_true rfl)
  rw [lg_entry_eq]
  generalize (lg_sl ([.ref h0, .int a]) ++ List.replicate (2 - (lg_sl ([.ref h0, .int a])).length) Slot.unset).toArray = ls at hl ⊢
  have hl : lv_has ls 2 [(0, .ref h0), (1, .int a)] := hl
  refine lv_iload_n hx hb dX0_shown_0 rfl (lv_at hl 1 rfl) ?_
  refine lv_if_lt (tgt := 18) hx hb dX0_shown_1 (by decide) (fun c_1 => ?_) (fun c_1 => ?_)
  · refine lv_iconst (v := 0) hx hb dX0_shown_18 (by decide) ?_
    exact W.iret (v := 0) hx hb hr (fun t ht hW => ⟨⟨0, (S, D, R, K, pc, sc, ph, rd, th, lm, dy, wt), rfl, ⟨Or.inr ⟨rfl, Or.inl c_1⟩, rfl⟩, by rw [ht]; exact hP, va_K.moved hW.alike hK, hD⟩, hS.F ht⟩) hS.2.2 dX0_shown_19
  · refine lv_iload_n hx hb dX0_shown_4 rfl (lv_at hl 1 rfl) ?_
    refine lv_bipush (v := 8) hx hb dX0_shown_5 (by decide) ?_
    refine lv_icmp_ge (tgt := 18) hx hb dX0_shown_7 (by decide) (fun c_2 => ?_) (fun c_2 => ?_)
    · refine lv_iconst (v := 0) hx hb dX0_shown_18 (by decide) ?_
      exact W.iret (v := 0) hx hb hr (fun t ht hW => ⟨⟨0, (S, D, R, K, pc, sc, ph, rd, th, lm, dy, wt), rfl, ⟨Or.inr ⟨rfl, Or.inr (Or.inl c_2)⟩, rfl⟩, by rw [ht]; exact hP, va_K.moved hW.alike hK, hD⟩, hS.F ht⟩) hS.2.2 dX0_shown_19
    · refine lv_iload_n hx hb dX0_shown_10 rfl (lv_at hl 1 rfl) ?_
      refine lv_aload_n hx hb dX0_shown_11 rfl (lv_at hl 0 rfl) ?_
      refine va_get (D := (dC, dI)) (ci := 0) (v := .int sc) (C := RX0) (T := TX0) (N := 12) hx hb hts inw_X0_shown hown hK hP 0 rfl rfl 5 (by decide) (hts (.fieldLink RX0 26 "Migrator" "showCount" "I") (by decide +kernel)) (fun _ h9 => h9) rfl dX0_shown_12 ?_
      refine lv_icmp_lt (tgt := 20) hx hb dX0_shown_15 (by decide) (fun c_3 => ?_) (fun c_3 => ?_)
      · refine lv_aload_n hx hb dX0_shown_20 rfl (lv_at hl 0 rfl) ?_
        refine va_get (D := (dC, dI)) (ci := 0) (v := .ref q4) (C := RX0) (T := TX0) (N := 12) hx hb hts inw_X0_shown hown hK hP 0 rfl rfl 3 (by decide) (hts (.fieldLink RX0 19 "Migrator" "keptShows" "[I") (by decide +kernel)) (fun _ h9 => h9) rfl dX0_shown_21 ?_
        refine lv_aload_n hx hb dX0_shown_24 rfl (lv_at hl 0 rfl) ?_
        refine va_get (D := (dC, dI)) (ci := 0) (v := .int sc) (C := RX0) (T := TX0) (N := 12) hx hb hts inw_X0_shown hown hK hP 0 rfl rfl 5 (by decide) (hts (.fieldLink RX0 26 "Migrator" "showCount" "I") (by decide +kernel)) (fun _ h9 => h9) rfl dX0_shown_25 ?_
        refine lv_iconst (v := 1) hx hb dX0_shown_28 (by decide) ?_
        refine lv_isub hx hb dX0_shown_29 ?_
        refine lv_iload_n hx hb dX0_shown_30 rfl (lv_at hl 1 rfl) ?_
        refine lv_isub hx hb dX0_shown_31 ?_
        refine lv_bipush (v := 7) hx hb dX0_shown_32 (by decide) ?_
        refine lv_iand hx hb dX0_shown_34 ?_
        refine va_iald hx hb hK hP 4 0 rfl rfl (in_7 _) dX0_shown_35 ?_
        exact W.iret (v := K (((sc - 1) - a) &&& 7).toNatClampNeg) hx hb hr (fun t ht hW => ⟨⟨K (((sc - 1) - a) &&& 7).toNatClampNeg, (S, D, R, K, pc, sc, ph, rd, th, lm, dy, wt), rfl, ⟨Or.inl ⟨c_1, c_2, (Int32.not_le.mpr c_3), rfl⟩, rfl⟩, by rw [ht]; exact hP, va_K.moved hW.alike hK, hD⟩, hS.F ht⟩) hS.2.2 dX0_shown_36
      · refine lv_iconst (v := 0) hx hb dX0_shown_18 (by decide) ?_
        exact W.iret (v := 0) hx hb hr (fun t ht hW => ⟨⟨0, (S, D, R, K, pc, sc, ph, rd, th, lm, dy, wt), rfl, ⟨Or.inr ⟨rfl, Or.inr (Or.inr (Int32.not_lt.mp c_3))⟩, rfl⟩, by rw [ht]; exact hP, va_K.moved hW.alike hK, hD⟩, hS.F ht⟩) hS.2.2 dX0_shown_19
