theorem inw_X1_phase : ∀ w ∈ wsX10, w ∈ wsX1_phase := fun _ h => List.mem_cons_of_mem _ (List.mem_append_right _ h)
set_option maxHeartbeats 4000000 in
set_option maxRecDepth 100000 in
theorem c_X1_phase (l : Launch) (dC : Nat → ClassId) (dI : Nat → Nat → Nat) (h0 q1 q2 q3 q4 q5 q6 q7 q8 : Nat) (cA cJ cZ : ClassId) (M N C R : Nat → Int32) (G : Nat → Int64) (E F T : Nat → Int32) (pc ph rd th lm sh : Int32) (tm sn : Int64) (sz : Nat) : Met l yX1_phase wsX1_phase ({ frames := 0, cells := 0, slots := 0, locals := 0 }) (va_Pc [.ref h0] (fun U => U.heap.size = sz ∧ va_P (dC, dI) vwCl (mr_W h0 q1 q2 q3 q4 q5 q6 q7 q8 cA cJ cZ (M, N, C, R, G, E, F, T, pc, ph, rd, th, lm, sh, tm, sn)) U.heap ∧ va_K (dC, dI) vwCl [(cA, .int), (cJ, .long), (cZ, .boolean)] U ∧ va_D (fun _ => True) (mr_W h0 q1 q2 q3 q4 q5 q6 q7 q8 cA cJ cZ (M, N, C, R, G, E, F, T, pc, ph, rd, th, lm, sh, tm, sn)))) (va_Qi (fun (r : Int32) (u : mrS) => r = ph ∧ u = (M, N, C, R, G, E, F, T, pc, ph, rd, th, lm, sh, tm, sn)) (at_mr dC dI h0 q1 q2 q3 q4 q5 q6 q7 q8 cA cJ cZ (va_A (mr_W h0 q1 q2 q3 q4 q5 q6 q7 q8 cA cJ cZ (M, N, C, R, G, E, F, T, pc, ph, rd, th, lm, sh, tm, sn)) sz)) (va_A (mr_W h0 q1 q2 q3 q4 q5 q6 q7 q8 cA cJ cZ (M, N, C, R, G, E, F, T, pc, ph, rd, th, lm, sh, tm, sn)) sz)) 0 0 (va_A (mr_W h0 q1 q2 q3 q4 q5 q6 q7 q8 cA cJ cZ (M, N, C, R, G, E, F, T, pc, ph, rd, th, lm, sh, tm, sn)) sz) := by
  refine Met.ofW (cc := cX1_phase) (maxL := 1) (ret := (some .int)) (by decide) rfl ?_
  intro p e s m args below meth c s₁ B hml hv
  obtain ⟨rfl, hsz, hP, hK, hD0⟩ := hv
  have hx := B.exec
  have hb := B.bytes
  have hr := B.returns
  have hts := atoms_spec (ws := wsX1_phase) B.pre
  have hown : s.vm.findClass RX1 = some m.cls := findClass_of_methodNamed B.named
  have hlocks := B.notSynchronized
  subst hsz
  have hD := hD0.self (sz := s.heap.size)
  generalize hAe : va_A (mr_W h0 q1 q2 q3 q4 q5 q6 q7 q8 cA cJ cZ (M, N, C, R, G, E, F, T, pc, ph, rd, th, lm, sh, tm, sn)) s.heap.size = A at hD ⊢
  have hA : ∀ q : Nat, s.heap.size ≤ q → A q := fun q h => by rw [← hAe]; exact Or.inr h
  have hS : va_S A s.heap s.heap [] := va_S.rf
  have hP : va_P (dC, dI) vwCl [(h0, .inr (1, [.ref q1, .ref q2, .ref q3, .ref q4, .ref q5, .ref q6, .ref q7, .ref q8, .int pc, .int ph, .int rd, .int th, .int lm, .int sh, .long tm, .long sn])), (q1, .inl (cA, 64, .inl M)), (q2, .inl (cA, 64, .inl N)), (q3, .inl (cA, 64, .inl C)), (q4, .inl (cA, 4, .inl R)), (q5, .inl (cJ, 8, .inr (.inl G))), (q6, .inl (cZ, 8, .inl E)), (q7, .inl (cZ, 8, .inl F)), (q8, .inl (cA, 8, .inl T))] s.heap := hP
  have hD : va_D A [(h0, .inr (1, [.ref q1, .ref q2, .ref q3, .ref q4, .ref q5, .ref q6, .ref q7, .ref q8, .int pc, .int ph, .int rd, .int th, .int lm, .int sh, .long tm, .long sn])), (q1, .inl (cA, 64, .inl M)), (q2, .inl (cA, 64, .inl N)), (q3, .inl (cA, 64, .inl C)), (q4, .inl (cA, 4, .inl R)), (q5, .inl (cJ, 8, .inr (.inl G))), (q6, .inl (cZ, 8, .inl E)), (q7, .inl (cZ, 8, .inl F)), (q8, .inl (cA, 8, .inl T))] := hD
  have hl := lv_entry ([.ref h0]) (n := 1) (Nat.le_of_ble_eq_true rfl)
  rw [lg_entry_eq]
  generalize (lg_sl ([.ref h0]) ++ List.replicate (1 - (lg_sl ([.ref h0])).length) Slot.unset).toArray = ls at hl ⊢
  have hl : lv_has ls 1 [(0, .ref h0)] := hl
  refine lv_aload_n hx hb dX1_phase_0 rfl (lv_at hl 0 rfl) ?_
  refine va_get (D := (dC, dI)) (ci := 1) (v := .int ph) (C := RX1) (T := TX1) (N := 16) hx hb hts inw_X1_phase hown hK hP 0 rfl rfl 9 (by decide) (hts (.fieldLink RX1 36 "MigratorModel" "phase" "I") (by decide +kernel)) (fun _ h9 => h9) rfl dX1_phase_1 ?_
  exact W.iret (v := ph) hx hb hr (fun t ht hW => ⟨⟨ph, (M, N, C, R, G, E, F, T, pc, ph, rd, th, lm, sh, tm, sn), rfl, ⟨rfl, rfl⟩, by rw [ht]; exact hP, va_K.moved hW.alike hK, hD⟩, hS.F ht⟩) hS.2.2 dX1_phase_4
theorem inw_X1_round : ∀ w ∈ wsX10, w ∈ wsX1_round := fun _ h => List.mem_cons_of_mem _ (List.mem_append_right _ h)
set_option maxHeartbeats 4000000 in
set_option maxRecDepth 100000 in
theorem c_X1_round (l : Launch) (dC : Nat → ClassId) (dI : Nat → Nat → Nat) (h0 q1 q2 q3 q4 q5 q6 q7 q8 : Nat) (cA cJ cZ : ClassId) (M N C R : Nat → Int32) (G : Nat → Int64) (E F T : Nat → Int32) (pc ph rd th lm sh : Int32) (tm sn : Int64) (sz : Nat) : Met l yX1_round wsX1_round ({ frames := 0, cells := 0, slots := 0, locals := 0 }) (va_Pc [.ref h0] (fun U => U.heap.size = sz ∧ va_P (dC, dI) vwCl (mr_W h0 q1 q2 q3 q4 q5 q6 q7 q8 cA cJ cZ (M, N, C, R, G, E, F, T, pc, ph, rd, th, lm, sh, tm, sn)) U.heap ∧ va_K (dC, dI) vwCl [(cA, .int), (cJ, .long), (cZ, .boolean)] U ∧ va_D (fun _ => True) (mr_W h0 q1 q2 q3 q4 q5 q6 q7 q8 cA cJ cZ (M, N, C, R, G, E, F, T, pc, ph, rd, th, lm, sh, tm, sn)))) (va_Qi (fun (r : Int32) (u : mrS) => r = rd ∧ u = (M, N, C, R, G, E, F, T, pc, ph, rd, th, lm, sh, tm, sn)) (at_mr dC dI h0 q1 q2 q3 q4 q5 q6 q7 q8 cA cJ cZ (va_A (mr_W h0 q1 q2 q3 q4 q5 q6 q7 q8 cA cJ cZ (M, N, C, R, G, E, F, T, pc, ph, rd, th, lm, sh, tm, sn)) sz)) (va_A (mr_W h0 q1 q2 q3 q4 q5 q6 q7 q8 cA cJ cZ (M, N, C, R, G, E, F, T, pc, ph, rd, th, lm, sh, tm, sn)) sz)) 0 0 (va_A (mr_W h0 q1 q2 q3 q4 q5 q6 q7 q8 cA cJ cZ (M, N, C, R, G, E, F, T, pc, ph, rd, th, lm, sh, tm, sn)) sz) := by
  refine Met.ofW (cc := cX1_round) (maxL := 1) (ret := (some .int)) (by decide) rfl ?_
  intro p e s m args below meth c s₁ B hml hv
  obtain ⟨rfl, hsz, hP, hK, hD0⟩ := hv
  have hx := B.exec
  have hb := B.bytes
  have hr := B.returns
  have hts := atoms_spec (ws := wsX1_round) B.pre
  have hown : s.vm.findClass RX1 = some m.cls := findClass_of_methodNamed B.named
  have hlocks := B.notSynchronized
  subst hsz
  have hD := hD0.self (sz := s.heap.size)
  generalize hAe : va_A (mr_W h0 q1 q2 q3 q4 q5 q6 q7 q8 cA cJ cZ (M, N, C, R, G, E, F, T, pc, ph, rd, th, lm, sh, tm, sn)) s.heap.size = A at hD ⊢
  have hA : ∀ q : Nat, s.heap.size ≤ q → A q := fun q h => by rw [← hAe]; exact Or.inr h
  have hS : va_S A s.heap s.heap [] := va_S.rf
  have hP : va_P (dC, dI) vwCl [(h0, .inr (1, [.ref q1, .ref q2, .ref q3, .ref q4, .ref q5, .ref q6, .ref q7, .ref q8, .int pc, .int ph, .int rd, .int th, .int lm, .int sh, .long tm, .long sn])), (q1, .inl (cA, 64, .inl M)), (q2, .inl (cA, 64, .inl N)), (q3, .inl (cA, 64, .inl C)), (q4, .inl (cA, 4, .inl R)), (q5, .inl (cJ, 8, .inr (.inl G))), (q6, .inl (cZ, 8, .inl E)), (q7, .inl (cZ, 8, .inl F)), (q8, .inl (cA, 8, .inl T))] s.heap := hP
  have hD : va_D A [(h0, .inr (1, [.ref q1, .ref q2, .ref q3, .ref q4, .ref q5, .ref q6, .ref q7, .ref q8, .int pc, .int ph, .int rd, .int th, .int lm, .int sh, .long tm, .long sn])), (q1, .inl (cA, 64, .inl M)), (q2, .inl (cA, 64, .inl N)), (q3, .inl (cA, 64, .inl C)), (q4, .inl (cA, 4, .inl R)), (q5, .inl (cJ, 8, .inr (.inl G))), (q6, .inl (cZ, 8, .inl E)), (q7, .inl (cZ, 8, .inl F)), (q8, .inl (cA, 8, .inl T))] := hD
  have hl := lv_entry ([.ref h0]) (n := 1) (Nat.le_of_ble_eq_true rfl)
  rw [lg_entry_eq]
  generalize (lg_sl ([.ref h0]) ++ List.replicate (1 - (lg_sl ([.ref h0])).length) Slot.unset).toArray = ls at hl ⊢
  have hl : lv_has ls 1 [(0, .ref h0)] := hl
  refine lv_aload_n hx hb dX1_round_0 rfl (lv_at hl 0 rfl) ?_
  refine va_get (D := (dC, dI)) (ci := 1) (v := .int rd) (C := RX1) (T := TX1) (N := 16) hx hb hts inw_X1_round hown hK hP 0 rfl rfl 10 (by decide) (hts (.fieldLink RX1 46 "MigratorModel" "round" "I") (by decide +kernel)) (fun _ h9 => h9) rfl dX1_round_1 ?_
  exact W.iret (v := rd) hx hb hr (fun t ht hW => ⟨⟨rd, (M, N, C, R, G, E, F, T, pc, ph, rd, th, lm, sh, tm, sn), rfl, ⟨rfl, rfl⟩, by rw [ht]; exact hP, va_K.moved hW.alike hK, hD⟩, hS.F ht⟩) hS.2.2 dX1_round_4
theorem inw_X1_pc : ∀ w ∈ wsX10, w ∈ wsX1_pc := fun _ h => List.mem_cons_of_mem _ (List.mem_append_right _ h)
set_option maxHeartbeats 4000000 in
set_option maxRecDepth 100000 in
theorem c_X1_pc (l : Launch) (dC : Nat → ClassId) (dI : Nat → Nat → Nat) (h0 q1 q2 q3 q4 q5 q6 q7 q8 : Nat) (cA cJ cZ : ClassId) (M N C R : Nat → Int32) (G : Nat → Int64) (E F T : Nat → Int32) (pc ph rd th lm sh : Int32) (tm sn : Int64) (sz : Nat) : Met l yX1_pc wsX1_pc ({ frames := 0, cells := 0, slots := 0, locals := 0 }) (va_Pc [.ref h0] (fun U => U.heap.size = sz ∧ va_P (dC, dI) vwCl (mr_W h0 q1 q2 q3 q4 q5 q6 q7 q8 cA cJ cZ (M, N, C, R, G, E, F, T, pc, ph, rd, th, lm, sh, tm, sn)) U.heap ∧ va_K (dC, dI) vwCl [(cA, .int), (cJ, .long), (cZ, .boolean)] U ∧ va_D (fun _ => True) (mr_W h0 q1 q2 q3 q4 q5 q6 q7 q8 cA cJ cZ (M, N, C, R, G, E, F, T, pc, ph, rd, th, lm, sh, tm, sn)))) (va_Qi (fun (r : Int32) (u : mrS) => r = pc ∧ u = (M, N, C, R, G, E, F, T, pc, ph, rd, th, lm, sh, tm, sn)) (at_mr dC dI h0 q1 q2 q3 q4 q5 q6 q7 q8 cA cJ cZ (va_A (mr_W h0 q1 q2 q3 q4 q5 q6 q7 q8 cA cJ cZ (M, N, C, R, G, E, F, T, pc, ph, rd, th, lm, sh, tm, sn)) sz)) (va_A (mr_W h0 q1 q2 q3 q4 q5 q6 q7 q8 cA cJ cZ (M, N, C, R, G, E, F, T, pc, ph, rd, th, lm, sh, tm, sn)) sz)) 0 0 (va_A (mr_W h0 q1 q2 q3 q4 q5 q6 q7 q8 cA cJ cZ (M, N, C, R, G, E, F, T, pc, ph, rd, th, lm, sh, tm, sn)) sz) := by
  refine Met.ofW (cc := cX1_pc) (maxL := 1) (ret := (some .int)) (by decide) rfl ?_
  intro p e s m args below meth c s₁ B hml hv
  obtain ⟨rfl, hsz, hP, hK, hD0⟩ := hv
  have hx := B.exec
  have hb := B.bytes
  have hr := B.returns
  have hts := atoms_spec (ws := wsX1_pc) B.pre
  have hown : s.vm.findClass RX1 = some m.cls := findClass_of_methodNamed B.named
  have hlocks := B.notSynchronized
  subst hsz
  have hD := hD0.self (sz := s.heap.size)
  generalize hAe : va_A (mr_W h0 q1 q2 q3 q4 q5 q6 q7 q8 cA cJ cZ (M, N, C, R, G, E, F, T, pc, ph, rd, th, lm, sh, tm, sn)) s.heap.size = A at hD ⊢
  have hA : ∀ q : Nat, s.heap.size ≤ q → A q := fun q h => by rw [← hAe]; exact Or.inr h
  have hS : va_S A s.heap s.heap [] := va_S.rf
  have hP : va_P (dC, dI) vwCl [(h0, .inr (1, [.ref q1, .ref q2, .ref q3, .ref q4, .ref q5, .ref q6, .ref q7, .ref q8, .int pc, .int ph, .int rd, .int th, .int lm, .int sh, .long tm, .long sn])), (q1, .inl (cA, 64, .inl M)), (q2, .inl (cA, 64, .inl N)), (q3, .inl (cA, 64, .inl C)), (q4, .inl (cA, 4, .inl R)), (q5, .inl (cJ, 8, .inr (.inl G))), (q6, .inl (cZ, 8, .inl E)), (q7, .inl (cZ, 8, .inl F)), (q8, .inl (cA, 8, .inl T))] s.heap := hP
  have hD : va_D A [(h0, .inr (1, [.ref q1, .ref q2, .ref q3, .ref q4, .ref q5, .ref q6, .ref q7, .ref q8, .int pc, .int ph, .int rd, .int th, .int lm, .int sh, .long tm, .long sn])), (q1, .inl (cA, 64, .inl M)), (q2, .inl (cA, 64, .inl N)), (q3, .inl (cA, 64, .inl C)), (q4, .inl (cA, 4, .inl R)), (q5, .inl (cJ, 8, .inr (.inl G))), (q6, .inl (cZ, 8, .inl E)), (q7, .inl (cZ, 8, .inl F)), (q8, .inl (cA, 8, .inl T))] := hD
  have hl := lv_entry ([.ref h0]) (n := 1) (Nat.le_of_ble_eq_true rfl)
  rw [lg_entry_eq]
  generalize (lg_sl ([.ref h0]) ++ List.replicate (1 - (lg_sl ([.ref h0])).length) Slot.unset).toArray = ls at hl ⊢
  have hl : lv_has ls 1 [(0, .ref h0)] := hl
  refine lv_aload_n hx hb dX1_pc_0 rfl (lv_at hl 0 rfl) ?_
  refine va_get (D := (dC, dI)) (ci := 1) (v := .int pc) (C := RX1) (T := TX1) (N := 16) hx hb hts inw_X1_pc hown hK hP 0 rfl rfl 8 (by decide) (hts (.fieldLink RX1 56 "MigratorModel" "pc" "I") (by decide +kernel)) (fun _ h9 => h9) rfl dX1_pc_1 ?_
  exact W.iret (v := pc) hx hb hr (fun t ht hW => ⟨⟨pc, (M, N, C, R, G, E, F, T, pc, ph, rd, th, lm, sh, tm, sn), rfl, ⟨rfl, rfl⟩, by rw [ht]; exact hP, va_K.moved hW.alike hK, hD⟩, hS.F ht⟩) hS.2.2 dX1_pc_4
theorem inw_X1_shows : ∀ w ∈ wsX10, w ∈ wsX1_shows := fun _ h => List.mem_cons_of_mem _ (List.mem_append_right _ h)
set_option maxHeartbeats 4000000 in
set_option maxRecDepth 100000 in
theorem c_X1_shows (l : Launch) (dC : Nat → ClassId) (dI : Nat → Nat → Nat) (h0 q1 q2 q3 q4 q5 q6 q7 q8 : Nat) (cA cJ cZ : ClassId) (M N C R : Nat → Int32) (G : Nat → Int64) (E F T : Nat → Int32) (pc ph rd th lm sh : Int32) (tm sn : Int64) (sz : Nat) : Met l yX1_shows wsX1_shows ({ frames := 0, cells := 0, slots := 0, locals := 0 }) (va_Pc [.ref h0] (fun U => U.heap.size = sz ∧ va_P (dC, dI) vwCl (mr_W h0 q1 q2 q3 q4 q5 q6 q7 q8 cA cJ cZ (M, N, C, R, G, E, F, T, pc, ph, rd, th, lm, sh, tm, sn)) U.heap ∧ va_K (dC, dI) vwCl [(cA, .int), (cJ, .long), (cZ, .boolean)] U ∧ va_D (fun _ => True) (mr_W h0 q1 q2 q3 q4 q5 q6 q7 q8 cA cJ cZ (M, N, C, R, G, E, F, T, pc, ph, rd, th, lm, sh, tm, sn)))) (va_Qi (fun (r : Int32) (u : mrS) => r = sh ∧ u = (M, N, C, R, G, E, F, T, pc, ph, rd, th, lm, sh, tm, sn)) (at_mr dC dI h0 q1 q2 q3 q4 q5 q6 q7 q8 cA cJ cZ (va_A (mr_W h0 q1 q2 q3 q4 q5 q6 q7 q8 cA cJ cZ (M, N, C, R, G, E, F, T, pc, ph, rd, th, lm, sh, tm, sn)) sz)) (va_A (mr_W h0 q1 q2 q3 q4 q5 q6 q7 q8 cA cJ cZ (M, N, C, R, G, E, F, T, pc, ph, rd, th, lm, sh, tm, sn)) sz)) 0 0 (va_A (mr_W h0 q1 q2 q3 q4 q5 q6 q7 q8 cA cJ cZ (M, N, C, R, G, E, F, T, pc, ph, rd, th, lm, sh, tm, sn)) sz) := by
  refine Met.ofW (cc := cX1_shows) (maxL := 1) (ret := (some .int)) (by decide) rfl ?_
  intro p e s m args below meth c s₁ B hml hv
  obtain ⟨rfl, hsz, hP, hK, hD0⟩ := hv
  have hx := B.exec
  have hb := B.bytes
  have hr := B.returns
  have hts := atoms_spec (ws := wsX1_shows) B.pre
  have hown : s.vm.findClass RX1 = some m.cls := findClass_of_methodNamed B.named
  have hlocks := B.notSynchronized
  subst hsz
  have hD := hD0.self (sz := s.heap.size)
  generalize hAe : va_A (mr_W h0 q1 q2 q3 q4 q5 q6 q7 q8 cA cJ cZ (M, N, C, R, G, E, F, T, pc, ph, rd, th, lm, sh, tm, sn)) s.heap.size = A at hD ⊢
  have hA : ∀ q : Nat, s.heap.size ≤ q → A q := fun q h => by rw [← hAe]; exact Or.inr h
  have hS : va_S A s.heap s.heap [] := va_S.rf
  have hP : va_P (dC, dI) vwCl [(h0, .inr (1, [.ref q1, .ref q2, .ref q3, .ref q4, .ref q5, .ref q6, .ref q7, .ref q8, .int pc, .int ph, .int rd, .int th, .int lm, .int sh, .long tm, .long sn])), (q1, .inl (cA, 64, .inl M)), (q2, .inl (cA, 64, .inl N)), (q3, .inl (cA, 64, .inl C)), (q4, .inl (cA, 4, .inl R)), (q5, .inl (cJ, 8, .inr (.inl G))), (q6, .inl (cZ, 8, .inl E)), (q7, .inl (cZ, 8, .inl F)), (q8, .inl (cA, 8, .inl T))] s.heap := hP
  have hD : va_D A [(h0, .inr (1, [.ref q1, .ref q2, .ref q3, .ref q4, .ref q5, .ref q6, .ref q7, .ref q8, .int pc, .int ph, .int rd, .int th, .int lm, .int sh, .long tm, .long sn])), (q1, .inl (cA, 64, .inl M)), (q2, .inl (cA, 64, .inl N)), (q3, .inl (cA, 64, .inl C)), (q4, .inl (cA, 4, .inl R)), (q5, .inl (cJ, 8, .inr (.inl G))), (q6, .inl (cZ, 8, .inl E)), (q7, .inl (cZ, 8, .inl F)), (q8, .inl (cA, 8, .inl T))] := hD
  have hl := lv_entry ([.ref h0]) (n := 1) (Nat.le_of_ble_eq_true rfl)
  rw [lg_entry_eq]
  generalize (lg_sl ([.ref h0]) ++ List.replicate (1 - (lg_sl ([.ref h0])).length) Slot.unset).toArray = ls at hl ⊢
  have hl : lv_has ls 1 [(0, .ref h0)] := hl
  refine lv_aload_n hx hb dX1_shows_0 rfl (lv_at hl 0 rfl) ?_
  refine va_get (D := (dC, dI)) (ci := 1) (v := .int sh) (C := RX1) (T := TX1) (N := 16) hx hb hts inw_X1_shows hown hK hP 0 rfl rfl 13 (by decide) (hts (.fieldLink RX1 59 "MigratorModel" "shows" "I") (by decide +kernel)) (fun _ h9 => h9) rfl dX1_shows_1 ?_
  exact W.iret (v := sh) hx hb hr (fun t ht hW => ⟨⟨sh, (M, N, C, R, G, E, F, T, pc, ph, rd, th, lm, sh, tm, sn), rfl, ⟨rfl, rfl⟩, by rw [ht]; exact hP, va_K.moved hW.alike hK, hD⟩, hS.F ht⟩) hS.2.2 dX1_shows_4
theorem inw_X1_waits : ∀ w ∈ wsX10, w ∈ wsX1_waits := fun _ h => List.mem_cons_of_mem _ (List.mem_append_right _ h)
set_option maxHeartbeats 4000000 in
set_option maxRecDepth 100000 in
theorem c_X1_waits (l : Launch) (dC : Nat → ClassId) (dI : Nat → Nat → Nat) (h0 q1 q2 q3 q4 q5 q6 q7 q8 : Nat) (cA cJ cZ : ClassId) (M N C R : Nat → Int32) (G : Nat → Int64) (E F T : Nat → Int32) (pc ph rd th lm sh : Int32) (tm sn : Int64) (a : Int32) (sz : Nat) : Met l yX1_waits wsX1_waits ({ frames := 0, cells := 0, slots := 0, locals := 0 }) (va_Pc [.ref h0, .int a] (fun U => U.heap.size = sz ∧ va_P (dC, dI) vwCl (mr_W h0 q1 q2 q3 q4 q5 q6 q7 q8 cA cJ cZ (M, N, C, R, G, E, F, T, pc, ph, rd, th, lm, sh, tm, sn)) U.heap ∧ va_K (dC, dI) vwCl [(cA, .int), (cJ, .long), (cZ, .boolean)] U ∧ va_D (fun _ => True) (mr_W h0 q1 q2 q3 q4 q5 q6 q7 q8 cA cJ cZ (M, N, C, R, G, E, F, T, pc, ph, rd, th, lm, sh, tm, sn)))) (va_Qi (fun (r : Int32) (u : mrS) => ((r = 1 ∧ mr_ip a ∧ ¬ E a.toNatClampNeg = 0) ∨ (r = 0 ∧ ¬ (mr_ip a ∧ ¬ E a.toNatClampNeg = 0))) ∧ u = (M, N, C, R, G, E, F, T, pc, ph, rd, th, lm, sh, tm, sn)) (at_mr dC dI h0 q1 q2 q3 q4 q5 q6 q7 q8 cA cJ cZ (va_A (mr_W h0 q1 q2 q3 q4 q5 q6 q7 q8 cA cJ cZ (M, N, C, R, G, E, F, T, pc, ph, rd, th, lm, sh, tm, sn)) sz)) (va_A (mr_W h0 q1 q2 q3 q4 q5 q6 q7 q8 cA cJ cZ (M, N, C, R, G, E, F, T, pc, ph, rd, th, lm, sh, tm, sn)) sz)) 0 0 (va_A (mr_W h0 q1 q2 q3 q4 q5 q6 q7 q8 cA cJ cZ (M, N, C, R, G, E, F, T, pc, ph, rd, th, lm, sh, tm, sn)) sz) := by
  refine Met.ofW (cc := cX1_waits) (maxL := 2) (ret := (some .boolean)) (by decide) rfl ?_
  intro p e s m args below meth c s₁ B hml hv
  obtain ⟨rfl, hsz, hP, hK, hD0⟩ := hv
  have hx := B.exec
  have hb := B.bytes
  have hr := B.returns
  have hts := atoms_spec (ws := wsX1_waits) B.pre
  have hown : s.vm.findClass RX1 = some m.cls := findClass_of_methodNamed B.named
  have hlocks := B.notSynchronized
  subst hsz
  have hD := hD0.self (sz := s.heap.size)
  generalize hAe : va_A (mr_W h0 q1 q2 q3 q4 q5 q6 q7 q8 cA cJ cZ (M, N, C, R, G, E, F, T, pc, ph, rd, th, lm, sh, tm, sn)) s.heap.size = A at hD ⊢
  have hA : ∀ q : Nat, s.heap.size ≤ q → A q := fun q h => by rw [← hAe]; exact Or.inr h
  have hS : va_S A s.heap s.heap [] := va_S.rf
  have hP : va_P (dC, dI) vwCl [(h0, .inr (1, [.ref q1, .ref q2, .ref q3, .ref q4, .ref q5, .ref q6, .ref q7, .ref q8, .int pc, .int ph, .int rd, .int th, .int lm, .int sh, .long tm, .long sn])), (q1, .inl (cA, 64, .inl M)), (q2, .inl (cA, 64, .inl N)), (q3, .inl (cA, 64, .inl C)), (q4, .inl (cA, 4, .inl R)), (q5, .inl (cJ, 8, .inr (.inl G))), (q6, .inl (cZ, 8, .inl E)), (q7, .inl (cZ, 8, .inl F)), (q8, .inl (cA, 8, .inl T))] s.heap := hP
  have hD : va_D A [(h0, .inr (1, [.ref q1, .ref q2, .ref q3, .ref q4, .ref q5, .ref q6, .ref q7, .ref q8, .int pc, .int ph, .int rd, .int th, .int lm, .int sh, .long tm, .long sn])), (q1, .inl (cA, 64, .inl M)), (q2, .inl (cA, 64, .inl N)), (q3, .inl (cA, 64, .inl C)), (q4, .inl (cA, 4, .inl R)), (q5, .inl (cJ, 8, .inr (.inl G))), (q6, .inl (cZ, 8, .inl E)), (q7, .inl (cZ, 8, .inl F)), (q8, .inl (cA, 8, .inl T))] := hD
  have hl := lv_entry ([.ref h0, .int a]) (n := 2) (Nat.le_of_ble_eq_true rfl)
  rw [lg_entry_eq]
  generalize (lg_sl ([.ref h0, .int a]) ++ List.replicate (2 - (lg_sl ([.ref h0, .int a])).length) Slot.unset).toArray = ls at hl ⊢
  have hl : lv_has ls 2 [(0, .ref h0), (1, .int a)] := hl
  refine lv_iload_n hx hb dX1_waits_0 rfl (lv_at hl 1 rfl) ?_
  refine lv_if_lt (tgt := 23) hx hb dX1_waits_1 (by decide) (fun c_1 => ?_) (fun c_1 => ?_)
  · refine lv_iconst (v := 0) hx hb dX1_waits_23 (by decide) ?_
    exact W.zret (v := 0) (ty := .boolean) hx hb hr rfl (fun t ht hW => ⟨⟨0, (M, N, C, R, G, E, F, T, pc, ph, rd, th, lm, sh, tm, sn), rfl, ⟨Or.inr ⟨rfl, fun h => h.1.1 c_1⟩, rfl⟩, by rw [ht]; exact hP, va_K.moved hW.alike hK, hD⟩, hS.F ht⟩) hS.2.2 dX1_waits_24
  · refine lv_iload_n hx hb dX1_waits_4 rfl (lv_at hl 1 rfl) ?_
    refine lv_bipush (v := 7) hx hb dX1_waits_5 (by decide) ?_
    refine lv_icmp_gt (tgt := 23) hx hb dX1_waits_7 (by decide) (fun c_2 => ?_) (fun c_2 => ?_)
    · refine lv_iconst (v := 0) hx hb dX1_waits_23 (by decide) ?_
      exact W.zret (v := 0) (ty := .boolean) hx hb hr rfl (fun t ht hW => ⟨⟨0, (M, N, C, R, G, E, F, T, pc, ph, rd, th, lm, sh, tm, sn), rfl, ⟨Or.inr ⟨rfl, fun h => h.1.2 c_2⟩, rfl⟩, by rw [ht]; exact hP, va_K.moved hW.alike hK, hD⟩, hS.F ht⟩) hS.2.2 dX1_waits_24
    · refine lv_aload_n hx hb dX1_waits_10 rfl (lv_at hl 0 rfl) ?_
      refine va_get (D := (dC, dI)) (ci := 1) (v := .ref q6) (C := RX1) (T := TX1) (N := 16) hx hb hts inw_X1_waits hown hK hP 0 rfl rfl 5 (by decide) (hts (.fieldLink RX1 26 "MigratorModel" "want" "[Z") (by decide +kernel)) (fun _ h9 => h9) rfl dX1_waits_11 ?_
      refine lv_iload_n hx hb dX1_waits_14 rfl (lv_at hl 1 rfl) ?_
      refine va_zald hx hb hK hP 6 2 rfl rfl (in_le (y := 7) (by decide) c_1 c_2) dX1_waits_15 ?_
      refine lv_if_eq (tgt := 23) hx hb dX1_waits_16 (by decide) (fun c_3 => ?_) (fun c_3 => ?_)
      · refine lv_iconst (v := 0) hx hb dX1_waits_23 (by decide) ?_
        exact W.zret (v := 0) (ty := .boolean) hx hb hr rfl (fun t ht hW => ⟨⟨0, (M, N, C, R, G, E, F, T, pc, ph, rd, th, lm, sh, tm, sn), rfl, ⟨Or.inr ⟨rfl, fun h => h.2 c_3⟩, rfl⟩, by rw [ht]; exact hP, va_K.moved hW.alike hK, hD⟩, hS.F ht⟩) hS.2.2 dX1_waits_24
      · refine lv_iconst (v := 1) hx hb dX1_waits_19 (by decide) ?_
        refine lv_goto (tgt := 24) hx hb dX1_waits_20 (by decide) ?_
        exact W.zret (v := 1) (ty := .boolean) hx hb hr rfl (fun t ht hW => ⟨⟨1, (M, N, C, R, G, E, F, T, pc, ph, rd, th, lm, sh, tm, sn), rfl, ⟨Or.inl ⟨rfl, ⟨c_1, c_2⟩, c_3⟩, rfl⟩, by rw [ht]; exact hP, va_K.moved hW.alike hK, hD⟩, hS.F ht⟩) hS.2.2 dX1_waits_24
theorem inw_X1_dirty : ∀ w ∈ wsX10, w ∈ wsX1_dirty := fun _ h => List.mem_cons_of_mem _ (List.mem_append_right _ h)
set_option maxHeartbeats 4000000 in
set_option maxRecDepth 100000 in
theorem c_X1_dirty (l : Launch) (dC : Nat → ClassId) (dI : Nat → Nat → Nat) (h0 q1 q2 q3 q4 q5 q6 q7 q8 : Nat) (cA cJ cZ : ClassId) (M N C R : Nat → Int32) (G : Nat → Int64) (E F T : Nat → Int32) (pc ph rd th lm sh : Int32) (tm sn : Int64) (a : Int32) (hF : ∀ j, F j = 0 ∨ F j = 1) (sz : Nat) : Met l yX1_dirty wsX1_dirty ({ frames := 0, cells := 0, slots := 0, locals := 0 }) (va_Pc [.ref h0, .int a] (fun U => U.heap.size = sz ∧ va_P (dC, dI) vwCl (mr_W h0 q1 q2 q3 q4 q5 q6 q7 q8 cA cJ cZ (M, N, C, R, G, E, F, T, pc, ph, rd, th, lm, sh, tm, sn)) U.heap ∧ va_K (dC, dI) vwCl [(cA, .int), (cJ, .long), (cZ, .boolean)] U ∧ va_D (fun _ => True) (mr_W h0 q1 q2 q3 q4 q5 q6 q7 q8 cA cJ cZ (M, N, C, R, G, E, F, T, pc, ph, rd, th, lm, sh, tm, sn)))) (va_Qi (fun (r : Int32) (u : mrS) => ((r = 1 ∧ mr_ip a ∧ mr_dt G F ph sn a) ∨ (r = 0 ∧ ¬ (mr_ip a ∧ mr_dt G F ph sn a))) ∧ u = (M, N, C, R, G, E, F, T, pc, ph, rd, th, lm, sh, tm, sn)) (at_mr dC dI h0 q1 q2 q3 q4 q5 q6 q7 q8 cA cJ cZ (va_A (mr_W h0 q1 q2 q3 q4 q5 q6 q7 q8 cA cJ cZ (M, N, C, R, G, E, F, T, pc, ph, rd, th, lm, sh, tm, sn)) sz)) (va_A (mr_W h0 q1 q2 q3 q4 q5 q6 q7 q8 cA cJ cZ (M, N, C, R, G, E, F, T, pc, ph, rd, th, lm, sh, tm, sn)) sz)) 0 0 (va_A (mr_W h0 q1 q2 q3 q4 q5 q6 q7 q8 cA cJ cZ (M, N, C, R, G, E, F, T, pc, ph, rd, th, lm, sh, tm, sn)) sz) := by
  refine Met.ofW (cc := cX1_dirty) (maxL := 2) (ret := (some .boolean)) (by decide) rfl ?_
  intro p e s m args below meth c s₁ B hml hv
  obtain ⟨rfl, hsz, hP, hK, hD0⟩ := hv
  have hx := B.exec
  have hb := B.bytes
  have hr := B.returns
  have hts := atoms_spec (ws := wsX1_dirty) B.pre
  have hown : s.vm.findClass RX1 = some m.cls := findClass_of_methodNamed B.named
  have hlocks := B.notSynchronized
  subst hsz
  have hD := hD0.self (sz := s.heap.size)
  generalize hAe : va_A (mr_W h0 q1 q2 q3 q4 q5 q6 q7 q8 cA cJ cZ (M, N, C, R, G, E, F, T, pc, ph, rd, th, lm, sh, tm, sn)) s.heap.size = A at hD ⊢
  have hA : ∀ q : Nat, s.heap.size ≤ q → A q := fun q h => by rw [← hAe]; exact Or.inr h
  have hS : va_S A s.heap s.heap [] := va_S.rf
  have hP : va_P (dC, dI) vwCl [(h0, .inr (1, [.ref q1, .ref q2, .ref q3, .ref q4, .ref q5, .ref q6, .ref q7, .ref q8, .int pc, .int ph, .int rd, .int th, .int lm, .int sh, .long tm, .long sn])), (q1, .inl (cA, 64, .inl M)), (q2, .inl (cA, 64, .inl N)), (q3, .inl (cA, 64, .inl C)), (q4, .inl (cA, 4, .inl R)), (q5, .inl (cJ, 8, .inr (.inl G))), (q6, .inl (cZ, 8, .inl E)), (q7, .inl (cZ, 8, .inl F)), (q8, .inl (cA, 8, .inl T))] s.heap := hP
  have hD : va_D A [(h0, .inr (1, [.ref q1, .ref q2, .ref q3, .ref q4, .ref q5, .ref q6, .ref q7, .ref q8, .int pc, .int ph, .int rd, .int th, .int lm, .int sh, .long tm, .long sn])), (q1, .inl (cA, 64, .inl M)), (q2, .inl (cA, 64, .inl N)), (q3, .inl (cA, 64, .inl C)), (q4, .inl (cA, 4, .inl R)), (q5, .inl (cJ, 8, .inr (.inl G))), (q6, .inl (cZ, 8, .inl E)), (q7, .inl (cZ, 8, .inl F)), (q8, .inl (cA, 8, .inl T))] := hD
  have hl := lv_entry ([.ref h0, .int a]) (n := 2) (Nat.le_of_ble_eq_true rfl)
  rw [lg_entry_eq]
  generalize (lg_sl ([.ref h0, .int a]) ++ List.replicate (2 - (lg_sl ([.ref h0, .int a])).length) Slot.unset).toArray = ls at hl ⊢
  have hl : lv_has ls 2 [(0, .ref h0), (1, .int a)] := hl
  refine lv_iload_n hx hb dX1_dirty_0 rfl (lv_at hl 1 rfl) ?_
  refine lv_if_lt (tgt := 17) hx hb dX1_dirty_1 (by decide) (fun c_1 => ?_) (fun c_1 => ?_)
  · refine lv_iconst (v := 0) hx hb dX1_dirty_17 (by decide) ?_
    exact W.zret (v := 0) (ty := .boolean) hx hb hr rfl (fun t ht hW => ⟨⟨0, (M, N, C, R, G, E, F, T, pc, ph, rd, th, lm, sh, tm, sn), rfl, ⟨Or.inr ⟨rfl, fun h => h.1.1 c_1⟩, rfl⟩, by rw [ht]; exact hP, va_K.moved hW.alike hK, hD⟩, hS.F ht⟩) hS.2.2 dX1_dirty_18
  · refine lv_iload_n hx hb dX1_dirty_4 rfl (lv_at hl 1 rfl) ?_
    refine lv_bipush (v := 7) hx hb dX1_dirty_5 (by decide) ?_
    refine lv_icmp_gt (tgt := 17) hx hb dX1_dirty_7 (by decide) (fun c_2 => ?_) (fun c_2 => ?_)
    · refine lv_iconst (v := 0) hx hb dX1_dirty_17 (by decide) ?_
      exact W.zret (v := 0) (ty := .boolean) hx hb hr rfl (fun t ht hW => ⟨⟨0, (M, N, C, R, G, E, F, T, pc, ph, rd, th, lm, sh, tm, sn), rfl, ⟨Or.inr ⟨rfl, fun h => h.1.2 c_2⟩, rfl⟩, by rw [ht]; exact hP, va_K.moved hW.alike hK, hD⟩, hS.F ht⟩) hS.2.2 dX1_dirty_18
    · refine lv_aload_n hx hb dX1_dirty_10 rfl (lv_at hl 0 rfl) ?_
      refine va_get (D := (dC, dI)) (ci := 1) (v := .int ph) (C := RX1) (T := TX1) (N := 16) hx hb hts inw_X1_dirty hown hK hP 0 rfl rfl 9 (by decide) (hts (.fieldLink RX1 36 "MigratorModel" "phase" "I") (by decide +kernel)) (fun _ h9 => h9) rfl dX1_dirty_11 ?_
      refine lv_if_ne (tgt := 19) hx hb dX1_dirty_14 (by decide) (fun c_3 => ?_) (fun c_3 => ?_)
      · refine lv_aload_n hx hb dX1_dirty_19 rfl (lv_at hl 0 rfl) ?_
        refine va_get (D := (dC, dI)) (ci := 1) (v := .int ph) (C := RX1) (T := TX1) (N := 16) hx hb hts inw_X1_dirty hown hK hP 0 rfl rfl 9 (by decide) (hts (.fieldLink RX1 36 "MigratorModel" "phase" "I") (by decide +kernel)) (fun _ h9 => h9) rfl dX1_dirty_20 ?_
        refine lv_iconst (v := 1) hx hb dX1_dirty_23 (by decide) ?_
        refine lv_icmp_ne (tgt := 49) hx hb dX1_dirty_24 (by decide) (fun c_4 => ?_) (fun c_4 => ?_)
        · refine lv_aload_n hx hb dX1_dirty_49 rfl (lv_at hl 0 rfl) ?_
          refine va_get (D := (dC, dI)) (ci := 1) (v := .ref q7) (C := RX1) (T := TX1) (N := 16) hx hb hts inw_X1_dirty hown hK hP 0 rfl rfl 6 (by decide) (hts (.fieldLink RX1 30 "MigratorModel" "left" "[Z") (by decide +kernel)) (fun _ h9 => h9) rfl dX1_dirty_50 ?_
          refine lv_iload_n hx hb dX1_dirty_53 rfl (lv_at hl 1 rfl) ?_
          refine va_zald hx hb hK hP 7 2 rfl rfl (in_le (y := 7) (by decide) c_1 c_2) dX1_dirty_54 ?_
          rcases hF a.toNatClampNeg with hf | hf
          · exact W.zret (v := F a.toNatClampNeg) (ty := .boolean) hx hb hr (by rw [hf]; rfl) (fun t ht hW => ⟨⟨F a.toNatClampNeg, (M, N, C, R, G, E, F, T, pc, ph, rd, th, lm, sh, tm, sn), rfl, ⟨Or.inr ⟨hf, fun h => h.2.elim (fun q => c_4 q.1) (fun q => absurd (hf.symm.trans q.2.2) (by decide))⟩, rfl⟩, by rw [ht]; exact hP, va_K.moved hW.alike hK, hD⟩, hS.F ht⟩) hS.2.2 dX1_dirty_55
          · exact W.zret (v := F a.toNatClampNeg) (ty := .boolean) hx hb hr (by rw [hf]; rfl) (fun t ht hW => ⟨⟨F a.toNatClampNeg, (M, N, C, R, G, E, F, T, pc, ph, rd, th, lm, sh, tm, sn), rfl, ⟨Or.inl ⟨hf, ⟨c_1, c_2⟩, Or.inr ⟨c_3, c_4, hf⟩⟩, rfl⟩, by rw [ht]; exact hP, va_K.moved hW.alike hK, hD⟩, hS.F ht⟩) hS.2.2 dX1_dirty_55
        · refine lv_aload_n hx hb dX1_dirty_27 rfl (lv_at hl 0 rfl) ?_
          refine va_get (D := (dC, dI)) (ci := 1) (v := .ref q5) (C := RX1) (T := TX1) (N := 16) hx hb hts inw_X1_dirty hown hK hP 0 rfl rfl 4 (by decide) (hts (.fieldLink RX1 22 "MigratorModel" "written" "[J") (by decide +kernel)) (fun _ h9 => h9) rfl dX1_dirty_28 ?_
          refine lv_iload_n hx hb dX1_dirty_31 rfl (lv_at hl 1 rfl) ?_
          refine va_lald hx hb hK hP 5 1 rfl rfl (in_le (y := 7) (by decide) c_1 c_2) dX1_dirty_32 ?_
          refine lv_aload_n hx hb dX1_dirty_33 rfl (lv_at hl 0 rfl) ?_
          refine va_get (D := (dC, dI)) (ci := 1) (v := .long sn) (C := RX1) (T := TX1) (N := 16) hx hb hts inw_X1_dirty hown hK hP 0 rfl rfl 15 (by decide) (hts (.fieldLink RX1 53 "MigratorModel" "since" "J") (by decide +kernel)) (fun _ h9 => h9) rfl dX1_dirty_34 ?_
          refine W.lcmp hx hb dX1_dirty_37 ?_
          refine lv_if_le (tgt := 45) hx hb dX1_dirty_38 (by decide) (fun c_5 => ?_) (fun c_5 => ?_)
          · refine lv_iconst (v := 0) hx hb dX1_dirty_45 (by decide) ?_
            refine lv_goto (tgt := 55) hx hb dX1_dirty_46 (by decide) ?_
            exact W.zret (v := 0) (ty := .boolean) hx hb hr rfl (fun t ht hW => ⟨⟨0, (M, N, C, R, G, E, F, T, pc, ph, rd, th, lm, sh, tm, sn), rfl, ⟨Or.inr ⟨rfl, fun h => h.2.elim (fun q => absurd q.2 (Int64.not_lt.mpr ((lg_cmp_le _ _).mp c_5))) (fun q => q.2.1 c_4)⟩, rfl⟩, by rw [ht]; exact hP, va_K.moved hW.alike hK, hD⟩, hS.F ht⟩) hS.2.2 dX1_dirty_55
          · refine lv_iconst (v := 1) hx hb dX1_dirty_41 (by decide) ?_
            refine lv_goto (tgt := 55) hx hb dX1_dirty_42 (by decide) ?_
            exact W.zret (v := 1) (ty := .boolean) hx hb hr rfl (fun t ht hW => ⟨⟨1, (M, N, C, R, G, E, F, T, pc, ph, rd, th, lm, sh, tm, sn), rfl, ⟨Or.inl ⟨rfl, ⟨c_1, c_2⟩, Or.inl ⟨c_4, Int64.not_le.mp (fun q => c_5 ((lg_cmp_le _ _).mpr q))⟩⟩, rfl⟩, by rw [ht]; exact hP, va_K.moved hW.alike hK, hD⟩, hS.F ht⟩) hS.2.2 dX1_dirty_55
      · refine lv_iconst (v := 0) hx hb dX1_dirty_17 (by decide) ?_
        exact W.zret (v := 0) (ty := .boolean) hx hb hr rfl (fun t ht hW => ⟨⟨0, (M, N, C, R, G, E, F, T, pc, ph, rd, th, lm, sh, tm, sn), rfl, ⟨Or.inr ⟨rfl, fun h => h.2.elim (fun q => absurd (q.1.symm.trans c_3) (by decide)) (fun q => q.1 c_3)⟩, rfl⟩, by rw [ht]; exact hP, va_K.moved hW.alike hK, hD⟩, hS.F ht⟩) hS.2.2 dX1_dirty_18
theorem inw_X1_source : ∀ w ∈ wsX10, w ∈ wsX1_source := fun _ h => List.mem_cons_of_mem _ (List.mem_append_right _ h)
set_option maxHeartbeats 4000000 in
set_option maxRecDepth 100000 in
theorem c_X1_source (l : Launch) (dC : Nat → ClassId) (dI : Nat → Nat → Nat) (h0 q1 q2 q3 q4 q5 q6 q7 q8 : Nat) (cA cJ cZ : ClassId) (M N C R : Nat → Int32) (G : Nat → Int64) (E F T : Nat → Int32) (pc ph rd th lm sh : Int32) (tm sn : Int64) (a : Int32) (sz : Nat) : Met l yX1_source wsX1_source ({ frames := 0, cells := 0, slots := 0, locals := 0 }) (va_Pc [.ref h0, .int a] (fun U => U.heap.size = sz ∧ va_P (dC, dI) vwCl (mr_W h0 q1 q2 q3 q4 q5 q6 q7 q8 cA cJ cZ (M, N, C, R, G, E, F, T, pc, ph, rd, th, lm, sh, tm, sn)) U.heap ∧ va_K (dC, dI) vwCl [(cA, .int), (cJ, .long), (cZ, .boolean)] U ∧ va_D (fun _ => True) (mr_W h0 q1 q2 q3 q4 q5 q6 q7 q8 cA cJ cZ (M, N, C, R, G, E, F, T, pc, ph, rd, th, lm, sh, tm, sn)))) (va_Qi (fun (r : Int32) (u : mrS) => ((mr_ia a ∧ r = if ph = 3 then N a.toNatClampNeg else M a.toNatClampNeg) ∨ (r = 0 ∧ ¬ mr_ia a)) ∧ u = (M, N, C, R, G, E, F, T, pc, ph, rd, th, lm, sh, tm, sn)) (at_mr dC dI h0 q1 q2 q3 q4 q5 q6 q7 q8 cA cJ cZ (va_A (mr_W h0 q1 q2 q3 q4 q5 q6 q7 q8 cA cJ cZ (M, N, C, R, G, E, F, T, pc, ph, rd, th, lm, sh, tm, sn)) sz)) (va_A (mr_W h0 q1 q2 q3 q4 q5 q6 q7 q8 cA cJ cZ (M, N, C, R, G, E, F, T, pc, ph, rd, th, lm, sh, tm, sn)) sz)) 0 0 (va_A (mr_W h0 q1 q2 q3 q4 q5 q6 q7 q8 cA cJ cZ (M, N, C, R, G, E, F, T, pc, ph, rd, th, lm, sh, tm, sn)) sz) := by
  refine Met.ofW (cc := cX1_source) (maxL := 2) (ret := (some .int)) (by decide) rfl ?_
  intro p e s m args below meth c s₁ B hml hv
  obtain ⟨rfl, hsz, hP, hK, hD0⟩ := hv
  have hx := B.exec
  have hb := B.bytes
  have hr := B.returns
  have hts := atoms_spec (ws := wsX1_source) B.pre
  have hown : s.vm.findClass RX1 = some m.cls := findClass_of_methodNamed B.named
  have hlocks := B.notSynchronized
  subst hsz
  have hD := hD0.self (sz := s.heap.size)
  generalize hAe : va_A (mr_W h0 q1 q2 q3 q4 q5 q6 q7 q8 cA cJ cZ (M, N, C, R, G, E, F, T, pc, ph, rd, th, lm, sh, tm, sn)) s.heap.size = A at hD ⊢
  have hA : ∀ q : Nat, s.heap.size ≤ q → A q := fun q h => by rw [← hAe]; exact Or.inr h
  have hS : va_S A s.heap s.heap [] := va_S.rf
  have hP : va_P (dC, dI) vwCl [(h0, .inr (1, [.ref q1, .ref q2, .ref q3, .ref q4, .ref q5, .ref q6, .ref q7, .ref q8, .int pc, .int ph, .int rd, .int th, .int lm, .int sh, .long tm, .long sn])), (q1, .inl (cA, 64, .inl M)), (q2, .inl (cA, 64, .inl N)), (q3, .inl (cA, 64, .inl C)), (q4, .inl (cA, 4, .inl R)), (q5, .inl (cJ, 8, .inr (.inl G))), (q6, .inl (cZ, 8, .inl E)), (q7, .inl (cZ, 8, .inl F)), (q8, .inl (cA, 8, .inl T))] s.heap := hP
  have hD : va_D A [(h0, .inr (1, [.ref q1, .ref q2, .ref q3, .ref q4, .ref q5, .ref q6, .ref q7, .ref q8, .int pc, .int ph, .int rd, .int th, .int lm, .int sh, .long tm, .long sn])), (q1, .inl (cA, 64, .inl M)), (q2, .inl (cA, 64, .inl N)), (q3, .inl (cA, 64, .inl C)), (q4, .inl (cA, 4, .inl R)), (q5, .inl (cJ, 8, .inr (.inl G))), (q6, .inl (cZ, 8, .inl E)), (q7, .inl (cZ, 8, .inl F)), (q8, .inl (cA, 8, .inl T))] := hD
  have hl := lv_entry ([.ref h0, .int a]) (n := 2) (Nat.le_of_ble_eq_true rfl)
  rw [lg_entry_eq]
  generalize (lg_sl ([.ref h0, .int a]) ++ List.replicate (2 - (lg_sl ([.ref h0, .int a])).length) Slot.unset).toArray = ls at hl ⊢
  have hl : lv_has ls 2 [(0, .ref h0), (1, .int a)] := hl
  refine lv_iload_n hx hb dX1_source_0 rfl (lv_at hl 1 rfl) ?_
  refine lv_if_lt (tgt := 10) hx hb dX1_source_1 (by decide) (fun c_1 => ?_) (fun c_1 => ?_)
  · refine lv_iconst (v := 0) hx hb dX1_source_10 (by decide) ?_
    exact W.iret (v := 0) hx hb hr (fun t ht hW => ⟨⟨0, (M, N, C, R, G, E, F, T, pc, ph, rd, th, lm, sh, tm, sn), rfl, ⟨Or.inr ⟨rfl, fun h => h.1 c_1⟩, rfl⟩, by rw [ht]; exact hP, va_K.moved hW.alike hK, hD⟩, hS.F ht⟩) hS.2.2 dX1_source_11
  · refine lv_iload_n hx hb dX1_source_4 rfl (lv_at hl 1 rfl) ?_
    refine lv_bipush (v := 63) hx hb dX1_source_5 (by decide) ?_
    refine lv_icmp_le (tgt := 12) hx hb dX1_source_7 (by decide) (fun c_2 => ?_) (fun c_2 => ?_)
    · refine lv_aload_n hx hb dX1_source_12 rfl (lv_at hl 0 rfl) ?_
      refine va_get (D := (dC, dI)) (ci := 1) (v := .int ph) (C := RX1) (T := TX1) (N := 16) hx hb hts inw_X1_source hown hK hP 0 rfl rfl 9 (by decide) (hts (.fieldLink RX1 36 "MigratorModel" "phase" "I") (by decide +kernel)) (fun _ h9 => h9) rfl dX1_source_13 ?_
      refine lv_iconst (v := 3) hx hb dX1_source_16 (by decide) ?_
      refine lv_icmp_ne (tgt := 29) hx hb dX1_source_17 (by decide) (fun c_3 => ?_) (fun c_3 => ?_)
      · refine lv_aload_n hx hb dX1_source_29 rfl (lv_at hl 0 rfl) ?_
        refine va_get (D := (dC, dI)) (ci := 1) (v := .ref q1) (C := RX1) (T := TX1) (N := 16) hx hb hts inw_X1_source hown hK hP 0 rfl rfl 0 (by decide) (hts (.fieldLink RX1 7 "MigratorModel" "real" "[I") (by decide +kernel)) (fun _ h9 => h9) rfl dX1_source_30 ?_
        refine lv_iload_n hx hb dX1_source_33 rfl (lv_at hl 1 rfl) ?_
        refine va_iald hx hb hK hP 1 0 rfl rfl (in_le (y := 63) (by decide) c_1 (Int32.not_lt.mpr c_2)) dX1_source_34 ?_
        exact W.iret (v := M a.toNatClampNeg) hx hb hr (fun t ht hW => ⟨⟨M a.toNatClampNeg, (M, N, C, R, G, E, F, T, pc, ph, rd, th, lm, sh, tm, sn), rfl, ⟨Or.inl ⟨⟨c_1, (Int32.not_lt.mpr c_2)⟩, (if_neg c_3).symm⟩, rfl⟩, by rw [ht]; exact hP, va_K.moved hW.alike hK, hD⟩, hS.F ht⟩) hS.2.2 dX1_source_35
      · refine lv_aload_n hx hb dX1_source_20 rfl (lv_at hl 0 rfl) ?_
        refine va_get (D := (dC, dI)) (ci := 1) (v := .ref q2) (C := RX1) (T := TX1) (N := 16) hx hb hts inw_X1_source hown hK hP 0 rfl rfl 1 (by decide) (hts (.fieldLink RX1 13 "MigratorModel" "kept" "[I") (by decide +kernel)) (fun _ h9 => h9) rfl dX1_source_21 ?_
        refine lv_iload_n hx hb dX1_source_24 rfl (lv_at hl 1 rfl) ?_
        refine va_iald hx hb hK hP 2 0 rfl rfl (in_le (y := 63) (by decide) c_1 (Int32.not_lt.mpr c_2)) dX1_source_25 ?_
        refine lv_goto (tgt := 35) hx hb dX1_source_26 (by decide) ?_
        exact W.iret (v := N a.toNatClampNeg) hx hb hr (fun t ht hW => ⟨⟨N a.toNatClampNeg, (M, N, C, R, G, E, F, T, pc, ph, rd, th, lm, sh, tm, sn), rfl, ⟨Or.inl ⟨⟨c_1, (Int32.not_lt.mpr c_2)⟩, (if_pos c_3).symm⟩, rfl⟩, by rw [ht]; exact hP, va_K.moved hW.alike hK, hD⟩, hS.F ht⟩) hS.2.2 dX1_source_35
    · refine lv_iconst (v := 0) hx hb dX1_source_10 (by decide) ?_
      exact W.iret (v := 0) hx hb hr (fun t ht hW => ⟨⟨0, (M, N, C, R, G, E, F, T, pc, ph, rd, th, lm, sh, tm, sn), rfl, ⟨Or.inr ⟨rfl, fun h => h.2 (Int32.not_le.mp c_2)⟩, rfl⟩, by rw [ht]; exact hP, va_K.moved hW.alike hK, hD⟩, hS.F ht⟩) hS.2.2 dX1_source_11
theorem inw_X1_destination : ∀ w ∈ wsX10, w ∈ wsX1_destination := fun _ h => List.mem_cons_of_mem _ (List.mem_append_right _ h)
set_option maxHeartbeats 4000000 in
set_option maxRecDepth 100000 in
theorem c_X1_destination (l : Launch) (dC : Nat → ClassId) (dI : Nat → Nat → Nat) (h0 q1 q2 q3 q4 q5 q6 q7 q8 : Nat) (cA cJ cZ : ClassId) (M N C R : Nat → Int32) (G : Nat → Int64) (E F T : Nat → Int32) (pc ph rd th lm sh : Int32) (tm sn : Int64) (a : Int32) (sz : Nat) : Met l yX1_destination wsX1_destination ({ frames := 0, cells := 0, slots := 0, locals := 0 }) (va_Pc [.ref h0, .int a] (fun U => U.heap.size = sz ∧ va_P (dC, dI) vwCl (mr_W h0 q1 q2 q3 q4 q5 q6 q7 q8 cA cJ cZ (M, N, C, R, G, E, F, T, pc, ph, rd, th, lm, sh, tm, sn)) U.heap ∧ va_K (dC, dI) vwCl [(cA, .int), (cJ, .long), (cZ, .boolean)] U ∧ va_D (fun _ => True) (mr_W h0 q1 q2 q3 q4 q5 q6 q7 q8 cA cJ cZ (M, N, C, R, G, E, F, T, pc, ph, rd, th, lm, sh, tm, sn)))) (va_Qi (fun (r : Int32) (u : mrS) => ((mr_ia a ∧ r = if ph = 3 then M a.toNatClampNeg else C a.toNatClampNeg) ∨ (r = 0 ∧ ¬ mr_ia a)) ∧ u = (M, N, C, R, G, E, F, T, pc, ph, rd, th, lm, sh, tm, sn)) (at_mr dC dI h0 q1 q2 q3 q4 q5 q6 q7 q8 cA cJ cZ (va_A (mr_W h0 q1 q2 q3 q4 q5 q6 q7 q8 cA cJ cZ (M, N, C, R, G, E, F, T, pc, ph, rd, th, lm, sh, tm, sn)) sz)) (va_A (mr_W h0 q1 q2 q3 q4 q5 q6 q7 q8 cA cJ cZ (M, N, C, R, G, E, F, T, pc, ph, rd, th, lm, sh, tm, sn)) sz)) 0 0 (va_A (mr_W h0 q1 q2 q3 q4 q5 q6 q7 q8 cA cJ cZ (M, N, C, R, G, E, F, T, pc, ph, rd, th, lm, sh, tm, sn)) sz) := by
  refine Met.ofW (cc := cX1_destination) (maxL := 2) (ret := (some .int)) (by decide) rfl ?_
  intro p e s m args below meth c s₁ B hml hv
  obtain ⟨rfl, hsz, hP, hK, hD0⟩ := hv
  have hx := B.exec
  have hb := B.bytes
  have hr := B.returns
  have hts := atoms_spec (ws := wsX1_destination) B.pre
  have hown : s.vm.findClass RX1 = some m.cls := findClass_of_methodNamed B.named
  have hlocks := B.notSynchronized
  subst hsz
  have hD := hD0.self (sz := s.heap.size)
  generalize hAe : va_A (mr_W h0 q1 q2 q3 q4 q5 q6 q7 q8 cA cJ cZ (M, N, C, R, G, E, F, T, pc, ph, rd, th, lm, sh, tm, sn)) s.heap.size = A at hD ⊢
  have hA : ∀ q : Nat, s.heap.size ≤ q → A q := fun q h => by rw [← hAe]; exact Or.inr h
  have hS : va_S A s.heap s.heap [] := va_S.rf
  have hP : va_P (dC, dI) vwCl [(h0, .inr (1, [.ref q1, .ref q2, .ref q3, .ref q4, .ref q5, .ref q6, .ref q7, .ref q8, .int pc, .int ph, .int rd, .int th, .int lm, .int sh, .long tm, .long sn])), (q1, .inl (cA, 64, .inl M)), (q2, .inl (cA, 64, .inl N)), (q3, .inl (cA, 64, .inl C)), (q4, .inl (cA, 4, .inl R)), (q5, .inl (cJ, 8, .inr (.inl G))), (q6, .inl (cZ, 8, .inl E)), (q7, .inl (cZ, 8, .inl F)), (q8, .inl (cA, 8, .inl T))] s.heap := hP
  have hD : va_D A [(h0, .inr (1, [.ref q1, .ref q2, .ref q3, .ref q4, .ref q5, .ref q6, .ref q7, .ref q8, .int pc, .int ph, .int rd, .int th, .int lm, .int sh, .long tm, .long sn])), (q1, .inl (cA, 64, .inl M)), (q2, .inl (cA, 64, .inl N)), (q3, .inl (cA, 64, .inl C)), (q4, .inl (cA, 4, .inl R)), (q5, .inl (cJ, 8, .inr (.inl G))), (q6, .inl (cZ, 8, .inl E)), (q7, .inl (cZ, 8, .inl F)), (q8, .inl (cA, 8, .inl T))] := hD
  have hl := lv_entry ([.ref h0, .int a]) (n := 2) (Nat.le_of_ble_eq_true rfl)
  rw [lg_entry_eq]
  generalize (lg_sl ([.ref h0, .int a]) ++ List.replicate (2 - (lg_sl ([.ref h0, .int a])).length) Slot.unset).toArray = ls at hl ⊢
  have hl : lv_has ls 2 [(0, .ref h0), (1, .int a)] := hl
  refine lv_iload_n hx hb dX1_destination_0 rfl (lv_at hl 1 rfl) ?_
  refine lv_if_lt (tgt := 10) hx hb dX1_destination_1 (by decide) (fun c_1 => ?_) (fun c_1 => ?_)
  · refine lv_iconst (v := 0) hx hb dX1_destination_10 (by decide) ?_
    exact W.iret (v := 0) hx hb hr (fun t ht hW => ⟨⟨0, (M, N, C, R, G, E, F, T, pc, ph, rd, th, lm, sh, tm, sn), rfl, ⟨Or.inr ⟨rfl, fun h => h.1 c_1⟩, rfl⟩, by rw [ht]; exact hP, va_K.moved hW.alike hK, hD⟩, hS.F ht⟩) hS.2.2 dX1_destination_11
  · refine lv_iload_n hx hb dX1_destination_4 rfl (lv_at hl 1 rfl) ?_
    refine lv_bipush (v := 63) hx hb dX1_destination_5 (by decide) ?_
    refine lv_icmp_le (tgt := 12) hx hb dX1_destination_7 (by decide) (fun c_2 => ?_) (fun c_2 => ?_)
    · refine lv_aload_n hx hb dX1_destination_12 rfl (lv_at hl 0 rfl) ?_
      refine va_get (D := (dC, dI)) (ci := 1) (v := .int ph) (C := RX1) (T := TX1) (N := 16) hx hb hts inw_X1_destination hown hK hP 0 rfl rfl 9 (by decide) (hts (.fieldLink RX1 36 "MigratorModel" "phase" "I") (by decide +kernel)) (fun _ h9 => h9) rfl dX1_destination_13 ?_
      refine lv_iconst (v := 3) hx hb dX1_destination_16 (by decide) ?_
      refine lv_icmp_ne (tgt := 29) hx hb dX1_destination_17 (by decide) (fun c_3 => ?_) (fun c_3 => ?_)
      · refine lv_aload_n hx hb dX1_destination_29 rfl (lv_at hl 0 rfl) ?_
        refine va_get (D := (dC, dI)) (ci := 1) (v := .ref q3) (C := RX1) (T := TX1) (N := 16) hx hb hts inw_X1_destination hown hK hP 0 rfl rfl 2 (by decide) (hts (.fieldLink RX1 16 "MigratorModel" "copied" "[I") (by decide +kernel)) (fun _ h9 => h9) rfl dX1_destination_30 ?_
        refine lv_iload_n hx hb dX1_destination_33 rfl (lv_at hl 1 rfl) ?_
        refine va_iald hx hb hK hP 3 0 rfl rfl (in_le (y := 63) (by decide) c_1 (Int32.not_lt.mpr c_2)) dX1_destination_34 ?_
        exact W.iret (v := C a.toNatClampNeg) hx hb hr (fun t ht hW => ⟨⟨C a.toNatClampNeg, (M, N, C, R, G, E, F, T, pc, ph, rd, th, lm, sh, tm, sn), rfl, ⟨Or.inl ⟨⟨c_1, (Int32.not_lt.mpr c_2)⟩, (if_neg c_3).symm⟩, rfl⟩, by rw [ht]; exact hP, va_K.moved hW.alike hK, hD⟩, hS.F ht⟩) hS.2.2 dX1_destination_35
      · refine lv_aload_n hx hb dX1_destination_20 rfl (lv_at hl 0 rfl) ?_
        refine va_get (D := (dC, dI)) (ci := 1) (v := .ref q1) (C := RX1) (T := TX1) (N := 16) hx hb hts inw_X1_destination hown hK hP 0 rfl rfl 0 (by decide) (hts (.fieldLink RX1 7 "MigratorModel" "real" "[I") (by decide +kernel)) (fun _ h9 => h9) rfl dX1_destination_21 ?_
        refine lv_iload_n hx hb dX1_destination_24 rfl (lv_at hl 1 rfl) ?_
        refine va_iald hx hb hK hP 1 0 rfl rfl (in_le (y := 63) (by decide) c_1 (Int32.not_lt.mpr c_2)) dX1_destination_25 ?_
        refine lv_goto (tgt := 35) hx hb dX1_destination_26 (by decide) ?_
        exact W.iret (v := M a.toNatClampNeg) hx hb hr (fun t ht hW => ⟨⟨M a.toNatClampNeg, (M, N, C, R, G, E, F, T, pc, ph, rd, th, lm, sh, tm, sn), rfl, ⟨Or.inl ⟨⟨c_1, (Int32.not_lt.mpr c_2)⟩, (if_pos c_3).symm⟩, rfl⟩, by rw [ht]; exact hP, va_K.moved hW.alike hK, hD⟩, hS.F ht⟩) hS.2.2 dX1_destination_35
    · refine lv_iconst (v := 0) hx hb dX1_destination_10 (by decide) ?_
      exact W.iret (v := 0) hx hb hr (fun t ht hW => ⟨⟨0, (M, N, C, R, G, E, F, T, pc, ph, rd, th, lm, sh, tm, sn), rfl, ⟨Or.inr ⟨rfl, fun h => h.2 (Int32.not_le.mp c_2)⟩, rfl⟩, by rw [ht]; exact hP, va_K.moved hW.alike hK, hD⟩, hS.F ht⟩) hS.2.2 dX1_destination_11
theorem inw_X1_register : ∀ w ∈ wsX10, w ∈ wsX1_register := fun _ h => List.mem_cons_of_mem _ (List.mem_append_right _ h)
set_option maxHeartbeats 4000000 in
set_option maxRecDepth 100000 in
theorem c_X1_register (l : Launch) (dC : Nat → ClassId) (dI : Nat → Nat → Nat) (h0 q1 q2 q3 q4 q5 q6 q7 q8 : Nat) (cA cJ cZ : ClassId) (M N C R : Nat → Int32) (G : Nat → Int64) (E F T : Nat → Int32) (pc ph rd th lm sh : Int32) (tm sn : Int64) (a : Int32) (sz : Nat) : Met l yX1_register wsX1_register ({ frames := 0, cells := 0, slots := 0, locals := 0 }) (va_Pc [.ref h0, .int a] (fun U => U.heap.size = sz ∧ va_P (dC, dI) vwCl (mr_W h0 q1 q2 q3 q4 q5 q6 q7 q8 cA cJ cZ (M, N, C, R, G, E, F, T, pc, ph, rd, th, lm, sh, tm, sn)) U.heap ∧ va_K (dC, dI) vwCl [(cA, .int), (cJ, .long), (cZ, .boolean)] U ∧ va_D (fun _ => True) (mr_W h0 q1 q2 q3 q4 q5 q6 q7 q8 cA cJ cZ (M, N, C, R, G, E, F, T, pc, ph, rd, th, lm, sh, tm, sn)))) (va_Qi (fun (r : Int32) (u : mrS) => ((¬ a < 0 ∧ ¬ 3 < a ∧ r = R a.toNatClampNeg) ∨ (r = 0 ∧ (a < 0 ∨ 3 < a))) ∧ u = (M, N, C, R, G, E, F, T, pc, ph, rd, th, lm, sh, tm, sn)) (at_mr dC dI h0 q1 q2 q3 q4 q5 q6 q7 q8 cA cJ cZ (va_A (mr_W h0 q1 q2 q3 q4 q5 q6 q7 q8 cA cJ cZ (M, N, C, R, G, E, F, T, pc, ph, rd, th, lm, sh, tm, sn)) sz)) (va_A (mr_W h0 q1 q2 q3 q4 q5 q6 q7 q8 cA cJ cZ (M, N, C, R, G, E, F, T, pc, ph, rd, th, lm, sh, tm, sn)) sz)) 0 0 (va_A (mr_W h0 q1 q2 q3 q4 q5 q6 q7 q8 cA cJ cZ (M, N, C, R, G, E, F, T, pc, ph, rd, th, lm, sh, tm, sn)) sz) := by
  refine Met.ofW (cc := cX1_register) (maxL := 2) (ret := (some .int)) (by decide) rfl ?_
  intro p e s m args below meth c s₁ B hml hv
  obtain ⟨rfl, hsz, hP, hK, hD0⟩ := hv
  have hx := B.exec
  have hb := B.bytes
  have hr := B.returns
  have hts := atoms_spec (ws := wsX1_register) B.pre
  have hown : s.vm.findClass RX1 = some m.cls := findClass_of_methodNamed B.named
  have hlocks := B.notSynchronized
  subst hsz
  have hD := hD0.self (sz := s.heap.size)
  generalize hAe : va_A (mr_W h0 q1 q2 q3 q4 q5 q6 q7 q8 cA cJ cZ (M, N, C, R, G, E, F, T, pc, ph, rd, th, lm, sh, tm, sn)) s.heap.size = A at hD ⊢
  have hA : ∀ q : Nat, s.heap.size ≤ q → A q := fun q h => by rw [← hAe]; exact Or.inr h
  have hS : va_S A s.heap s.heap [] := va_S.rf
  have hP : va_P (dC, dI) vwCl [(h0, .inr (1, [.ref q1, .ref q2, .ref q3, .ref q4, .ref q5, .ref q6, .ref q7, .ref q8, .int pc, .int ph, .int rd, .int th, .int lm, .int sh, .long tm, .long sn])), (q1, .inl (cA, 64, .inl M)), (q2, .inl (cA, 64, .inl N)), (q3, .inl (cA, 64, .inl C)), (q4, .inl (cA, 4, .inl R)), (q5, .inl (cJ, 8, .inr (.inl G))), (q6, .inl (cZ, 8, .inl E)), (q7, .inl (cZ, 8, .inl F)), (q8, .inl (cA, 8, .inl T))] s.heap := hP
  have hD : va_D A [(h0, .inr (1, [.ref q1, .ref q2, .ref q3, .ref q4, .ref q5, .ref q6, .ref q7, .ref q8, .int pc, .int ph, .int rd, .int th, .int lm, .int sh, .long tm, .long sn])), (q1, .inl (cA, 64, .inl M)), (q2, .inl (cA, 64, .inl N)), (q3, .inl (cA, 64, .inl C)), (q4, .inl (cA, 4, .inl R)), (q5, .inl (cJ, 8, .inr (.inl G))), (q6, .inl (cZ, 8, .inl E)), (q7, .inl (cZ, 8, .inl F)), (q8, .inl (cA, 8, .inl T))] := hD
  have hl := lv_entry ([.ref h0, .int a]) (n := 2) (Nat.le_of_ble_eq_true rfl)
  rw [lg_entry_eq]
  generalize (lg_sl ([.ref h0, .int a]) ++ List.replicate (2 - (lg_sl ([.ref h0, .int a])).length) Slot.unset).toArray = ls at hl ⊢
  have hl : lv_has ls 2 [(0, .ref h0), (1, .int a)] := hl
  refine lv_iload_n hx hb dX1_register_0 rfl (lv_at hl 1 rfl) ?_
  refine lv_if_lt (tgt := 9) hx hb dX1_register_1 (by decide) (fun c_1 => ?_) (fun c_1 => ?_)
  · refine lv_iconst (v := 0) hx hb dX1_register_9 (by decide) ?_
    refine lv_goto (tgt := 19) hx hb dX1_register_10 (by decide) ?_
    exact W.iret (v := 0) hx hb hr (fun t ht hW => ⟨⟨0, (M, N, C, R, G, E, F, T, pc, ph, rd, th, lm, sh, tm, sn), rfl, ⟨Or.inr ⟨rfl, Or.inl c_1⟩, rfl⟩, by rw [ht]; exact hP, va_K.moved hW.alike hK, hD⟩, hS.F ht⟩) hS.2.2 dX1_register_19
  · refine lv_iload_n hx hb dX1_register_4 rfl (lv_at hl 1 rfl) ?_
    refine lv_iconst (v := 3) hx hb dX1_register_5 (by decide) ?_
    refine lv_icmp_le (tgt := 13) hx hb dX1_register_6 (by decide) (fun c_2 => ?_) (fun c_2 => ?_)
    · refine lv_aload_n hx hb dX1_register_13 rfl (lv_at hl 0 rfl) ?_
      refine va_get (D := (dC, dI)) (ci := 1) (v := .ref q4) (C := RX1) (T := TX1) (N := 16) hx hb hts inw_X1_register hown hK hP 0 rfl rfl 3 (by decide) (hts (.fieldLink RX1 19 "MigratorModel" "reg" "[I") (by decide +kernel)) (fun _ h9 => h9) rfl dX1_register_14 ?_
      refine lv_iload_n hx hb dX1_register_17 rfl (lv_at hl 1 rfl) ?_
      refine va_iald hx hb hK hP 4 0 rfl rfl (in_le (y := 3) (by decide) c_1 (Int32.not_lt.mpr c_2)) dX1_register_18 ?_
      exact W.iret (v := R a.toNatClampNeg) hx hb hr (fun t ht hW => ⟨⟨R a.toNatClampNeg, (M, N, C, R, G, E, F, T, pc, ph, rd, th, lm, sh, tm, sn), rfl, ⟨Or.inl ⟨c_1, (Int32.not_lt.mpr c_2), rfl⟩, rfl⟩, by rw [ht]; exact hP, va_K.moved hW.alike hK, hD⟩, hS.F ht⟩) hS.2.2 dX1_register_19
    · refine lv_iconst (v := 0) hx hb dX1_register_9 (by decide) ?_
      refine lv_goto (tgt := 19) hx hb dX1_register_10 (by decide) ?_
      exact W.iret (v := 0) hx hb hr (fun t ht hW => ⟨⟨0, (M, N, C, R, G, E, F, T, pc, ph, rd, th, lm, sh, tm, sn), rfl, ⟨Or.inr ⟨rfl, Or.inr (Int32.not_le.mp c_2)⟩, rfl⟩, by rw [ht]; exact hP, va_K.moved hW.alike hK, hD⟩, hS.F ht⟩) hS.2.2 dX1_register_19
theorem inw_X1_shown : ∀ w ∈ wsX10, w ∈ wsX1_shown := fun _ h => List.mem_cons_of_mem _ (List.mem_append_right _ h)
set_option maxHeartbeats 4000000 in
set_option maxRecDepth 100000 in
theorem c_X1_shown (l : Launch) (dC : Nat → ClassId) (dI : Nat → Nat → Nat) (h0 q1 q2 q3 q4 q5 q6 q7 q8 : Nat) (cA cJ cZ : ClassId) (M N C R : Nat → Int32) (G : Nat → Int64) (E F T : Nat → Int32) (pc ph rd th lm sh : Int32) (tm sn : Int64) (a : Int32) (sz : Nat) : Met l yX1_shown wsX1_shown ({ frames := 0, cells := 0, slots := 0, locals := 0 }) (va_Pc [.ref h0, .int a] (fun U => U.heap.size = sz ∧ va_P (dC, dI) vwCl (mr_W h0 q1 q2 q3 q4 q5 q6 q7 q8 cA cJ cZ (M, N, C, R, G, E, F, T, pc, ph, rd, th, lm, sh, tm, sn)) U.heap ∧ va_K (dC, dI) vwCl [(cA, .int), (cJ, .long), (cZ, .boolean)] U ∧ va_D (fun _ => True) (mr_W h0 q1 q2 q3 q4 q5 q6 q7 q8 cA cJ cZ (M, N, C, R, G, E, F, T, pc, ph, rd, th, lm, sh, tm, sn)))) (va_Qi (fun (r : Int32) (u : mrS) => ((¬ a < 0 ∧ ¬ 7 < a ∧ ¬ sh ≤ a ∧ r = T a.toNatClampNeg) ∨ (r = 0 ∧ (a < 0 ∨ 7 < a ∨ sh ≤ a))) ∧ u = (M, N, C, R, G, E, F, T, pc, ph, rd, th, lm, sh, tm, sn)) (at_mr dC dI h0 q1 q2 q3 q4 q5 q6 q7 q8 cA cJ cZ (va_A (mr_W h0 q1 q2 q3 q4 q5 q6 q7 q8 cA cJ cZ (M, N, C, R, G, E, F, T, pc, ph, rd, th, lm, sh, tm, sn)) sz)) (va_A (mr_W h0 q1 q2 q3 q4 q5 q6 q7 q8 cA cJ cZ (M, N, C, R, G, E, F, T, pc, ph, rd, th, lm, sh, tm, sn)) sz)) 0 0 (va_A (mr_W h0 q1 q2 q3 q4 q5 q6 q7 q8 cA cJ cZ (M, N, C, R, G, E, F, T, pc, ph, rd, th, lm, sh, tm, sn)) sz) := by
  refine Met.ofW (cc := cX1_shown) (maxL := 2) (ret := (some .int)) (by decide) rfl ?_
  intro p e s m args below meth c s₁ B hml hv
  obtain ⟨rfl, hsz, hP, hK, hD0⟩ := hv
  have hx := B.exec
  have hb := B.bytes
  have hr := B.returns
  have hts := atoms_spec (ws := wsX1_shown) B.pre
  have hown : s.vm.findClass RX1 = some m.cls := findClass_of_methodNamed B.named
  have hlocks := B.notSynchronized
  subst hsz
  have hD := hD0.self (sz := s.heap.size)
  generalize hAe : va_A (mr_W h0 q1 q2 q3 q4 q5 q6 q7 q8 cA cJ cZ (M, N, C, R, G, E, F, T, pc, ph, rd, th, lm, sh, tm, sn)) s.heap.size = A at hD ⊢
  have hA : ∀ q : Nat, s.heap.size ≤ q → A q := fun q h => by rw [← hAe]; exact Or.inr h
  have hS : va_S A s.heap s.heap [] := va_S.rf
  have hP : va_P (dC, dI) vwCl [(h0, .inr (1, [.ref q1, .ref q2, .ref q3, .ref q4, .ref q5, .ref q6, .ref q7, .ref q8, .int pc, .int ph, .int rd, .int th, .int lm, .int sh, .long tm, .long sn])), (q1, .inl (cA, 64, .inl M)), (q2, .inl (cA, 64, .inl N)), (q3, .inl (cA, 64, .inl C)), (q4, .inl (cA, 4, .inl R)), (q5, .inl (cJ, 8, .inr (.inl G))), (q6, .inl (cZ, 8, .inl E)), (q7, .inl (cZ, 8, .inl F)), (q8, .inl (cA, 8, .inl T))] s.heap := hP
  have hD : va_D A [(h0, .inr (1, [.ref q1, .ref q2, .ref q3, .ref q4, .ref q5, .ref q6, .ref q7, .ref q8, .int pc, .int ph, .int rd, .int th, .int lm, .int sh, .long tm, .long sn])), (q1, .inl (cA, 64, .inl M)), (q2, .inl (cA, 64, .inl N)), (q3, .inl (cA, 64, .inl C)), (q4, .inl (cA, 4, .inl R)), (q5, .inl (cJ, 8, .inr (.inl G))), (q6, .inl (cZ, 8, .inl E)), (q7, .inl (cZ, 8, .inl F)), (q8, .inl (cA, 8, .inl T))] := hD
  have hl := lv_entry ([.ref h0, .int a]) (n := 2) (Nat.le_of_ble_eq_true rfl)
  rw [lg_entry_eq]
  generalize (lg_sl ([.ref h0, .int a]) ++ List.replicate (2 - (lg_sl ([.ref h0, .int a])).length) Slot.unset).toArray = ls at hl ⊢
  have hl : lv_has ls 2 [(0, .ref h0), (1, .int a)] := hl
  refine lv_iload_n hx hb dX1_shown_0 rfl (lv_at hl 1 rfl) ?_
  refine lv_if_lt (tgt := 18) hx hb dX1_shown_1 (by decide) (fun c_1 => ?_) (fun c_1 => ?_)
  · refine lv_iconst (v := 0) hx hb dX1_shown_18 (by decide) ?_
    refine lv_goto (tgt := 28) hx hb dX1_shown_19 (by decide) ?_
    exact W.iret (v := 0) hx hb hr (fun t ht hW => ⟨⟨0, (M, N, C, R, G, E, F, T, pc, ph, rd, th, lm, sh, tm, sn), rfl, ⟨Or.inr ⟨rfl, Or.inl c_1⟩, rfl⟩, by rw [ht]; exact hP, va_K.moved hW.alike hK, hD⟩, hS.F ht⟩) hS.2.2 dX1_shown_28
  · refine lv_iload_n hx hb dX1_shown_4 rfl (lv_at hl 1 rfl) ?_
    refine lv_bipush (v := 7) hx hb dX1_shown_5 (by decide) ?_
    refine lv_icmp_gt (tgt := 18) hx hb dX1_shown_7 (by decide) (fun c_2 => ?_) (fun c_2 => ?_)
    · refine lv_iconst (v := 0) hx hb dX1_shown_18 (by decide) ?_
      refine lv_goto (tgt := 28) hx hb dX1_shown_19 (by decide) ?_
      exact W.iret (v := 0) hx hb hr (fun t ht hW => ⟨⟨0, (M, N, C, R, G, E, F, T, pc, ph, rd, th, lm, sh, tm, sn), rfl, ⟨Or.inr ⟨rfl, Or.inr (Or.inl c_2)⟩, rfl⟩, by rw [ht]; exact hP, va_K.moved hW.alike hK, hD⟩, hS.F ht⟩) hS.2.2 dX1_shown_28
    · refine lv_iload_n hx hb dX1_shown_10 rfl (lv_at hl 1 rfl) ?_
      refine lv_aload_n hx hb dX1_shown_11 rfl (lv_at hl 0 rfl) ?_
      refine va_get (D := (dC, dI)) (ci := 1) (v := .int sh) (C := RX1) (T := TX1) (N := 16) hx hb hts inw_X1_shown hown hK hP 0 rfl rfl 13 (by decide) (hts (.fieldLink RX1 59 "MigratorModel" "shows" "I") (by decide +kernel)) (fun _ h9 => h9) rfl dX1_shown_12 ?_
      refine lv_icmp_lt (tgt := 22) hx hb dX1_shown_15 (by decide) (fun c_3 => ?_) (fun c_3 => ?_)
      · refine lv_aload_n hx hb dX1_shown_22 rfl (lv_at hl 0 rfl) ?_
        refine va_get (D := (dC, dI)) (ci := 1) (v := .ref q8) (C := RX1) (T := TX1) (N := 16) hx hb hts inw_X1_shown hown hK hP 0 rfl rfl 7 (by decide) (hts (.fieldLink RX1 33 "MigratorModel" "told" "[I") (by decide +kernel)) (fun _ h9 => h9) rfl dX1_shown_23 ?_
        refine lv_iload_n hx hb dX1_shown_26 rfl (lv_at hl 1 rfl) ?_
        refine va_iald hx hb hK hP 8 0 rfl rfl (in_le (y := 7) (by decide) c_1 c_2) dX1_shown_27 ?_
        exact W.iret (v := T a.toNatClampNeg) hx hb hr (fun t ht hW => ⟨⟨T a.toNatClampNeg, (M, N, C, R, G, E, F, T, pc, ph, rd, th, lm, sh, tm, sn), rfl, ⟨Or.inl ⟨c_1, c_2, Int32.not_le.mpr c_3, rfl⟩, rfl⟩, by rw [ht]; exact hP, va_K.moved hW.alike hK, hD⟩, hS.F ht⟩) hS.2.2 dX1_shown_28
      · refine lv_iconst (v := 0) hx hb dX1_shown_18 (by decide) ?_
        refine lv_goto (tgt := 28) hx hb dX1_shown_19 (by decide) ?_
        exact W.iret (v := 0) hx hb hr (fun t ht hW => ⟨⟨0, (M, N, C, R, G, E, F, T, pc, ph, rd, th, lm, sh, tm, sn), rfl, ⟨Or.inr ⟨rfl, Or.inr (Or.inr (Int32.not_lt.mp c_3))⟩, rfl⟩, by rw [ht]; exact hP, va_K.moved hW.alike hK, hD⟩, hS.F ht⟩) hS.2.2 dX1_shown_28
theorem inw_X1_poke : ∀ w ∈ wsX10, w ∈ wsX1_poke := fun _ h => List.mem_cons_of_mem _ (List.mem_append_right _ h)
set_option maxHeartbeats 4000000 in
set_option maxRecDepth 100000 in
theorem c_X1_poke (l : Launch) (dC : Nat → ClassId) (dI : Nat → Nat → Nat) (h0 q1 q2 q3 q4 q5 q6 q7 q8 : Nat) (cA cJ cZ : ClassId) (M N C R : Nat → Int32) (G : Nat → Int64) (E F T : Nat → Int32) (pc ph rd th lm sh : Int32) (tm sn : Int64) (a v : Int32) (sz : Nat) : Met l yX1_poke wsX1_poke ({ frames := 0, cells := 0, slots := 0, locals := 0 }) (va_Pc [.ref h0, .int a, .int v] (fun U => U.heap.size = sz ∧ va_P (dC, dI) vwCl (mr_W h0 q1 q2 q3 q4 q5 q6 q7 q8 cA cJ cZ (M, N, C, R, G, E, F, T, pc, ph, rd, th, lm, sh, tm, sn)) U.heap ∧ va_K (dC, dI) vwCl [(cA, .int), (cJ, .long), (cZ, .boolean)] U ∧ va_D (fun _ => True) (mr_W h0 q1 q2 q3 q4 q5 q6 q7 q8 cA cJ cZ (M, N, C, R, G, E, F, T, pc, ph, rd, th, lm, sh, tm, sn)))) (va_Qi (fun (r : Int32) (u : mrS) => (r = 1 ∧ (mr_ia a ∧ ph = 0) ∧ u = (upd M a.toNatClampNeg v, N, C, R, G, E, F, T, pc, ph, rd, th, lm, sh, tm, sn)) ∨ (r = 0 ∧ ¬ (mr_ia a ∧ ph = 0) ∧ u = (M, N, C, R, G, E, F, T, pc, ph, rd, th, lm, sh, tm, sn))) (at_mr dC dI h0 q1 q2 q3 q4 q5 q6 q7 q8 cA cJ cZ (va_A (mr_W h0 q1 q2 q3 q4 q5 q6 q7 q8 cA cJ cZ (M, N, C, R, G, E, F, T, pc, ph, rd, th, lm, sh, tm, sn)) sz)) (va_A (mr_W h0 q1 q2 q3 q4 q5 q6 q7 q8 cA cJ cZ (M, N, C, R, G, E, F, T, pc, ph, rd, th, lm, sh, tm, sn)) sz)) 0 0 (va_A (mr_W h0 q1 q2 q3 q4 q5 q6 q7 q8 cA cJ cZ (M, N, C, R, G, E, F, T, pc, ph, rd, th, lm, sh, tm, sn)) sz) := by
  refine Met.ofW (cc := cX1_poke) (maxL := 3) (ret := (some .boolean)) (by decide) rfl ?_
  intro p e s m args below meth c s₁ B hml hv
  obtain ⟨rfl, hsz, hP, hK, hD0⟩ := hv
  have hx := B.exec
  have hb := B.bytes
  have hr := B.returns
  have hts := atoms_spec (ws := wsX1_poke) B.pre
  have hown : s.vm.findClass RX1 = some m.cls := findClass_of_methodNamed B.named
  have hlocks := B.notSynchronized
  subst hsz
  have hD := hD0.self (sz := s.heap.size)
  generalize hAe : va_A (mr_W h0 q1 q2 q3 q4 q5 q6 q7 q8 cA cJ cZ (M, N, C, R, G, E, F, T, pc, ph, rd, th, lm, sh, tm, sn)) s.heap.size = A at hD ⊢
  have hA : ∀ q : Nat, s.heap.size ≤ q → A q := fun q h => by rw [← hAe]; exact Or.inr h
  have hS : va_S A s.heap s.heap [] := va_S.rf
  have hP : va_P (dC, dI) vwCl [(h0, .inr (1, [.ref q1, .ref q2, .ref q3, .ref q4, .ref q5, .ref q6, .ref q7, .ref q8, .int pc, .int ph, .int rd, .int th, .int lm, .int sh, .long tm, .long sn])), (q1, .inl (cA, 64, .inl M)), (q2, .inl (cA, 64, .inl N)), (q3, .inl (cA, 64, .inl C)), (q4, .inl (cA, 4, .inl R)), (q5, .inl (cJ, 8, .inr (.inl G))), (q6, .inl (cZ, 8, .inl E)), (q7, .inl (cZ, 8, .inl F)), (q8, .inl (cA, 8, .inl T))] s.heap := hP
  have hD : va_D A [(h0, .inr (1, [.ref q1, .ref q2, .ref q3, .ref q4, .ref q5, .ref q6, .ref q7, .ref q8, .int pc, .int ph, .int rd, .int th, .int lm, .int sh, .long tm, .long sn])), (q1, .inl (cA, 64, .inl M)), (q2, .inl (cA, 64, .inl N)), (q3, .inl (cA, 64, .inl C)), (q4, .inl (cA, 4, .inl R)), (q5, .inl (cJ, 8, .inr (.inl G))), (q6, .inl (cZ, 8, .inl E)), (q7, .inl (cZ, 8, .inl F)), (q8, .inl (cA, 8, .inl T))] := hD
  have hl := lv_entry ([.ref h0, .int a, .int v]) (n := 3) (Nat.le_of_ble_eq_true rfl)
  rw [lg_entry_eq]
  generalize (lg_sl ([.ref h0, .int a, .int v]) ++ List.replicate (3 - (lg_sl ([.ref h0, .int a, .int v])).length) Slot.unset).toArray = ls at hl ⊢
  have hl : lv_has ls 3 [(0, .ref h0), (1, .int a), (2, .int v)] := hl
  refine lv_iload_n hx hb dX1_poke_0 rfl (lv_at hl 1 rfl) ?_
  refine lv_if_lt (tgt := 17) hx hb dX1_poke_1 (by decide) (fun c_1 => ?_) (fun c_1 => ?_)
  · refine lv_iconst (v := 0) hx hb dX1_poke_17 (by decide) ?_
    exact W.zret (v := 0) (ty := .boolean) hx hb hr rfl (fun t ht hW => ⟨⟨0, (M, N, C, R, G, E, F, T, pc, ph, rd, th, lm, sh, tm, sn), rfl, Or.inr ⟨rfl, fun h => h.1.1 c_1, rfl⟩, by rw [ht]; exact hP, va_K.moved hW.alike hK, hD⟩, hS.F ht⟩) hS.2.2 dX1_poke_18
  · refine lv_iload_n hx hb dX1_poke_4 rfl (lv_at hl 1 rfl) ?_
    refine lv_bipush (v := 63) hx hb dX1_poke_5 (by decide) ?_
    refine lv_icmp_gt (tgt := 17) hx hb dX1_poke_7 (by decide) (fun c_2 => ?_) (fun c_2 => ?_)
    · refine lv_iconst (v := 0) hx hb dX1_poke_17 (by decide) ?_
      exact W.zret (v := 0) (ty := .boolean) hx hb hr rfl (fun t ht hW => ⟨⟨0, (M, N, C, R, G, E, F, T, pc, ph, rd, th, lm, sh, tm, sn), rfl, Or.inr ⟨rfl, fun h => h.1.2 c_2, rfl⟩, by rw [ht]; exact hP, va_K.moved hW.alike hK, hD⟩, hS.F ht⟩) hS.2.2 dX1_poke_18
    · refine lv_aload_n hx hb dX1_poke_10 rfl (lv_at hl 0 rfl) ?_
      refine va_get (D := (dC, dI)) (ci := 1) (v := .int ph) (C := RX1) (T := TX1) (N := 16) hx hb hts inw_X1_poke hown hK hP 0 rfl rfl 9 (by decide) (hts (.fieldLink RX1 36 "MigratorModel" "phase" "I") (by decide +kernel)) (fun _ h9 => h9) rfl dX1_poke_11 ?_
      refine lv_if_eq (tgt := 19) hx hb dX1_poke_14 (by decide) (fun c_3 => ?_) (fun c_3 => ?_)
      · refine lv_aload_n hx hb dX1_poke_19 rfl (lv_at hl 0 rfl) ?_
        refine va_get (D := (dC, dI)) (ci := 1) (v := .ref q1) (C := RX1) (T := TX1) (N := 16) hx hb hts inw_X1_poke hown hK hP 0 rfl rfl 0 (by decide) (hts (.fieldLink RX1 7 "MigratorModel" "real" "[I") (by decide +kernel)) (fun _ h9 => h9) rfl dX1_poke_20 ?_
        refine lv_iload_n hx hb dX1_poke_23 rfl (lv_at hl 1 rfl) ?_
        refine lv_iload_n hx hb dX1_poke_24 rfl (lv_at hl 2 rfl) ?_
        refine va_iast hx hb hK hP hD hS 1 0 rfl rfl (in_le (y := 63) (by decide) c_1 c_2) dX1_poke_25 (fun H locs hP hD hS => ?_)
        have hP : va_P (dC, dI) vwCl [(h0, .inr (1, [.ref q1, .ref q2, .ref q3, .ref q4, .ref q5, .ref q6, .ref q7, .ref q8, .int pc, .int ph, .int rd, .int th, .int lm, .int sh, .long tm, .long sn])), (q1, .inl (cA, 64, .inl (upd M a.toNatClampNeg v))), (q2, .inl (cA, 64, .inl N)), (q3, .inl (cA, 64, .inl C)), (q4, .inl (cA, 4, .inl R)), (q5, .inl (cJ, 8, .inr (.inl G))), (q6, .inl (cZ, 8, .inl E)), (q7, .inl (cZ, 8, .inl F)), (q8, .inl (cA, 8, .inl T))] H := hP
        have hD : va_D A [(h0, .inr (1, [.ref q1, .ref q2, .ref q3, .ref q4, .ref q5, .ref q6, .ref q7, .ref q8, .int pc, .int ph, .int rd, .int th, .int lm, .int sh, .long tm, .long sn])), (q1, .inl (cA, 64, .inl (upd M a.toNatClampNeg v))), (q2, .inl (cA, 64, .inl N)), (q3, .inl (cA, 64, .inl C)), (q4, .inl (cA, 4, .inl R)), (q5, .inl (cJ, 8, .inr (.inl G))), (q6, .inl (cZ, 8, .inl E)), (q7, .inl (cZ, 8, .inl F)), (q8, .inl (cA, 8, .inl T))] := hD
        refine lv_iconst (v := 1) hx hb dX1_poke_26 (by decide) ?_
        exact W.zret (v := 1) (ty := .boolean) hx hb hr rfl (fun t ht hW => ⟨⟨1, (upd M a.toNatClampNeg v, N, C, R, G, E, F, T, pc, ph, rd, th, lm, sh, tm, sn), rfl, Or.inl ⟨rfl, ⟨⟨c_1, c_2⟩, c_3⟩, rfl⟩, by rw [ht]; exact hP, va_K.moved hW.alike hK, hD⟩, hS.F ht⟩) hS.2.2 dX1_poke_27
      · refine lv_iconst (v := 0) hx hb dX1_poke_17 (by decide) ?_
        exact W.zret (v := 0) (ty := .boolean) hx hb hr rfl (fun t ht hW => ⟨⟨0, (M, N, C, R, G, E, F, T, pc, ph, rd, th, lm, sh, tm, sn), rfl, Or.inr ⟨rfl, fun h => c_3 h.2, rfl⟩, by rw [ht]; exact hP, va_K.moved hW.alike hK, hD⟩, hS.F ht⟩) hS.2.2 dX1_poke_18
