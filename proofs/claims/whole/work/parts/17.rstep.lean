theorem inw_X1_begin : ∀ w ∈ wsX10, w ∈ wsX1_begin := fun _ h => List.mem_cons_of_mem _ (List.mem_append_right _ h)
set_option maxHeartbeats 4000000 in
set_option maxRecDepth 100000 in
theorem c_X1_begin (l : Launch) (dC : Nat → ClassId) (dI : Nat → Nat → Nat) (h0 q1 q2 q3 q4 q5 q6 q7 q8 : Nat) (cA cJ cZ : ClassId) (M N C R : Nat → Int32) (G : Nat → Int64) (E F T : Nat → Int32) (pc ph rd th lm sh : Int32) (tm sn : Int64) (a b : Int32) (sz : Nat) : Met l yX1_begin wsX1_begin ({ frames := 0, cells := 0, slots := 0, locals := 0 }) (va_Pc [.ref h0, .int a, .int b] (fun U => U.heap.size = sz ∧ va_P (dC, dI) vwCl (mr_W h0 q1 q2 q3 q4 q5 q6 q7 q8 cA cJ cZ (M, N, C, R, G, E, F, T, pc, ph, rd, th, lm, sh, tm, sn)) U.heap ∧ va_K (dC, dI) vwCl [(cA, .int), (cJ, .long), (cZ, .boolean)] U ∧ va_D (fun _ => True) (mr_W h0 q1 q2 q3 q4 q5 q6 q7 q8 cA cJ cZ (M, N, C, R, G, E, F, T, pc, ph, rd, th, lm, sh, tm, sn)))) (va_Qi (fun (r : Int32) (u : mrS) => (r = 1 ∧ mr_bg ph a b ∧ u = (M, N, C, R, G, mr_en 8 E, F, T, pc, 1, 1, a, b, sh, tm, tm)) ∨ (r = 0 ∧ ¬ mr_bg ph a b ∧ u = (M, N, C, R, G, E, F, T, pc, ph, rd, th, lm, sh, tm, sn))) (at_mr dC dI h0 q1 q2 q3 q4 q5 q6 q7 q8 cA cJ cZ (va_A (mr_W h0 q1 q2 q3 q4 q5 q6 q7 q8 cA cJ cZ (M, N, C, R, G, E, F, T, pc, ph, rd, th, lm, sh, tm, sn)) sz)) (va_A (mr_W h0 q1 q2 q3 q4 q5 q6 q7 q8 cA cJ cZ (M, N, C, R, G, E, F, T, pc, ph, rd, th, lm, sh, tm, sn)) sz)) 0 0 (va_A (mr_W h0 q1 q2 q3 q4 q5 q6 q7 q8 cA cJ cZ (M, N, C, R, G, E, F, T, pc, ph, rd, th, lm, sh, tm, sn)) sz) := by
  refine Met.ofW (cc := cX1_begin) (maxL := 4) (ret := (some .boolean)) (by decide) rfl ?_
  intro p e s m args below meth c s₁ B hml hv
  obtain ⟨rfl, hsz, hP, hK, hD0⟩ := hv
  have hx := B.exec
  have hb := B.bytes
  have hr := B.returns
  have hts := atoms_spec (ws := wsX1_begin) B.pre
  have hown : s.vm.findClass RX1 = some m.cls := findClass_of_methodNamed B.named
  have hlocks := B.notSynchronized
  subst hsz
  have hD := hD0.self (sz := s.heap.size)
  generalize hAe : va_A (mr_W h0 q1 q2 q3 q4 q5 q6 q7 q8 cA cJ cZ (M, N, C, R, G, E, F, T, pc, ph, rd, th, lm, sh, tm, sn)) s.heap.size = A at hD ⊢
  have hA : ∀ q : Nat, s.heap.size ≤ q → A q := fun q h => by rw [← hAe]; exact Or.inr h
  have hS : va_S A s.heap s.heap [] := va_S.rf
  have hP : va_P (dC, dI) vwCl [(h0, .inr (1, [.ref q1, .ref q2, .ref q3, .ref q4, .ref q5, .ref q6, .ref q7, .ref q8, .int pc, .int ph, .int rd, .int th, .int lm, .int sh, .long tm, .long sn])), (q1, .inl (cA, 64, .inl M)), (q2, .inl (cA, 64, .inl N)), (q3, .inl (cA, 64, .inl C)), (q4, .inl (cA, 4, .inl R)), (q5, .inl (cJ, 8, .inr (.inl G))), (q6, .inl (cZ, 8, .inl E)), (q7, .inl (cZ, 8, .inl F)), (q8, .inl (cA, 8, .inl T))] s.heap := hP
  have hD : va_D A [(h0, .inr (1, [.ref q1, .ref q2, .ref q3, .ref q4, .ref q5, .ref q6, .ref q7, .ref q8, .int pc, .int ph, .int rd, .int th, .int lm, .int sh, .long tm, .long sn])), (q1, .inl (cA, 64, .inl M)), (q2, .inl (cA, 64, .inl N)), (q3, .inl (cA, 64, .inl C)), (q4, .inl (cA, 4, .inl R)), (q5, .inl (cJ, 8, .inr (.inl G))), (q6, .inl (cZ, 8, .inl E)), (q7, .inl (cZ, 8, .inl F)), (q8, .inl (cA, 8, .inl T))] := hD
  have hl := lv_entry ([.ref h0, .int a, .int b]) (n := 4) (Nat.le_of_ble_eq_true rfl)
  rw [lg_entry_eq]
  generalize (lg_sl ([.ref h0, .int a, .int b]) ++ List.replicate (4 - (lg_sl ([.ref h0, .int a, .int b])).length) Slot.unset).toArray = ls at hl ⊢
  have hl : lv_has ls 4 [(0, .ref h0), (1, .int a), (2, .int b)] := hl
  refine lv_iload_n hx hb dX1_begin_0 rfl (lv_at hl 1 rfl) ?_
  refine lv_if_lt (tgt := 28) hx hb dX1_begin_1 (by decide) (fun c_1 => ?_) (fun c_1 => ?_)
  · refine lv_iconst (v := 0) hx hb dX1_begin_28 (by decide) ?_
    exact W.zret (v := 0) (ty := .boolean) hx hb hr rfl (fun t ht hW => ⟨⟨0, (M, N, C, R, G, E, F, T, pc, ph, rd, th, lm, sh, tm, sn), rfl, Or.inr ⟨rfl, fun h => h.1 c_1, rfl⟩, by rw [ht]; exact hP, va_K.moved hW.alike hK, hD⟩, hS.F ht⟩) hS.2.2 dX1_begin_29
  · refine lv_iload_n hx hb dX1_begin_4 rfl (lv_at hl 1 rfl) ?_
    refine lv_bipush (v := 8) hx hb dX1_begin_5 (by decide) ?_
    refine lv_icmp_gt (tgt := 28) hx hb dX1_begin_7 (by decide) (fun c_2 => ?_) (fun c_2 => ?_)
    · refine lv_iconst (v := 0) hx hb dX1_begin_28 (by decide) ?_
      exact W.zret (v := 0) (ty := .boolean) hx hb hr rfl (fun t ht hW => ⟨⟨0, (M, N, C, R, G, E, F, T, pc, ph, rd, th, lm, sh, tm, sn), rfl, Or.inr ⟨rfl, fun h => h.2.1 c_2, rfl⟩, by rw [ht]; exact hP, va_K.moved hW.alike hK, hD⟩, hS.F ht⟩) hS.2.2 dX1_begin_29
    · refine lv_iload_n hx hb dX1_begin_10 rfl (lv_at hl 2 rfl) ?_
      refine lv_iconst (v := 1) hx hb dX1_begin_11 (by decide) ?_
      refine lv_icmp_lt (tgt := 28) hx hb dX1_begin_12 (by decide) (fun c_3 => ?_) (fun c_3 => ?_)
      · refine lv_iconst (v := 0) hx hb dX1_begin_28 (by decide) ?_
        exact W.zret (v := 0) (ty := .boolean) hx hb hr rfl (fun t ht hW => ⟨⟨0, (M, N, C, R, G, E, F, T, pc, ph, rd, th, lm, sh, tm, sn), rfl, Or.inr ⟨rfl, fun h => h.2.2.1 c_3, rfl⟩, by rw [ht]; exact hP, va_K.moved hW.alike hK, hD⟩, hS.F ht⟩) hS.2.2 dX1_begin_29
      · refine lv_iload_n hx hb dX1_begin_15 rfl (lv_at hl 2 rfl) ?_
        refine lv_bipush (v := 20) hx hb dX1_begin_16 (by decide) ?_
        refine lv_icmp_gt (tgt := 28) hx hb dX1_begin_18 (by decide) (fun c_4 => ?_) (fun c_4 => ?_)
        · refine lv_iconst (v := 0) hx hb dX1_begin_28 (by decide) ?_
          exact W.zret (v := 0) (ty := .boolean) hx hb hr rfl (fun t ht hW => ⟨⟨0, (M, N, C, R, G, E, F, T, pc, ph, rd, th, lm, sh, tm, sn), rfl, Or.inr ⟨rfl, fun h => h.2.2.2.1 c_4, rfl⟩, by rw [ht]; exact hP, va_K.moved hW.alike hK, hD⟩, hS.F ht⟩) hS.2.2 dX1_begin_29
        · refine lv_aload_n hx hb dX1_begin_21 rfl (lv_at hl 0 rfl) ?_
          refine va_get (D := (dC, dI)) (ci := 1) (v := .int ph) (C := RX1) (T := TX1) (N := 16) hx hb hts inw_X1_begin hown hK hP 0 rfl rfl 9 (by decide) (hts (.fieldLink RX1 36 "MigratorModel" "phase" "I") (by decide +kernel)) (fun _ h9 => h9) rfl dX1_begin_22 ?_
          refine lv_if_eq (tgt := 30) hx hb dX1_begin_25 (by decide) (fun c_5 => ?_) (fun c_5 => ?_)
          · refine lv_aload_n hx hb dX1_begin_30 rfl (lv_at hl 0 rfl) ?_
            refine lv_iload_n hx hb dX1_begin_31 rfl (lv_at hl 1 rfl) ?_
            refine va_put (D := (dC, dI)) (ci := 1) (v := .int a) (ty := .int) (C := RX1) (T := TX1) (N := 16) hx hb hts inw_X1_begin tyX1 tyX1_ok nmX1 hown hK hP hD hS 0 rfl rfl 11 (by decide) (hts (.fieldLink RX1 40 "MigratorModel" "threshold" "I") (by decide +kernel)) (fun _ h9 => h9) rfl (by decide +kernel) rfl rfl (Nat.le_of_ble_eq_true rfl) dX1_begin_32 (fun H locs hP hD hS => ?_)
            have hP : va_P (dC, dI) vwCl [(h0, .inr (1, [.ref q1, .ref q2, .ref q3, .ref q4, .ref q5, .ref q6, .ref q7, .ref q8, .int pc, .int ph, .int rd, .int a, .int lm, .int sh, .long tm, .long sn])), (q1, .inl (cA, 64, .inl M)), (q2, .inl (cA, 64, .inl N)), (q3, .inl (cA, 64, .inl C)), (q4, .inl (cA, 4, .inl R)), (q5, .inl (cJ, 8, .inr (.inl G))), (q6, .inl (cZ, 8, .inl E)), (q7, .inl (cZ, 8, .inl F)), (q8, .inl (cA, 8, .inl T))] H := hP
            have hD : va_D A [(h0, .inr (1, [.ref q1, .ref q2, .ref q3, .ref q4, .ref q5, .ref q6, .ref q7, .ref q8, .int pc, .int ph, .int rd, .int a, .int lm, .int sh, .long tm, .long sn])), (q1, .inl (cA, 64, .inl M)), (q2, .inl (cA, 64, .inl N)), (q3, .inl (cA, 64, .inl C)), (q4, .inl (cA, 4, .inl R)), (q5, .inl (cJ, 8, .inr (.inl G))), (q6, .inl (cZ, 8, .inl E)), (q7, .inl (cZ, 8, .inl F)), (q8, .inl (cA, 8, .inl T))] := hD
            refine lv_aload_n hx hb dX1_begin_35 rfl (lv_at hl 0 rfl) ?_
            refine lv_iload_n hx hb dX1_begin_36 rfl (lv_at hl 2 rfl) ?_
            refine va_put (D := (dC, dI)) (ci := 1) (v := .int b) (ty := .int) (C := RX1) (T := TX1) (N := 16) hx hb hts inw_X1_begin tyX1 tyX1_ok nmX1 hown hK hP hD hS 0 rfl rfl 12 (by decide) (hts (.fieldLink RX1 43 "MigratorModel" "limit" "I") (by decide +kernel)) (fun _ h9 => h9) rfl (by decide +kernel) rfl rfl (Nat.le_of_ble_eq_true rfl) dX1_begin_37 (fun H locs hP hD hS => ?_)
            have hP : va_P (dC, dI) vwCl [(h0, .inr (1, [.ref q1, .ref q2, .ref q3, .ref q4, .ref q5, .ref q6, .ref q7, .ref q8, .int pc, .int ph, .int rd, .int a, .int b, .int sh, .long tm, .long sn])), (q1, .inl (cA, 64, .inl M)), (q2, .inl (cA, 64, .inl N)), (q3, .inl (cA, 64, .inl C)), (q4, .inl (cA, 4, .inl R)), (q5, .inl (cJ, 8, .inr (.inl G))), (q6, .inl (cZ, 8, .inl E)), (q7, .inl (cZ, 8, .inl F)), (q8, .inl (cA, 8, .inl T))] H := hP
            have hD : va_D A [(h0, .inr (1, [.ref q1, .ref q2, .ref q3, .ref q4, .ref q5, .ref q6, .ref q7, .ref q8, .int pc, .int ph, .int rd, .int a, .int b, .int sh, .long tm, .long sn])), (q1, .inl (cA, 64, .inl M)), (q2, .inl (cA, 64, .inl N)), (q3, .inl (cA, 64, .inl C)), (q4, .inl (cA, 4, .inl R)), (q5, .inl (cJ, 8, .inr (.inl G))), (q6, .inl (cZ, 8, .inl E)), (q7, .inl (cZ, 8, .inl F)), (q8, .inl (cA, 8, .inl T))] := hD
            refine lv_aload_n hx hb dX1_begin_40 rfl (lv_at hl 0 rfl) ?_
            refine lv_iconst (v := 1) hx hb dX1_begin_41 (by decide) ?_
            refine va_put (D := (dC, dI)) (ci := 1) (v := .int 1) (ty := .int) (C := RX1) (T := TX1) (N := 16) hx hb hts inw_X1_begin tyX1 tyX1_ok nmX1 hown hK hP hD hS 0 rfl rfl 9 (by decide) (hts (.fieldLink RX1 36 "MigratorModel" "phase" "I") (by decide +kernel)) (fun _ h9 => h9) rfl (by decide +kernel) rfl rfl (Nat.le_of_ble_eq_true rfl) dX1_begin_42 (fun H locs hP hD hS => ?_)
            have hP : va_P (dC, dI) vwCl [(h0, .inr (1, [.ref q1, .ref q2, .ref q3, .ref q4, .ref q5, .ref q6, .ref q7, .ref q8, .int pc, .int 1, .int rd, .int a, .int b, .int sh, .long tm, .long sn])), (q1, .inl (cA, 64, .inl M)), (q2, .inl (cA, 64, .inl N)), (q3, .inl (cA, 64, .inl C)), (q4, .inl (cA, 4, .inl R)), (q5, .inl (cJ, 8, .inr (.inl G))), (q6, .inl (cZ, 8, .inl E)), (q7, .inl (cZ, 8, .inl F)), (q8, .inl (cA, 8, .inl T))] H := hP
            have hD : va_D A [(h0, .inr (1, [.ref q1, .ref q2, .ref q3, .ref q4, .ref q5, .ref q6, .ref q7, .ref q8, .int pc, .int 1, .int rd, .int a, .int b, .int sh, .long tm, .long sn])), (q1, .inl (cA, 64, .inl M)), (q2, .inl (cA, 64, .inl N)), (q3, .inl (cA, 64, .inl C)), (q4, .inl (cA, 4, .inl R)), (q5, .inl (cJ, 8, .inr (.inl G))), (q6, .inl (cZ, 8, .inl E)), (q7, .inl (cZ, 8, .inl F)), (q8, .inl (cA, 8, .inl T))] := hD
            refine lv_aload_n hx hb dX1_begin_45 rfl (lv_at hl 0 rfl) ?_
            refine lv_iconst (v := 1) hx hb dX1_begin_46 (by decide) ?_
            refine va_put (D := (dC, dI)) (ci := 1) (v := .int 1) (ty := .int) (C := RX1) (T := TX1) (N := 16) hx hb hts inw_X1_begin tyX1 tyX1_ok nmX1 hown hK hP hD hS 0 rfl rfl 10 (by decide) (hts (.fieldLink RX1 46 "MigratorModel" "round" "I") (by decide +kernel)) (fun _ h9 => h9) rfl (by decide +kernel) rfl rfl (Nat.le_of_ble_eq_true rfl) dX1_begin_47 (fun H locs hP hD hS => ?_)
            have hP : va_P (dC, dI) vwCl [(h0, .inr (1, [.ref q1, .ref q2, .ref q3, .ref q4, .ref q5, .ref q6, .ref q7, .ref q8, .int pc, .int 1, .int 1, .int a, .int b, .int sh, .long tm, .long sn])), (q1, .inl (cA, 64, .inl M)), (q2, .inl (cA, 64, .inl N)), (q3, .inl (cA, 64, .inl C)), (q4, .inl (cA, 4, .inl R)), (q5, .inl (cJ, 8, .inr (.inl G))), (q6, .inl (cZ, 8, .inl E)), (q7, .inl (cZ, 8, .inl F)), (q8, .inl (cA, 8, .inl T))] H := hP
            have hD : va_D A [(h0, .inr (1, [.ref q1, .ref q2, .ref q3, .ref q4, .ref q5, .ref q6, .ref q7, .ref q8, .int pc, .int 1, .int 1, .int a, .int b, .int sh, .long tm, .long sn])), (q1, .inl (cA, 64, .inl M)), (q2, .inl (cA, 64, .inl N)), (q3, .inl (cA, 64, .inl C)), (q4, .inl (cA, 4, .inl R)), (q5, .inl (cJ, 8, .inr (.inl G))), (q6, .inl (cZ, 8, .inl E)), (q7, .inl (cZ, 8, .inl F)), (q8, .inl (cA, 8, .inl T))] := hD
            refine lv_aload_n hx hb dX1_begin_50 rfl (lv_at hl 0 rfl) ?_
            refine lv_aload_n hx hb dX1_begin_51 rfl (lv_at hl 0 rfl) ?_
            refine va_get (D := (dC, dI)) (ci := 1) (v := .long tm) (C := RX1) (T := TX1) (N := 16) hx hb hts inw_X1_begin hown hK hP 0 rfl rfl 14 (by decide) (hts (.fieldLink RX1 49 "MigratorModel" "time" "J") (by decide +kernel)) (fun _ h9 => h9) rfl dX1_begin_52 ?_
            refine va_put (D := (dC, dI)) (ci := 1) (v := .long tm) (ty := .long) (C := RX1) (T := TX1) (N := 16) hx hb hts inw_X1_begin tyX1 tyX1_ok nmX1 hown hK hP hD hS 0 rfl rfl 15 (by decide) (hts (.fieldLink RX1 53 "MigratorModel" "since" "J") (by decide +kernel)) (fun _ h9 => h9) rfl (by decide +kernel) rfl rfl (Nat.le_of_ble_eq_true rfl) dX1_begin_55 (fun H locs hP hD hS => ?_)
            have hP : va_P (dC, dI) vwCl [(h0, .inr (1, [.ref q1, .ref q2, .ref q3, .ref q4, .ref q5, .ref q6, .ref q7, .ref q8, .int pc, .int 1, .int 1, .int a, .int b, .int sh, .long tm, .long tm])), (q1, .inl (cA, 64, .inl M)), (q2, .inl (cA, 64, .inl N)), (q3, .inl (cA, 64, .inl C)), (q4, .inl (cA, 4, .inl R)), (q5, .inl (cJ, 8, .inr (.inl G))), (q6, .inl (cZ, 8, .inl E)), (q7, .inl (cZ, 8, .inl F)), (q8, .inl (cA, 8, .inl T))] H := hP
            have hD : va_D A [(h0, .inr (1, [.ref q1, .ref q2, .ref q3, .ref q4, .ref q5, .ref q6, .ref q7, .ref q8, .int pc, .int 1, .int 1, .int a, .int b, .int sh, .long tm, .long tm])), (q1, .inl (cA, 64, .inl M)), (q2, .inl (cA, 64, .inl N)), (q3, .inl (cA, 64, .inl C)), (q4, .inl (cA, 4, .inl R)), (q5, .inl (cJ, 8, .inr (.inl G))), (q6, .inl (cZ, 8, .inl E)), (q7, .inl (cZ, 8, .inl F)), (q8, .inl (cA, 8, .inl T))] := hD
            refine lv_iconst (v := 0) hx hb dX1_begin_58 (by decide) ?_
            refine lv_istore_n (lv' := [(3, .int 0), (0, .ref h0), (1, .int a), (2, .int b)]) hx hb dX1_begin_59 rfl hl (by decide) rfl (fun ls hl => ?_)
            have loop : ∀ (Q0 : State → Prop), (∀ (Ex : Nat → Int32) (H : Heap) (locs : List Loc) (ls : Array Slot), Ex = mr_en 8 E → va_P (dC, dI) vwCl [(h0, .inr (1, [.ref q1, .ref q2, .ref q3, .ref q4, .ref q5, .ref q6, .ref q7, .ref q8, .int pc, .int 1, .int 1, .int a, .int b, .int sh, .long tm, .long tm])), (q1, .inl (cA, 64, .inl M)), (q2, .inl (cA, 64, .inl N)), (q3, .inl (cA, 64, .inl C)), (q4, .inl (cA, 4, .inl R)), (q5, .inl (cJ, 8, .inr (.inl G))), (q6, .inl (cZ, 8, .inl Ex)), (q7, .inl (cZ, 8, .inl F)), (q8, .inl (cA, 8, .inl T))] H → va_D A [(h0, .inr (1, [.ref q1, .ref q2, .ref q3, .ref q4, .ref q5, .ref q6, .ref q7, .ref q8, .int pc, .int 1, .int 1, .int a, .int b, .int sh, .long tm, .long tm])), (q1, .inl (cA, 64, .inl M)), (q2, .inl (cA, 64, .inl N)), (q3, .inl (cA, 64, .inl C)), (q4, .inl (cA, 4, .inl R)), (q5, .inl (cJ, 8, .inr (.inl G))), (q6, .inl (cZ, 8, .inl Ex)), (q7, .inl (cZ, 8, .inl F)), (q8, .inl (cA, 8, .inl T))] → va_S A s.heap H locs → lv_has ls 4 [(3, .int (nI 8)), (0, .ref h0), (1, .int a), (2, .int b)] → W p l e (headSpec wsX1_begin { frames := 0, cells := 0, slots := 0, locals := 0 }).room s m ([.ref h0, .int a, .int b] : List Value).toArray below meth c H locs 0 0 Q0 (F0 m 79 ls [])) → ∀ (kx ix : Nat) (Ex : Nat → Int32) (H : Heap) (locs : List Loc) (ls : Array Slot), ix + kx = 8 → Ex = mr_en ix E → va_P (dC, dI) vwCl [(h0, .inr (1, [.ref q1, .ref q2, .ref q3, .ref q4, .ref q5, .ref q6, .ref q7, .ref q8, .int pc, .int 1, .int 1, .int a, .int b, .int sh, .long tm, .long tm])), (q1, .inl (cA, 64, .inl M)), (q2, .inl (cA, 64, .inl N)), (q3, .inl (cA, 64, .inl C)), (q4, .inl (cA, 4, .inl R)), (q5, .inl (cJ, 8, .inr (.inl G))), (q6, .inl (cZ, 8, .inl Ex)), (q7, .inl (cZ, 8, .inl F)), (q8, .inl (cA, 8, .inl T))] H → va_D A [(h0, .inr (1, [.ref q1, .ref q2, .ref q3, .ref q4, .ref q5, .ref q6, .ref q7, .ref q8, .int pc, .int 1, .int 1, .int a, .int b, .int sh, .long tm, .long tm])), (q1, .inl (cA, 64, .inl M)), (q2, .inl (cA, 64, .inl N)), (q3, .inl (cA, 64, .inl C)), (q4, .inl (cA, 4, .inl R)), (q5, .inl (cJ, 8, .inr (.inl G))), (q6, .inl (cZ, 8, .inl Ex)), (q7, .inl (cZ, 8, .inl F)), (q8, .inl (cA, 8, .inl T))] → va_S A s.heap H locs → lv_has ls 4 [(3, .int (nI ix)), (0, .ref h0), (1, .int a), (2, .int b)] → W p l e (headSpec wsX1_begin { frames := 0, cells := 0, slots := 0, locals := 0 }).room s m ([.ref h0, .int a, .int b] : List Value).toArray below meth c H locs 0 0 Q0 (F0 m 60 ls []) := by
              intro Q0 hQ kx
              induction kx with
              | zero =>
                intro ix Ex H locs ls hk hi0 hP hD hS hl
                have hz : ix = 8 := by omega
                subst hz
                refine lv_iload_n hx hb dX1_begin_60 rfl (lv_at hl 0 rfl) ?_
                refine lv_bipush (v := 8) hx hb dX1_begin_61 (by decide) ?_
                refine lv_icmp_ge (tgt := 79) hx hb dX1_begin_63 (by decide) (fun c_106 => ?_) (fun c_106 => ?_)
                · exact hQ Ex H locs ls hi0 hP hD hS hl
                · exact absurd (by decide) c_106
              | succ kx ih =>
                intro ix Ex H locs ls hk hi0 hP hD hS hl
                have hix : ix < 8 := by omega
                refine lv_iload_n hx hb dX1_begin_60 rfl (lv_at hl 0 rfl) ?_
                refine lv_bipush (v := 8) hx hb dX1_begin_61 (by decide) ?_
                refine lv_icmp_ge (tgt := 79) hx hb dX1_begin_63 (by decide) (fun c_207 => ?_) (fun c_207 => ?_)
                · exact absurd c_207 (nI_ge hix (by decide))
                · refine lv_aload_n hx hb dX1_begin_66 rfl (lv_at hl 1 rfl) ?_
                  refine va_get (D := (dC, dI)) (ci := 1) (v := .ref q6) (C := RX1) (T := TX1) (N := 16) hx hb hts inw_X1_begin hown hK hP 0 rfl rfl 5 (by decide) (hts (.fieldLink RX1 26 "MigratorModel" "want" "[Z") (by decide +kernel)) (fun _ h9 => h9) rfl dX1_begin_67 ?_
                  refine lv_iload_n hx hb dX1_begin_70 rfl (lv_at hl 0 rfl) ?_
                  refine lv_iconst (v := 1) hx hb dX1_begin_71 (by decide) ?_
                  refine va_zast hx hb hK hP hD hS 6 2 rfl rfl (vp_in_nI hix (by decide)) dX1_begin_72 (fun H locs hP hD hS => ?_)
                  have hP : va_P (dC, dI) vwCl [(h0, .inr (1, [.ref q1, .ref q2, .ref q3, .ref q4, .ref q5, .ref q6, .ref q7, .ref q8, .int pc, .int 1, .int 1, .int a, .int b, .int sh, .long tm, .long tm])), (q1, .inl (cA, 64, .inl M)), (q2, .inl (cA, 64, .inl N)), (q3, .inl (cA, 64, .inl C)), (q4, .inl (cA, 4, .inl R)), (q5, .inl (cJ, 8, .inr (.inl G))), (q6, .inl (cZ, 8, .inl (upd Ex (nI ix).toNatClampNeg (vp_nar .boolean 1)))), (q7, .inl (cZ, 8, .inl F)), (q8, .inl (cA, 8, .inl T))] H := hP
                  have hD : va_D A [(h0, .inr (1, [.ref q1, .ref q2, .ref q3, .ref q4, .ref q5, .ref q6, .ref q7, .ref q8, .int pc, .int 1, .int 1, .int a, .int b, .int sh, .long tm, .long tm])), (q1, .inl (cA, 64, .inl M)), (q2, .inl (cA, 64, .inl N)), (q3, .inl (cA, 64, .inl C)), (q4, .inl (cA, 4, .inl R)), (q5, .inl (cJ, 8, .inr (.inl G))), (q6, .inl (cZ, 8, .inl (upd Ex (nI ix).toNatClampNeg (vp_nar .boolean 1)))), (q7, .inl (cZ, 8, .inl F)), (q8, .inl (cA, 8, .inl T))] := hD
                  refine lv_iinc (v := (nI ix) + 1) (lv' := [(3, .int ((nI ix) + 1)), (0, .ref h0), (1, .int a), (2, .int b)]) hx hb dX1_begin_73 hl (k := 0) rfl rfl (by decide) rfl (fun ls hl => ?_)
                  refine lv_goto (tgt := 60) hx hb dX1_begin_76 (by decide) ?_
                  exact ih (ix + 1) _ H locs ls (by omega) (by rw [hi0, nI_clamp (by omega)]; exact mr_en_s ix E) hP hD hS (by rw [← nI_1]; exact lv_sub hl [0, 1, 2, 3] rfl)
            refine loop _ (fun Ex H locs ls hi0 hP hD hS hl => ?_) 8 0 E _ _ _ (by omega) (mr_en_0 E).symm hP hD hS (lv_sub hl [0, 1, 2, 3] rfl)
            refine lv_iconst (v := 1) hx hb dX1_begin_79 (by decide) ?_
            exact W.zret (v := 1) (ty := .boolean) hx hb hr rfl (fun t ht hW => ⟨⟨1, (M, N, C, R, G, Ex, F, T, pc, 1, 1, a, b, sh, tm, tm), rfl, Or.inl ⟨rfl, ⟨c_1, c_2, c_3, c_4, c_5⟩, by rw [hi0]⟩, by rw [ht]; exact hP, va_K.moved hW.alike hK, hD⟩, hS.F ht⟩) hS.2.2 dX1_begin_80
          · refine lv_iconst (v := 0) hx hb dX1_begin_28 (by decide) ?_
            exact W.zret (v := 0) (ty := .boolean) hx hb hr rfl (fun t ht hW => ⟨⟨0, (M, N, C, R, G, E, F, T, pc, ph, rd, th, lm, sh, tm, sn), rfl, Or.inr ⟨rfl, fun h => c_5 h.2.2.2.2, rfl⟩, by rw [ht]; exact hP, va_K.moved hW.alike hK, hD⟩, hS.F ht⟩) hS.2.2 dX1_begin_29
theorem inw_X1_step : ∀ w ∈ wsX10, w ∈ wsX1_step := fun _ h => List.mem_cons_of_mem _ (List.mem_append_right _ h)
set_option maxHeartbeats 4000000 in
set_option maxRecDepth 100000 in
theorem c_X1_step (l : Launch) (dC : Nat → ClassId) (dI : Nat → Nat → Nat) (h0 q1 q2 q3 q4 q5 q6 q7 q8 : Nat) (cA cJ cZ : ClassId) (M N C R : Nat → Int32) (G : Nat → Int64) (E F T : Nat → Int32) (pc ph rd th lm sh : Int32) (tm sn : Int64) (hpc : vp_in pc 64) (sz : Nat) : Met l yX1_step wsX1_step ({ frames := 0, cells := 0, slots := 0, locals := 0 }) (va_Pc [.ref h0] (fun U => U.heap.size = sz ∧ va_P (dC, dI) vwCl (mr_W h0 q1 q2 q3 q4 q5 q6 q7 q8 cA cJ cZ (M, N, C, R, G, E, F, T, pc, ph, rd, th, lm, sh, tm, sn)) U.heap ∧ va_K (dC, dI) vwCl [(cA, .int), (cJ, .long), (cZ, .boolean)] U ∧ va_D (fun _ => True) (mr_W h0 q1 q2 q3 q4 q5 q6 q7 q8 cA cJ cZ (M, N, C, R, G, E, F, T, pc, ph, rd, th, lm, sh, tm, sn)))) (va_Qv (fun (u : mrS) => u = mr_step (M, N, C, R, G, E, F, T, pc, ph, rd, th, lm, sh, tm, sn)) (at_mr dC dI h0 q1 q2 q3 q4 q5 q6 q7 q8 cA cJ cZ (va_A (mr_W h0 q1 q2 q3 q4 q5 q6 q7 q8 cA cJ cZ (M, N, C, R, G, E, F, T, pc, ph, rd, th, lm, sh, tm, sn)) sz)) (va_A (mr_W h0 q1 q2 q3 q4 q5 q6 q7 q8 cA cJ cZ (M, N, C, R, G, E, F, T, pc, ph, rd, th, lm, sh, tm, sn)) sz)) 0 0 (va_A (mr_W h0 q1 q2 q3 q4 q5 q6 q7 q8 cA cJ cZ (M, N, C, R, G, E, F, T, pc, ph, rd, th, lm, sh, tm, sn)) sz) := by
  refine Met.ofW (cc := cX1_step) (maxL := 8) (ret := none) (by decide) rfl ?_
  intro p e s m args below meth c s₁ B hml hv
  obtain ⟨rfl, hsz, hP, hK, hD0⟩ := hv
  have hx := B.exec
  have hb := B.bytes
  have hr := B.returns
  have hts := atoms_spec (ws := wsX1_step) B.pre
  have hown : s.vm.findClass RX1 = some m.cls := findClass_of_methodNamed B.named
  have hlocks := B.notSynchronized
  subst hsz
  have hD := hD0.self (sz := s.heap.size)
  generalize hAe : va_A (mr_W h0 q1 q2 q3 q4 q5 q6 q7 q8 cA cJ cZ (M, N, C, R, G, E, F, T, pc, ph, rd, th, lm, sh, tm, sn)) s.heap.size = A at hD ⊢
  have hA : ∀ q : Nat, s.heap.size ≤ q → A q := fun q h => by rw [← hAe]; exact Or.inr h
  have hS : va_S A s.heap s.heap [] := va_S.rf
  have hP : va_P (dC, dI) vwCl [(h0, .inr (1, [.ref q1, .ref q2, .ref q3, .ref q4, .ref q5, .ref q6, .ref q7, .ref q8, .int pc, .int ph, .int rd, .int th, .int lm, .int sh, .long tm, .long sn])), (q1, .inl (cA, 64, .inl M)), (q2, .inl (cA, 64, .inl N)), (q3, .inl (cA, 64, .inl C)), (q4, .inl (cA, 4, .inl R)), (q5, .inl (cJ, 8, .inr (.inl G))), (q6, .inl (cZ, 8, .inl E)), (q7, .inl (cZ, 8, .inl F)), (q8, .inl (cA, 8, .inl T))] s.heap := hP
  have hD : va_D A [(h0, .inr (1, [.ref q1, .ref q2, .ref q3, .ref q4, .ref q5, .ref q6, .ref q7, .ref q8, .int pc, .int ph, .int rd, .int th, .int lm, .int sh, .long tm, .long sn])), (q1, .inl (cA, 64, .inl M)), (q2, .inl (cA, 64, .inl N)), (q3, .inl (cA, 64, .inl C)), (q4, .inl (cA, 4, .inl R)), (q5, .inl (cJ, 8, .inr (.inl G))), (q6, .inl (cZ, 8, .inl E)), (q7, .inl (cZ, 8, .inl F)), (q8, .inl (cA, 8, .inl T))] := hD
  have hl := lv_entry ([.ref h0]) (n := 8) (Nat.le_of_ble_eq_true rfl)
  rw [lg_entry_eq]
  generalize (lg_sl ([.ref h0]) ++ List.replicate (8 - (lg_sl ([.ref h0])).length) Slot.unset).toArray = ls at hl ⊢
  have hl : lv_has ls 8 [(0, .ref h0)] := hl
  refine lv_aload_n hx hb dX1_step_0 rfl (lv_at hl 0 rfl) ?_
  refine va_get (D := (dC, dI)) (ci := 1) (v := .ref q1) (C := RX1) (T := TX1) (N := 16) hx hb hts inw_X1_step hown hK hP 0 rfl rfl 0 (by decide) (hts (.fieldLink RX1 7 "MigratorModel" "real" "[I") (by decide +kernel)) (fun _ h9 => h9) rfl dX1_step_1 ?_
  refine lv_aload_n hx hb dX1_step_4 rfl (lv_at hl 0 rfl) ?_
  refine va_get (D := (dC, dI)) (ci := 1) (v := .int pc) (C := RX1) (T := TX1) (N := 16) hx hb hts inw_X1_step hown hK hP 0 rfl rfl 8 (by decide) (hts (.fieldLink RX1 56 "MigratorModel" "pc" "I") (by decide +kernel)) (fun _ h9 => h9) rfl dX1_step_5 ?_
  refine va_iald hx hb hK hP 1 0 rfl rfl hpc dX1_step_8 ?_
  refine lv_topi (fun v_1 ev_1 => ?_)
  refine lv_istore_n (lv' := [(1, .int v_1), (0, .ref h0)]) hx hb dX1_step_9 rfl hl (by decide) rfl (fun ls hl => ?_)
  refine lv_iload_n hx hb dX1_step_10 rfl (lv_at hl 0 rfl) ?_
  refine lv_iconst (v := 3) hx hb dX1_step_11 (by decide) ?_
  refine lv_ishr hx hb dX1_step_12 ?_
  refine lv_iconst (v := 3) hx hb dX1_step_13 (by decide) ?_
  refine lv_iand hx hb dX1_step_14 ?_
  refine lv_topi (fun v_2 ev_2 => ?_)
  refine lv_istore_n (lv' := [(2, .int v_2), (1, .int v_1), (0, .ref h0)]) hx hb dX1_step_15 rfl hl (by decide) rfl (fun ls hl => ?_)
  refine lv_iload_n hx hb dX1_step_16 rfl (lv_at hl 1 rfl) ?_
  refine lv_iconst (v := 5) hx hb dX1_step_17 (by decide) ?_
  refine lv_ishr hx hb dX1_step_18 ?_
  refine lv_iconst (v := 3) hx hb dX1_step_19 (by decide) ?_
  refine lv_iand hx hb dX1_step_20 ?_
  refine lv_topi (fun v_3 ev_3 => ?_)
  refine lv_istore_n (lv' := [(3, .int v_3), (2, .int v_2), (1, .int v_1), (0, .ref h0)]) hx hb dX1_step_21 rfl hl (by decide) rfl (fun ls hl => ?_)
  refine lv_iload_n hx hb dX1_step_22 rfl (lv_at hl 2 rfl) ?_
  refine lv_bipush (v := 7) hx hb dX1_step_23 (by decide) ?_
  refine lv_ishr hx hb dX1_step_25 ?_
  refine lv_bipush (v := 127) hx hb dX1_step_26 (by decide) ?_
  refine lv_iand hx hb dX1_step_28 ?_
  refine lv_topi (fun v_4 ev_4 => ?_)
  refine lv_istore (lv' := [(4, .int v_4), (3, .int v_3), (2, .int v_2), (1, .int v_1), (0, .ref h0)]) hx hb dX1_step_29 hl (by decide) rfl (fun ls hl => ?_)
  refine lv_aload_n hx hb dX1_step_31 rfl (lv_at hl 4 rfl) ?_
  refine va_get (D := (dC, dI)) (ci := 1) (v := .ref q4) (C := RX1) (T := TX1) (N := 16) hx hb hts inw_X1_step hown hK hP 0 rfl rfl 3 (by decide) (hts (.fieldLink RX1 19 "MigratorModel" "reg" "[I") (by decide +kernel)) (fun _ h9 => h9) rfl dX1_step_32 ?_
  refine lv_iload_n hx hb dX1_step_35 rfl (lv_at hl 1 rfl) ?_
  refine va_iald hx hb hK hP 4 0 rfl rfl (by rw [ev_3]; exact in_3 _) dX1_step_36 ?_
  refine lv_iload hx hb dX1_step_37 (lv_at hl 0 rfl) ?_
  refine lv_iadd hx hb dX1_step_39 ?_
  refine lv_bipush (v := 63) hx hb dX1_step_40 (by decide) ?_
  refine lv_iand hx hb dX1_step_42 ?_
  refine lv_topi (fun v_5 ev_5 => ?_)
  refine lv_istore (lv' := [(5, .int v_5), (4, .int v_4), (3, .int v_3), (2, .int v_2), (1, .int v_1), (0, .ref h0)]) hx hb dX1_step_43 hl (by decide) rfl (fun ls hl => ?_)
  refine lv_aload_n hx hb dX1_step_45 rfl (lv_at hl 5 rfl) ?_
  refine va_get (D := (dC, dI)) (ci := 1) (v := .int pc) (C := RX1) (T := TX1) (N := 16) hx hb hts inw_X1_step hown hK hP 0 rfl rfl 8 (by decide) (hts (.fieldLink RX1 56 "MigratorModel" "pc" "I") (by decide +kernel)) (fun _ h9 => h9) rfl dX1_step_46 ?_
  refine lv_iconst (v := 1) hx hb dX1_step_49 (by decide) ?_
  refine lv_iadd hx hb dX1_step_50 ?_
  refine lv_bipush (v := 63) hx hb dX1_step_51 (by decide) ?_
  refine lv_iand hx hb dX1_step_53 ?_
  refine lv_topi (fun v_6 ev_6 => ?_)
  refine lv_istore (lv' := [(6, .int v_6), (5, .int v_5), (4, .int v_4), (3, .int v_3), (2, .int v_2), (1, .int v_1), (0, .ref h0)]) hx hb dX1_step_54 hl (by decide) rfl (fun ls hl => ?_)
  refine lv_iload_n hx hb dX1_step_56 rfl (lv_at hl 5 rfl) ?_
  refine lv_bipush (v := 7) hx hb dX1_step_57 (by decide) ?_
  refine lv_iand hx hb dX1_step_59 ?_
  rcases op_8 v_1 with o_7 | o_7 | o_7 | o_7 | o_7 | o_7 | o_7 | o_7
  · refine lv_tableIn (off := 44) (tgt := 104) hx hb dX1_step_60 (by rw [o_7]; decide) (by rw [o_7]; decide) (by rw [o_7]; rfl) (by decide) ?_
    refine lv_aload_n hx hb dX1_step_104 rfl (lv_at hl 6 rfl) ?_
    refine va_get (D := (dC, dI)) (ci := 1) (v := .int pc) (C := RX1) (T := TX1) (N := 16) hx hb hts inw_X1_step hown hK hP 0 rfl rfl 8 (by decide) (hts (.fieldLink RX1 56 "MigratorModel" "pc" "I") (by decide +kernel)) (fun _ h9 => h9) rfl dX1_step_105 ?_
    refine lv_istore (lv' := [(6, .int pc), (5, .int v_5), (4, .int v_4), (3, .int v_3), (2, .int v_2), (1, .int v_1), (0, .ref h0)]) hx hb dX1_step_108 hl (by decide) rfl (fun ls hl => ?_)
    refine lv_goto (tgt := 296) hx hb dX1_step_110 (by decide) ?_
    refine lv_aload_n hx hb dX1_step_296 rfl (lv_at hl 6 rfl) ?_
    refine lv_iload hx hb dX1_step_297 (lv_at hl 0 rfl) ?_
    refine va_put (D := (dC, dI)) (ci := 1) (v := .int pc) (ty := .int) (C := RX1) (T := TX1) (N := 16) hx hb hts inw_X1_step tyX1 tyX1_ok nmX1 hown hK hP hD hS 0 rfl rfl 8 (by decide) (hts (.fieldLink RX1 56 "MigratorModel" "pc" "I") (by decide +kernel)) (fun _ h9 => h9) rfl (by decide +kernel) rfl rfl (Nat.le_of_ble_eq_true rfl) dX1_step_299 (fun H locs hP hD hS => ?_)
    have hP : va_P (dC, dI) vwCl [(h0, .inr (1, [.ref q1, .ref q2, .ref q3, .ref q4, .ref q5, .ref q6, .ref q7, .ref q8, .int pc, .int ph, .int rd, .int th, .int lm, .int sh, .long tm, .long sn])), (q1, .inl (cA, 64, .inl M)), (q2, .inl (cA, 64, .inl N)), (q3, .inl (cA, 64, .inl C)), (q4, .inl (cA, 4, .inl R)), (q5, .inl (cJ, 8, .inr (.inl G))), (q6, .inl (cZ, 8, .inl E)), (q7, .inl (cZ, 8, .inl F)), (q8, .inl (cA, 8, .inl T))] H := hP
    have hD : va_D A [(h0, .inr (1, [.ref q1, .ref q2, .ref q3, .ref q4, .ref q5, .ref q6, .ref q7, .ref q8, .int pc, .int ph, .int rd, .int th, .int lm, .int sh, .long tm, .long sn])), (q1, .inl (cA, 64, .inl M)), (q2, .inl (cA, 64, .inl N)), (q3, .inl (cA, 64, .inl C)), (q4, .inl (cA, 4, .inl R)), (q5, .inl (cJ, 8, .inr (.inl G))), (q6, .inl (cZ, 8, .inl E)), (q7, .inl (cZ, 8, .inl F)), (q8, .inl (cA, 8, .inl T))] := hD
    have z_8 : (M, N, C, R, G, E, F, T, pc, ph, rd, th, lm, sh, tm, sn) = mr_step (M, N, C, R, G, E, F, T, pc, ph, rd, th, lm, sh, tm, sn) := by
      subst ev_6
      subst ev_5
      subst ev_4
      subst ev_3
      subst ev_2
      subst ev_1
      show _ = mr_go (M pc.toNatClampNeg &&& 7) (M pc.toNatClampNeg) (M, N, C, R, G, E, F, T, pc, ph, rd, th, lm, sh, tm, sn)
      rw [o_7]
      rfl
    exact W.vret hx hb hr (fun t ht hW => ⟨⟨(M, N, C, R, G, E, F, T, pc, ph, rd, th, lm, sh, tm, sn), rfl, z_8, by rw [ht]; exact hP, va_K.moved hW.alike hK, hD⟩, hS.F ht⟩) hS.2.2 dX1_step_302
  · refine lv_tableIn (off := 53) (tgt := 113) hx hb dX1_step_60 (by rw [o_7]; decide) (by rw [o_7]; decide) (by rw [o_7]; rfl) (by decide) ?_
    refine lv_aload_n hx hb dX1_step_113 rfl (lv_at hl 6 rfl) ?_
    refine va_get (D := (dC, dI)) (ci := 1) (v := .ref q4) (C := RX1) (T := TX1) (N := 16) hx hb hts inw_X1_step hown hK hP 0 rfl rfl 3 (by decide) (hts (.fieldLink RX1 19 "MigratorModel" "reg" "[I") (by decide +kernel)) (fun _ h9 => h9) rfl dX1_step_114 ?_
    refine lv_iload_n hx hb dX1_step_117 rfl (lv_at hl 4 rfl) ?_
    refine lv_iload hx hb dX1_step_118 (lv_at hl 2 rfl) ?_
    refine va_iast hx hb hK hP hD hS 4 0 rfl rfl (by rw [ev_2]; exact in_3 _) dX1_step_120 (fun H locs hP hD hS => ?_)
    have hP : va_P (dC, dI) vwCl [(h0, .inr (1, [.ref q1, .ref q2, .ref q3, .ref q4, .ref q5, .ref q6, .ref q7, .ref q8, .int pc, .int ph, .int rd, .int th, .int lm, .int sh, .long tm, .long sn])), (q1, .inl (cA, 64, .inl M)), (q2, .inl (cA, 64, .inl N)), (q3, .inl (cA, 64, .inl C)), (q4, .inl (cA, 4, .inl (upd R v_2.toNatClampNeg v_4))), (q5, .inl (cJ, 8, .inr (.inl G))), (q6, .inl (cZ, 8, .inl E)), (q7, .inl (cZ, 8, .inl F)), (q8, .inl (cA, 8, .inl T))] H := hP
    have hD : va_D A [(h0, .inr (1, [.ref q1, .ref q2, .ref q3, .ref q4, .ref q5, .ref q6, .ref q7, .ref q8, .int pc, .int ph, .int rd, .int th, .int lm, .int sh, .long tm, .long sn])), (q1, .inl (cA, 64, .inl M)), (q2, .inl (cA, 64, .inl N)), (q3, .inl (cA, 64, .inl C)), (q4, .inl (cA, 4, .inl (upd R v_2.toNatClampNeg v_4))), (q5, .inl (cJ, 8, .inr (.inl G))), (q6, .inl (cZ, 8, .inl E)), (q7, .inl (cZ, 8, .inl F)), (q8, .inl (cA, 8, .inl T))] := hD
    refine lv_goto (tgt := 296) hx hb dX1_step_121 (by decide) ?_
    refine lv_aload_n hx hb dX1_step_296 rfl (lv_at hl 6 rfl) ?_
    refine lv_iload hx hb dX1_step_297 (lv_at hl 0 rfl) ?_
    refine va_put (D := (dC, dI)) (ci := 1) (v := .int v_6) (ty := .int) (C := RX1) (T := TX1) (N := 16) hx hb hts inw_X1_step tyX1 tyX1_ok nmX1 hown hK hP hD hS 0 rfl rfl 8 (by decide) (hts (.fieldLink RX1 56 "MigratorModel" "pc" "I") (by decide +kernel)) (fun _ h9 => h9) rfl (by decide +kernel) rfl rfl (Nat.le_of_ble_eq_true rfl) dX1_step_299 (fun H locs hP hD hS => ?_)
    have hP : va_P (dC, dI) vwCl [(h0, .inr (1, [.ref q1, .ref q2, .ref q3, .ref q4, .ref q5, .ref q6, .ref q7, .ref q8, .int v_6, .int ph, .int rd, .int th, .int lm, .int sh, .long tm, .long sn])), (q1, .inl (cA, 64, .inl M)), (q2, .inl (cA, 64, .inl N)), (q3, .inl (cA, 64, .inl C)), (q4, .inl (cA, 4, .inl (upd R v_2.toNatClampNeg v_4))), (q5, .inl (cJ, 8, .inr (.inl G))), (q6, .inl (cZ, 8, .inl E)), (q7, .inl (cZ, 8, .inl F)), (q8, .inl (cA, 8, .inl T))] H := hP
    have hD : va_D A [(h0, .inr (1, [.ref q1, .ref q2, .ref q3, .ref q4, .ref q5, .ref q6, .ref q7, .ref q8, .int v_6, .int ph, .int rd, .int th, .int lm, .int sh, .long tm, .long sn])), (q1, .inl (cA, 64, .inl M)), (q2, .inl (cA, 64, .inl N)), (q3, .inl (cA, 64, .inl C)), (q4, .inl (cA, 4, .inl (upd R v_2.toNatClampNeg v_4))), (q5, .inl (cJ, 8, .inr (.inl G))), (q6, .inl (cZ, 8, .inl E)), (q7, .inl (cZ, 8, .inl F)), (q8, .inl (cA, 8, .inl T))] := hD
    have z_9 : (M, N, C, upd R v_2.toNatClampNeg v_4, G, E, F, T, v_6, ph, rd, th, lm, sh, tm, sn) = mr_step (M, N, C, R, G, E, F, T, pc, ph, rd, th, lm, sh, tm, sn) := by
      subst ev_6
      subst ev_5
      subst ev_4
      subst ev_3
      subst ev_2
      subst ev_1
      show _ = mr_go (M pc.toNatClampNeg &&& 7) (M pc.toNatClampNeg) (M, N, C, R, G, E, F, T, pc, ph, rd, th, lm, sh, tm, sn)
      rw [o_7]
      rfl
    exact W.vret hx hb hr (fun t ht hW => ⟨⟨(M, N, C, upd R v_2.toNatClampNeg v_4, G, E, F, T, v_6, ph, rd, th, lm, sh, tm, sn), rfl, z_9, by rw [ht]; exact hP, va_K.moved hW.alike hK, hD⟩, hS.F ht⟩) hS.2.2 dX1_step_302
  · refine lv_tableIn (off := 64) (tgt := 124) hx hb dX1_step_60 (by rw [o_7]; decide) (by rw [o_7]; decide) (by rw [o_7]; rfl) (by decide) ?_
    refine lv_aload_n hx hb dX1_step_124 rfl (lv_at hl 6 rfl) ?_
    refine va_get (D := (dC, dI)) (ci := 1) (v := .ref q4) (C := RX1) (T := TX1) (N := 16) hx hb hts inw_X1_step hown hK hP 0 rfl rfl 3 (by decide) (hts (.fieldLink RX1 19 "MigratorModel" "reg" "[I") (by decide +kernel)) (fun _ h9 => h9) rfl dX1_step_125 ?_
    refine lv_iload_n hx hb dX1_step_128 rfl (lv_at hl 4 rfl) ?_
    refine lv_aload_n hx hb dX1_step_129 rfl (lv_at hl 6 rfl) ?_
    refine va_get (D := (dC, dI)) (ci := 1) (v := .ref q1) (C := RX1) (T := TX1) (N := 16) hx hb hts inw_X1_step hown hK hP 0 rfl rfl 0 (by decide) (hts (.fieldLink RX1 7 "MigratorModel" "real" "[I") (by decide +kernel)) (fun _ h9 => h9) rfl dX1_step_130 ?_
    refine lv_iload hx hb dX1_step_133 (lv_at hl 1 rfl) ?_
    refine va_iald hx hb hK hP 1 0 rfl rfl (by rw [ev_5]; exact in_63 _) dX1_step_135 ?_
    refine va_iast hx hb hK hP hD hS 4 0 rfl rfl (by rw [ev_2]; exact in_3 _) dX1_step_136 (fun H locs hP hD hS => ?_)
    have hP : va_P (dC, dI) vwCl [(h0, .inr (1, [.ref q1, .ref q2, .ref q3, .ref q4, .ref q5, .ref q6, .ref q7, .ref q8, .int pc, .int ph, .int rd, .int th, .int lm, .int sh, .long tm, .long sn])), (q1, .inl (cA, 64, .inl M)), (q2, .inl (cA, 64, .inl N)), (q3, .inl (cA, 64, .inl C)), (q4, .inl (cA, 4, .inl (upd R v_2.toNatClampNeg (M v_5.toNatClampNeg)))), (q5, .inl (cJ, 8, .inr (.inl G))), (q6, .inl (cZ, 8, .inl E)), (q7, .inl (cZ, 8, .inl F)), (q8, .inl (cA, 8, .inl T))] H := hP
    have hD : va_D A [(h0, .inr (1, [.ref q1, .ref q2, .ref q3, .ref q4, .ref q5, .ref q6, .ref q7, .ref q8, .int pc, .int ph, .int rd, .int th, .int lm, .int sh, .long tm, .long sn])), (q1, .inl (cA, 64, .inl M)), (q2, .inl (cA, 64, .inl N)), (q3, .inl (cA, 64, .inl C)), (q4, .inl (cA, 4, .inl (upd R v_2.toNatClampNeg (M v_5.toNatClampNeg)))), (q5, .inl (cJ, 8, .inr (.inl G))), (q6, .inl (cZ, 8, .inl E)), (q7, .inl (cZ, 8, .inl F)), (q8, .inl (cA, 8, .inl T))] := hD
    refine lv_goto (tgt := 296) hx hb dX1_step_137 (by decide) ?_
    refine lv_aload_n hx hb dX1_step_296 rfl (lv_at hl 6 rfl) ?_
    refine lv_iload hx hb dX1_step_297 (lv_at hl 0 rfl) ?_
    refine va_put (D := (dC, dI)) (ci := 1) (v := .int v_6) (ty := .int) (C := RX1) (T := TX1) (N := 16) hx hb hts inw_X1_step tyX1 tyX1_ok nmX1 hown hK hP hD hS 0 rfl rfl 8 (by decide) (hts (.fieldLink RX1 56 "MigratorModel" "pc" "I") (by decide +kernel)) (fun _ h9 => h9) rfl (by decide +kernel) rfl rfl (Nat.le_of_ble_eq_true rfl) dX1_step_299 (fun H locs hP hD hS => ?_)
    have hP : va_P (dC, dI) vwCl [(h0, .inr (1, [.ref q1, .ref q2, .ref q3, .ref q4, .ref q5, .ref q6, .ref q7, .ref q8, .int v_6, .int ph, .int rd, .int th, .int lm, .int sh, .long tm, .long sn])), (q1, .inl (cA, 64, .inl M)), (q2, .inl (cA, 64, .inl N)), (q3, .inl (cA, 64, .inl C)), (q4, .inl (cA, 4, .inl (upd R v_2.toNatClampNeg (M v_5.toNatClampNeg)))), (q5, .inl (cJ, 8, .inr (.inl G))), (q6, .inl (cZ, 8, .inl E)), (q7, .inl (cZ, 8, .inl F)), (q8, .inl (cA, 8, .inl T))] H := hP
    have hD : va_D A [(h0, .inr (1, [.ref q1, .ref q2, .ref q3, .ref q4, .ref q5, .ref q6, .ref q7, .ref q8, .int v_6, .int ph, .int rd, .int th, .int lm, .int sh, .long tm, .long sn])), (q1, .inl (cA, 64, .inl M)), (q2, .inl (cA, 64, .inl N)), (q3, .inl (cA, 64, .inl C)), (q4, .inl (cA, 4, .inl (upd R v_2.toNatClampNeg (M v_5.toNatClampNeg)))), (q5, .inl (cJ, 8, .inr (.inl G))), (q6, .inl (cZ, 8, .inl E)), (q7, .inl (cZ, 8, .inl F)), (q8, .inl (cA, 8, .inl T))] := hD
    have z_10 : (M, N, C, upd R v_2.toNatClampNeg (M v_5.toNatClampNeg), G, E, F, T, v_6, ph, rd, th, lm, sh, tm, sn) = mr_step (M, N, C, R, G, E, F, T, pc, ph, rd, th, lm, sh, tm, sn) := by
      subst ev_6
      subst ev_5
      subst ev_4
      subst ev_3
      subst ev_2
      subst ev_1
      show _ = mr_go (M pc.toNatClampNeg &&& 7) (M pc.toNatClampNeg) (M, N, C, R, G, E, F, T, pc, ph, rd, th, lm, sh, tm, sn)
      rw [o_7]
      rfl
    exact W.vret hx hb hr (fun t ht hW => ⟨⟨(M, N, C, upd R v_2.toNatClampNeg (M v_5.toNatClampNeg), G, E, F, T, v_6, ph, rd, th, lm, sh, tm, sn), rfl, z_10, by rw [ht]; exact hP, va_K.moved hW.alike hK, hD⟩, hS.F ht⟩) hS.2.2 dX1_step_302
  · refine lv_tableIn (off := 80) (tgt := 140) hx hb dX1_step_60 (by rw [o_7]; decide) (by rw [o_7]; decide) (by rw [o_7]; rfl) (by decide) ?_
    refine lv_aload_n hx hb dX1_step_140 rfl (lv_at hl 6 rfl) ?_
    refine lv_aload_n hx hb dX1_step_141 rfl (lv_at hl 6 rfl) ?_
    refine va_get (D := (dC, dI)) (ci := 1) (v := .long tm) (C := RX1) (T := TX1) (N := 16) hx hb hts inw_X1_step hown hK hP 0 rfl rfl 14 (by decide) (hts (.fieldLink RX1 49 "MigratorModel" "time" "J") (by decide +kernel)) (fun _ h9 => h9) rfl dX1_step_142 ?_
    refine lv_lconst (v := 1) hx hb dX1_step_145 (by decide) ?_
    refine lv_ladd hx hb dX1_step_146 ?_
    refine va_put (D := (dC, dI)) (ci := 1) (v := .long (tm + 1)) (ty := .long) (C := RX1) (T := TX1) (N := 16) hx hb hts inw_X1_step tyX1 tyX1_ok nmX1 hown hK hP hD hS 0 rfl rfl 14 (by decide) (hts (.fieldLink RX1 49 "MigratorModel" "time" "J") (by decide +kernel)) (fun _ h9 => h9) rfl (by decide +kernel) rfl rfl (Nat.le_of_ble_eq_true rfl) dX1_step_147 (fun H locs hP hD hS => ?_)
    have hP : va_P (dC, dI) vwCl [(h0, .inr (1, [.ref q1, .ref q2, .ref q3, .ref q4, .ref q5, .ref q6, .ref q7, .ref q8, .int pc, .int ph, .int rd, .int th, .int lm, .int sh, .long (tm + 1), .long sn])), (q1, .inl (cA, 64, .inl M)), (q2, .inl (cA, 64, .inl N)), (q3, .inl (cA, 64, .inl C)), (q4, .inl (cA, 4, .inl R)), (q5, .inl (cJ, 8, .inr (.inl G))), (q6, .inl (cZ, 8, .inl E)), (q7, .inl (cZ, 8, .inl F)), (q8, .inl (cA, 8, .inl T))] H := hP
    have hD : va_D A [(h0, .inr (1, [.ref q1, .ref q2, .ref q3, .ref q4, .ref q5, .ref q6, .ref q7, .ref q8, .int pc, .int ph, .int rd, .int th, .int lm, .int sh, .long (tm + 1), .long sn])), (q1, .inl (cA, 64, .inl M)), (q2, .inl (cA, 64, .inl N)), (q3, .inl (cA, 64, .inl C)), (q4, .inl (cA, 4, .inl R)), (q5, .inl (cJ, 8, .inr (.inl G))), (q6, .inl (cZ, 8, .inl E)), (q7, .inl (cZ, 8, .inl F)), (q8, .inl (cA, 8, .inl T))] := hD
    refine lv_aload_n hx hb dX1_step_150 rfl (lv_at hl 6 rfl) ?_
    refine va_get (D := (dC, dI)) (ci := 1) (v := .ref q5) (C := RX1) (T := TX1) (N := 16) hx hb hts inw_X1_step hown hK hP 0 rfl rfl 4 (by decide) (hts (.fieldLink RX1 22 "MigratorModel" "written" "[J") (by decide +kernel)) (fun _ h9 => h9) rfl dX1_step_151 ?_
    refine lv_iload hx hb dX1_step_154 (lv_at hl 1 rfl) ?_
    refine lv_bipush (v := 8) hx hb dX1_step_156 (by decide) ?_
    refine lv_idiv hx hb dX1_step_158 (by decide) ?_
    refine lv_aload_n hx hb dX1_step_159 rfl (lv_at hl 6 rfl) ?_
    refine va_get (D := (dC, dI)) (ci := 1) (v := .long (tm + 1)) (C := RX1) (T := TX1) (N := 16) hx hb hts inw_X1_step hown hK hP 0 rfl rfl 14 (by decide) (hts (.fieldLink RX1 49 "MigratorModel" "time" "J") (by decide +kernel)) (fun _ h9 => h9) rfl dX1_step_160 ?_
    refine va_last hx hb hK hP hD hS 5 1 rfl rfl (by rw [ev_5]; exact in_d8 _) dX1_step_163 (fun H locs hP hD hS => ?_)
    have hP : va_P (dC, dI) vwCl [(h0, .inr (1, [.ref q1, .ref q2, .ref q3, .ref q4, .ref q5, .ref q6, .ref q7, .ref q8, .int pc, .int ph, .int rd, .int th, .int lm, .int sh, .long (tm + 1), .long sn])), (q1, .inl (cA, 64, .inl M)), (q2, .inl (cA, 64, .inl N)), (q3, .inl (cA, 64, .inl C)), (q4, .inl (cA, 4, .inl R)), (q5, .inl (cJ, 8, .inr (.inl (vp_updL G (v_5 / 8).toNatClampNeg (tm + 1))))), (q6, .inl (cZ, 8, .inl E)), (q7, .inl (cZ, 8, .inl F)), (q8, .inl (cA, 8, .inl T))] H := hP
    have hD : va_D A [(h0, .inr (1, [.ref q1, .ref q2, .ref q3, .ref q4, .ref q5, .ref q6, .ref q7, .ref q8, .int pc, .int ph, .int rd, .int th, .int lm, .int sh, .long (tm + 1), .long sn])), (q1, .inl (cA, 64, .inl M)), (q2, .inl (cA, 64, .inl N)), (q3, .inl (cA, 64, .inl C)), (q4, .inl (cA, 4, .inl R)), (q5, .inl (cJ, 8, .inr (.inl (vp_updL G (v_5 / 8).toNatClampNeg (tm + 1))))), (q6, .inl (cZ, 8, .inl E)), (q7, .inl (cZ, 8, .inl F)), (q8, .inl (cA, 8, .inl T))] := hD
    refine lv_aload_n hx hb dX1_step_164 rfl (lv_at hl 6 rfl) ?_
    refine va_get (D := (dC, dI)) (ci := 1) (v := .ref q1) (C := RX1) (T := TX1) (N := 16) hx hb hts inw_X1_step hown hK hP 0 rfl rfl 0 (by decide) (hts (.fieldLink RX1 7 "MigratorModel" "real" "[I") (by decide +kernel)) (fun _ h9 => h9) rfl dX1_step_165 ?_
    refine lv_iload hx hb dX1_step_168 (lv_at hl 1 rfl) ?_
    refine lv_aload_n hx hb dX1_step_170 rfl (lv_at hl 6 rfl) ?_
    refine va_get (D := (dC, dI)) (ci := 1) (v := .ref q4) (C := RX1) (T := TX1) (N := 16) hx hb hts inw_X1_step hown hK hP 0 rfl rfl 3 (by decide) (hts (.fieldLink RX1 19 "MigratorModel" "reg" "[I") (by decide +kernel)) (fun _ h9 => h9) rfl dX1_step_171 ?_
    refine lv_iload_n hx hb dX1_step_174 rfl (lv_at hl 4 rfl) ?_
    refine va_iald hx hb hK hP 4 0 rfl rfl (by rw [ev_2]; exact in_3 _) dX1_step_175 ?_
    refine va_iast hx hb hK hP hD hS 1 0 rfl rfl (by rw [ev_5]; exact in_63 _) dX1_step_176 (fun H locs hP hD hS => ?_)
    have hP : va_P (dC, dI) vwCl [(h0, .inr (1, [.ref q1, .ref q2, .ref q3, .ref q4, .ref q5, .ref q6, .ref q7, .ref q8, .int pc, .int ph, .int rd, .int th, .int lm, .int sh, .long (tm + 1), .long sn])), (q1, .inl (cA, 64, .inl (upd M v_5.toNatClampNeg (R v_2.toNatClampNeg)))), (q2, .inl (cA, 64, .inl N)), (q3, .inl (cA, 64, .inl C)), (q4, .inl (cA, 4, .inl R)), (q5, .inl (cJ, 8, .inr (.inl (vp_updL G (v_5 / 8).toNatClampNeg (tm + 1))))), (q6, .inl (cZ, 8, .inl E)), (q7, .inl (cZ, 8, .inl F)), (q8, .inl (cA, 8, .inl T))] H := hP
    have hD : va_D A [(h0, .inr (1, [.ref q1, .ref q2, .ref q3, .ref q4, .ref q5, .ref q6, .ref q7, .ref q8, .int pc, .int ph, .int rd, .int th, .int lm, .int sh, .long (tm + 1), .long sn])), (q1, .inl (cA, 64, .inl (upd M v_5.toNatClampNeg (R v_2.toNatClampNeg)))), (q2, .inl (cA, 64, .inl N)), (q3, .inl (cA, 64, .inl C)), (q4, .inl (cA, 4, .inl R)), (q5, .inl (cJ, 8, .inr (.inl (vp_updL G (v_5 / 8).toNatClampNeg (tm + 1))))), (q6, .inl (cZ, 8, .inl E)), (q7, .inl (cZ, 8, .inl F)), (q8, .inl (cA, 8, .inl T))] := hD
    refine lv_goto (tgt := 296) hx hb dX1_step_177 (by decide) ?_
    refine lv_aload_n hx hb dX1_step_296 rfl (lv_at hl 6 rfl) ?_
    refine lv_iload hx hb dX1_step_297 (lv_at hl 0 rfl) ?_
    refine va_put (D := (dC, dI)) (ci := 1) (v := .int v_6) (ty := .int) (C := RX1) (T := TX1) (N := 16) hx hb hts inw_X1_step tyX1 tyX1_ok nmX1 hown hK hP hD hS 0 rfl rfl 8 (by decide) (hts (.fieldLink RX1 56 "MigratorModel" "pc" "I") (by decide +kernel)) (fun _ h9 => h9) rfl (by decide +kernel) rfl rfl (Nat.le_of_ble_eq_true rfl) dX1_step_299 (fun H locs hP hD hS => ?_)
    have hP : va_P (dC, dI) vwCl [(h0, .inr (1, [.ref q1, .ref q2, .ref q3, .ref q4, .ref q5, .ref q6, .ref q7, .ref q8, .int v_6, .int ph, .int rd, .int th, .int lm, .int sh, .long (tm + 1), .long sn])), (q1, .inl (cA, 64, .inl (upd M v_5.toNatClampNeg (R v_2.toNatClampNeg)))), (q2, .inl (cA, 64, .inl N)), (q3, .inl (cA, 64, .inl C)), (q4, .inl (cA, 4, .inl R)), (q5, .inl (cJ, 8, .inr (.inl (vp_updL G (v_5 / 8).toNatClampNeg (tm + 1))))), (q6, .inl (cZ, 8, .inl E)), (q7, .inl (cZ, 8, .inl F)), (q8, .inl (cA, 8, .inl T))] H := hP
    have hD : va_D A [(h0, .inr (1, [.ref q1, .ref q2, .ref q3, .ref q4, .ref q5, .ref q6, .ref q7, .ref q8, .int v_6, .int ph, .int rd, .int th, .int lm, .int sh, .long (tm + 1), .long sn])), (q1, .inl (cA, 64, .inl (upd M v_5.toNatClampNeg (R v_2.toNatClampNeg)))), (q2, .inl (cA, 64, .inl N)), (q3, .inl (cA, 64, .inl C)), (q4, .inl (cA, 4, .inl R)), (q5, .inl (cJ, 8, .inr (.inl (vp_updL G (v_5 / 8).toNatClampNeg (tm + 1))))), (q6, .inl (cZ, 8, .inl E)), (q7, .inl (cZ, 8, .inl F)), (q8, .inl (cA, 8, .inl T))] := hD
    have z_11 : (upd M v_5.toNatClampNeg (R v_2.toNatClampNeg), N, C, R, vp_updL G (v_5 / 8).toNatClampNeg (tm + 1), E, F, T, v_6, ph, rd, th, lm, sh, tm + 1, sn) = mr_step (M, N, C, R, G, E, F, T, pc, ph, rd, th, lm, sh, tm, sn) := by
      subst ev_6
      subst ev_5
      subst ev_4
      subst ev_3
      subst ev_2
      subst ev_1
      show _ = mr_go (M pc.toNatClampNeg &&& 7) (M pc.toNatClampNeg) (M, N, C, R, G, E, F, T, pc, ph, rd, th, lm, sh, tm, sn)
      rw [o_7]
      rfl
    exact W.vret hx hb hr (fun t ht hW => ⟨⟨(upd M v_5.toNatClampNeg (R v_2.toNatClampNeg), N, C, R, vp_updL G (v_5 / 8).toNatClampNeg (tm + 1), E, F, T, v_6, ph, rd, th, lm, sh, tm + 1, sn), rfl, z_11, by rw [ht]; exact hP, va_K.moved hW.alike hK, hD⟩, hS.F ht⟩) hS.2.2 dX1_step_302
  · refine lv_tableIn (off := 120) (tgt := 180) hx hb dX1_step_60 (by rw [o_7]; decide) (by rw [o_7]; decide) (by rw [o_7]; rfl) (by decide) ?_
    refine lv_aload_n hx hb dX1_step_180 rfl (lv_at hl 6 rfl) ?_
    refine va_get (D := (dC, dI)) (ci := 1) (v := .ref q4) (C := RX1) (T := TX1) (N := 16) hx hb hts inw_X1_step hown hK hP 0 rfl rfl 3 (by decide) (hts (.fieldLink RX1 19 "MigratorModel" "reg" "[I") (by decide +kernel)) (fun _ h9 => h9) rfl dX1_step_181 ?_
    refine lv_iload_n hx hb dX1_step_184 rfl (lv_at hl 4 rfl) ?_
    refine lv_aload_n hx hb dX1_step_185 rfl (lv_at hl 6 rfl) ?_
    refine va_get (D := (dC, dI)) (ci := 1) (v := .ref q4) (C := RX1) (T := TX1) (N := 16) hx hb hts inw_X1_step hown hK hP 0 rfl rfl 3 (by decide) (hts (.fieldLink RX1 19 "MigratorModel" "reg" "[I") (by decide +kernel)) (fun _ h9 => h9) rfl dX1_step_186 ?_
    refine lv_iload_n hx hb dX1_step_189 rfl (lv_at hl 4 rfl) ?_
    refine va_iald hx hb hK hP 4 0 rfl rfl (by rw [ev_2]; exact in_3 _) dX1_step_190 ?_
    refine lv_aload_n hx hb dX1_step_191 rfl (lv_at hl 6 rfl) ?_
    refine va_get (D := (dC, dI)) (ci := 1) (v := .ref q4) (C := RX1) (T := TX1) (N := 16) hx hb hts inw_X1_step hown hK hP 0 rfl rfl 3 (by decide) (hts (.fieldLink RX1 19 "MigratorModel" "reg" "[I") (by decide +kernel)) (fun _ h9 => h9) rfl dX1_step_192 ?_
    refine lv_iload_n hx hb dX1_step_195 rfl (lv_at hl 3 rfl) ?_
    refine va_iald hx hb hK hP 4 0 rfl rfl (by rw [ev_3]; exact in_3 _) dX1_step_196 ?_
    refine lv_iadd hx hb dX1_step_197 ?_
    refine va_iast hx hb hK hP hD hS 4 0 rfl rfl (by rw [ev_2]; exact in_3 _) dX1_step_198 (fun H locs hP hD hS => ?_)
    have hP : va_P (dC, dI) vwCl [(h0, .inr (1, [.ref q1, .ref q2, .ref q3, .ref q4, .ref q5, .ref q6, .ref q7, .ref q8, .int pc, .int ph, .int rd, .int th, .int lm, .int sh, .long tm, .long sn])), (q1, .inl (cA, 64, .inl M)), (q2, .inl (cA, 64, .inl N)), (q3, .inl (cA, 64, .inl C)), (q4, .inl (cA, 4, .inl (upd R v_2.toNatClampNeg ((R v_2.toNatClampNeg) + (R v_3.toNatClampNeg))))), (q5, .inl (cJ, 8, .inr (.inl G))), (q6, .inl (cZ, 8, .inl E)), (q7, .inl (cZ, 8, .inl F)), (q8, .inl (cA, 8, .inl T))] H := hP
    have hD : va_D A [(h0, .inr (1, [.ref q1, .ref q2, .ref q3, .ref q4, .ref q5, .ref q6, .ref q7, .ref q8, .int pc, .int ph, .int rd, .int th, .int lm, .int sh, .long tm, .long sn])), (q1, .inl (cA, 64, .inl M)), (q2, .inl (cA, 64, .inl N)), (q3, .inl (cA, 64, .inl C)), (q4, .inl (cA, 4, .inl (upd R v_2.toNatClampNeg ((R v_2.toNatClampNeg) + (R v_3.toNatClampNeg))))), (q5, .inl (cJ, 8, .inr (.inl G))), (q6, .inl (cZ, 8, .inl E)), (q7, .inl (cZ, 8, .inl F)), (q8, .inl (cA, 8, .inl T))] := hD
    refine lv_goto (tgt := 296) hx hb dX1_step_199 (by decide) ?_
    refine lv_aload_n hx hb dX1_step_296 rfl (lv_at hl 6 rfl) ?_
    refine lv_iload hx hb dX1_step_297 (lv_at hl 0 rfl) ?_
    refine va_put (D := (dC, dI)) (ci := 1) (v := .int v_6) (ty := .int) (C := RX1) (T := TX1) (N := 16) hx hb hts inw_X1_step tyX1 tyX1_ok nmX1 hown hK hP hD hS 0 rfl rfl 8 (by decide) (hts (.fieldLink RX1 56 "MigratorModel" "pc" "I") (by decide +kernel)) (fun _ h9 => h9) rfl (by decide +kernel) rfl rfl (Nat.le_of_ble_eq_true rfl) dX1_step_299 (fun H locs hP hD hS => ?_)
    have hP : va_P (dC, dI) vwCl [(h0, .inr (1, [.ref q1, .ref q2, .ref q3, .ref q4, .ref q5, .ref q6, .ref q7, .ref q8, .int v_6, .int ph, .int rd, .int th, .int lm, .int sh, .long tm, .long sn])), (q1, .inl (cA, 64, .inl M)), (q2, .inl (cA, 64, .inl N)), (q3, .inl (cA, 64, .inl C)), (q4, .inl (cA, 4, .inl (upd R v_2.toNatClampNeg ((R v_2.toNatClampNeg) + (R v_3.toNatClampNeg))))), (q5, .inl (cJ, 8, .inr (.inl G))), (q6, .inl (cZ, 8, .inl E)), (q7, .inl (cZ, 8, .inl F)), (q8, .inl (cA, 8, .inl T))] H := hP
    have hD : va_D A [(h0, .inr (1, [.ref q1, .ref q2, .ref q3, .ref q4, .ref q5, .ref q6, .ref q7, .ref q8, .int v_6, .int ph, .int rd, .int th, .int lm, .int sh, .long tm, .long sn])), (q1, .inl (cA, 64, .inl M)), (q2, .inl (cA, 64, .inl N)), (q3, .inl (cA, 64, .inl C)), (q4, .inl (cA, 4, .inl (upd R v_2.toNatClampNeg ((R v_2.toNatClampNeg) + (R v_3.toNatClampNeg))))), (q5, .inl (cJ, 8, .inr (.inl G))), (q6, .inl (cZ, 8, .inl E)), (q7, .inl (cZ, 8, .inl F)), (q8, .inl (cA, 8, .inl T))] := hD
    have z_12 : (M, N, C, upd R v_2.toNatClampNeg ((R v_2.toNatClampNeg) + (R v_3.toNatClampNeg)), G, E, F, T, v_6, ph, rd, th, lm, sh, tm, sn) = mr_step (M, N, C, R, G, E, F, T, pc, ph, rd, th, lm, sh, tm, sn) := by
      subst ev_6
      subst ev_5
      subst ev_4
      subst ev_3
      subst ev_2
      subst ev_1
      show _ = mr_go (M pc.toNatClampNeg &&& 7) (M pc.toNatClampNeg) (M, N, C, R, G, E, F, T, pc, ph, rd, th, lm, sh, tm, sn)
      rw [o_7]
      rfl
    exact W.vret hx hb hr (fun t ht hW => ⟨⟨(M, N, C, upd R v_2.toNatClampNeg ((R v_2.toNatClampNeg) + (R v_3.toNatClampNeg)), G, E, F, T, v_6, ph, rd, th, lm, sh, tm, sn), rfl, z_12, by rw [ht]; exact hP, va_K.moved hW.alike hK, hD⟩, hS.F ht⟩) hS.2.2 dX1_step_302
  · refine lv_tableIn (off := 142) (tgt := 202) hx hb dX1_step_60 (by rw [o_7]; decide) (by rw [o_7]; decide) (by rw [o_7]; rfl) (by decide) ?_
    refine lv_aload_n hx hb dX1_step_202 rfl (lv_at hl 6 rfl) ?_
    refine va_get (D := (dC, dI)) (ci := 1) (v := .ref q4) (C := RX1) (T := TX1) (N := 16) hx hb hts inw_X1_step hown hK hP 0 rfl rfl 3 (by decide) (hts (.fieldLink RX1 19 "MigratorModel" "reg" "[I") (by decide +kernel)) (fun _ h9 => h9) rfl dX1_step_203 ?_
    refine lv_iload_n hx hb dX1_step_206 rfl (lv_at hl 4 rfl) ?_
    refine lv_aload_n hx hb dX1_step_207 rfl (lv_at hl 6 rfl) ?_
    refine va_get (D := (dC, dI)) (ci := 1) (v := .ref q4) (C := RX1) (T := TX1) (N := 16) hx hb hts inw_X1_step hown hK hP 0 rfl rfl 3 (by decide) (hts (.fieldLink RX1 19 "MigratorModel" "reg" "[I") (by decide +kernel)) (fun _ h9 => h9) rfl dX1_step_208 ?_
    refine lv_iload_n hx hb dX1_step_211 rfl (lv_at hl 4 rfl) ?_
    refine va_iald hx hb hK hP 4 0 rfl rfl (by rw [ev_2]; exact in_3 _) dX1_step_212 ?_
    refine lv_aload_n hx hb dX1_step_213 rfl (lv_at hl 6 rfl) ?_
    refine va_get (D := (dC, dI)) (ci := 1) (v := .ref q4) (C := RX1) (T := TX1) (N := 16) hx hb hts inw_X1_step hown hK hP 0 rfl rfl 3 (by decide) (hts (.fieldLink RX1 19 "MigratorModel" "reg" "[I") (by decide +kernel)) (fun _ h9 => h9) rfl dX1_step_214 ?_
    refine lv_iload_n hx hb dX1_step_217 rfl (lv_at hl 3 rfl) ?_
    refine va_iald hx hb hK hP 4 0 rfl rfl (by rw [ev_3]; exact in_3 _) dX1_step_218 ?_
    refine lv_isub hx hb dX1_step_219 ?_
    refine va_iast hx hb hK hP hD hS 4 0 rfl rfl (by rw [ev_2]; exact in_3 _) dX1_step_220 (fun H locs hP hD hS => ?_)
    have hP : va_P (dC, dI) vwCl [(h0, .inr (1, [.ref q1, .ref q2, .ref q3, .ref q4, .ref q5, .ref q6, .ref q7, .ref q8, .int pc, .int ph, .int rd, .int th, .int lm, .int sh, .long tm, .long sn])), (q1, .inl (cA, 64, .inl M)), (q2, .inl (cA, 64, .inl N)), (q3, .inl (cA, 64, .inl C)), (q4, .inl (cA, 4, .inl (upd R v_2.toNatClampNeg ((R v_2.toNatClampNeg) - (R v_3.toNatClampNeg))))), (q5, .inl (cJ, 8, .inr (.inl G))), (q6, .inl (cZ, 8, .inl E)), (q7, .inl (cZ, 8, .inl F)), (q8, .inl (cA, 8, .inl T))] H := hP
    have hD : va_D A [(h0, .inr (1, [.ref q1, .ref q2, .ref q3, .ref q4, .ref q5, .ref q6, .ref q7, .ref q8, .int pc, .int ph, .int rd, .int th, .int lm, .int sh, .long tm, .long sn])), (q1, .inl (cA, 64, .inl M)), (q2, .inl (cA, 64, .inl N)), (q3, .inl (cA, 64, .inl C)), (q4, .inl (cA, 4, .inl (upd R v_2.toNatClampNeg ((R v_2.toNatClampNeg) - (R v_3.toNatClampNeg))))), (q5, .inl (cJ, 8, .inr (.inl G))), (q6, .inl (cZ, 8, .inl E)), (q7, .inl (cZ, 8, .inl F)), (q8, .inl (cA, 8, .inl T))] := hD
    refine lv_goto (tgt := 296) hx hb dX1_step_221 (by decide) ?_
    refine lv_aload_n hx hb dX1_step_296 rfl (lv_at hl 6 rfl) ?_
    refine lv_iload hx hb dX1_step_297 (lv_at hl 0 rfl) ?_
    refine va_put (D := (dC, dI)) (ci := 1) (v := .int v_6) (ty := .int) (C := RX1) (T := TX1) (N := 16) hx hb hts inw_X1_step tyX1 tyX1_ok nmX1 hown hK hP hD hS 0 rfl rfl 8 (by decide) (hts (.fieldLink RX1 56 "MigratorModel" "pc" "I") (by decide +kernel)) (fun _ h9 => h9) rfl (by decide +kernel) rfl rfl (Nat.le_of_ble_eq_true rfl) dX1_step_299 (fun H locs hP hD hS => ?_)
    have hP : va_P (dC, dI) vwCl [(h0, .inr (1, [.ref q1, .ref q2, .ref q3, .ref q4, .ref q5, .ref q6, .ref q7, .ref q8, .int v_6, .int ph, .int rd, .int th, .int lm, .int sh, .long tm, .long sn])), (q1, .inl (cA, 64, .inl M)), (q2, .inl (cA, 64, .inl N)), (q3, .inl (cA, 64, .inl C)), (q4, .inl (cA, 4, .inl (upd R v_2.toNatClampNeg ((R v_2.toNatClampNeg) - (R v_3.toNatClampNeg))))), (q5, .inl (cJ, 8, .inr (.inl G))), (q6, .inl (cZ, 8, .inl E)), (q7, .inl (cZ, 8, .inl F)), (q8, .inl (cA, 8, .inl T))] H := hP
    have hD : va_D A [(h0, .inr (1, [.ref q1, .ref q2, .ref q3, .ref q4, .ref q5, .ref q6, .ref q7, .ref q8, .int v_6, .int ph, .int rd, .int th, .int lm, .int sh, .long tm, .long sn])), (q1, .inl (cA, 64, .inl M)), (q2, .inl (cA, 64, .inl N)), (q3, .inl (cA, 64, .inl C)), (q4, .inl (cA, 4, .inl (upd R v_2.toNatClampNeg ((R v_2.toNatClampNeg) - (R v_3.toNatClampNeg))))), (q5, .inl (cJ, 8, .inr (.inl G))), (q6, .inl (cZ, 8, .inl E)), (q7, .inl (cZ, 8, .inl F)), (q8, .inl (cA, 8, .inl T))] := hD
    have z_13 : (M, N, C, upd R v_2.toNatClampNeg ((R v_2.toNatClampNeg) - (R v_3.toNatClampNeg)), G, E, F, T, v_6, ph, rd, th, lm, sh, tm, sn) = mr_step (M, N, C, R, G, E, F, T, pc, ph, rd, th, lm, sh, tm, sn) := by
      subst ev_6
      subst ev_5
      subst ev_4
      subst ev_3
      subst ev_2
      subst ev_1
      show _ = mr_go (M pc.toNatClampNeg &&& 7) (M pc.toNatClampNeg) (M, N, C, R, G, E, F, T, pc, ph, rd, th, lm, sh, tm, sn)
      rw [o_7]
      rfl
    exact W.vret hx hb hr (fun t ht hW => ⟨⟨(M, N, C, upd R v_2.toNatClampNeg ((R v_2.toNatClampNeg) - (R v_3.toNatClampNeg)), G, E, F, T, v_6, ph, rd, th, lm, sh, tm, sn), rfl, z_13, by rw [ht]; exact hP, va_K.moved hW.alike hK, hD⟩, hS.F ht⟩) hS.2.2 dX1_step_302
  · refine lv_tableIn (off := 164) (tgt := 224) hx hb dX1_step_60 (by rw [o_7]; decide) (by rw [o_7]; decide) (by rw [o_7]; rfl) (by decide) ?_
    refine lv_aload_n hx hb dX1_step_224 rfl (lv_at hl 6 rfl) ?_
    refine va_get (D := (dC, dI)) (ci := 1) (v := .ref q4) (C := RX1) (T := TX1) (N := 16) hx hb hts inw_X1_step hown hK hP 0 rfl rfl 3 (by decide) (hts (.fieldLink RX1 19 "MigratorModel" "reg" "[I") (by decide +kernel)) (fun _ h9 => h9) rfl dX1_step_225 ?_
    refine lv_iload_n hx hb dX1_step_228 rfl (lv_at hl 4 rfl) ?_
    refine va_iald hx hb hK hP 4 0 rfl rfl (by rw [ev_2]; exact in_3 _) dX1_step_229 ?_
    refine lv_if_eq (tgt := 296) hx hb dX1_step_230 (by decide) (fun c_14 => ?_) (fun c_14 => ?_)
    · refine lv_aload_n hx hb dX1_step_296 rfl (lv_at hl 6 rfl) ?_
      refine lv_iload hx hb dX1_step_297 (lv_at hl 0 rfl) ?_
      refine va_put (D := (dC, dI)) (ci := 1) (v := .int v_6) (ty := .int) (C := RX1) (T := TX1) (N := 16) hx hb hts inw_X1_step tyX1 tyX1_ok nmX1 hown hK hP hD hS 0 rfl rfl 8 (by decide) (hts (.fieldLink RX1 56 "MigratorModel" "pc" "I") (by decide +kernel)) (fun _ h9 => h9) rfl (by decide +kernel) rfl rfl (Nat.le_of_ble_eq_true rfl) dX1_step_299 (fun H locs hP hD hS => ?_)
      have hP : va_P (dC, dI) vwCl [(h0, .inr (1, [.ref q1, .ref q2, .ref q3, .ref q4, .ref q5, .ref q6, .ref q7, .ref q8, .int v_6, .int ph, .int rd, .int th, .int lm, .int sh, .long tm, .long sn])), (q1, .inl (cA, 64, .inl M)), (q2, .inl (cA, 64, .inl N)), (q3, .inl (cA, 64, .inl C)), (q4, .inl (cA, 4, .inl R)), (q5, .inl (cJ, 8, .inr (.inl G))), (q6, .inl (cZ, 8, .inl E)), (q7, .inl (cZ, 8, .inl F)), (q8, .inl (cA, 8, .inl T))] H := hP
      have hD : va_D A [(h0, .inr (1, [.ref q1, .ref q2, .ref q3, .ref q4, .ref q5, .ref q6, .ref q7, .ref q8, .int v_6, .int ph, .int rd, .int th, .int lm, .int sh, .long tm, .long sn])), (q1, .inl (cA, 64, .inl M)), (q2, .inl (cA, 64, .inl N)), (q3, .inl (cA, 64, .inl C)), (q4, .inl (cA, 4, .inl R)), (q5, .inl (cJ, 8, .inr (.inl G))), (q6, .inl (cZ, 8, .inl E)), (q7, .inl (cZ, 8, .inl F)), (q8, .inl (cA, 8, .inl T))] := hD
      have z_15 : (M, N, C, R, G, E, F, T, v_6, ph, rd, th, lm, sh, tm, sn) = mr_step (M, N, C, R, G, E, F, T, pc, ph, rd, th, lm, sh, tm, sn) := by
        subst ev_6
        subst ev_5
        subst ev_4
        subst ev_3
        subst ev_2
        subst ev_1
        show _ = mr_go (M pc.toNatClampNeg &&& 7) (M pc.toNatClampNeg) (M, N, C, R, G, E, F, T, pc, ph, rd, th, lm, sh, tm, sn)
        rw [o_7]
        show _ = (M, N, C, R, G, E, F, T, (if R (mg_a (M pc.toNatClampNeg)).toNatClampNeg = 0 then (pc + 1) &&& 63 else mg_k (M pc.toNatClampNeg) &&& 63), ph, rd, th, lm, sh, tm, sn)
        rw [if_pos c_14]
      exact W.vret hx hb hr (fun t ht hW => ⟨⟨(M, N, C, R, G, E, F, T, v_6, ph, rd, th, lm, sh, tm, sn), rfl, z_15, by rw [ht]; exact hP, va_K.moved hW.alike hK, hD⟩, hS.F ht⟩) hS.2.2 dX1_step_302
    · refine lv_iload hx hb dX1_step_233 (lv_at hl 2 rfl) ?_
      refine lv_bipush (v := 63) hx hb dX1_step_235 (by decide) ?_
      refine lv_iand hx hb dX1_step_237 ?_
      refine lv_topi (fun v_16 ev_16 => ?_)
      refine lv_istore (lv' := [(6, .int v_16), (5, .int v_5), (4, .int v_4), (3, .int v_3), (2, .int v_2), (1, .int v_1), (0, .ref h0)]) hx hb dX1_step_238 hl (by decide) rfl (fun ls hl => ?_)
      refine lv_goto (tgt := 296) hx hb dX1_step_240 (by decide) ?_
      refine lv_aload_n hx hb dX1_step_296 rfl (lv_at hl 6 rfl) ?_
      refine lv_iload hx hb dX1_step_297 (lv_at hl 0 rfl) ?_
      refine va_put (D := (dC, dI)) (ci := 1) (v := .int v_16) (ty := .int) (C := RX1) (T := TX1) (N := 16) hx hb hts inw_X1_step tyX1 tyX1_ok nmX1 hown hK hP hD hS 0 rfl rfl 8 (by decide) (hts (.fieldLink RX1 56 "MigratorModel" "pc" "I") (by decide +kernel)) (fun _ h9 => h9) rfl (by decide +kernel) rfl rfl (Nat.le_of_ble_eq_true rfl) dX1_step_299 (fun H locs hP hD hS => ?_)
      have hP : va_P (dC, dI) vwCl [(h0, .inr (1, [.ref q1, .ref q2, .ref q3, .ref q4, .ref q5, .ref q6, .ref q7, .ref q8, .int v_16, .int ph, .int rd, .int th, .int lm, .int sh, .long tm, .long sn])), (q1, .inl (cA, 64, .inl M)), (q2, .inl (cA, 64, .inl N)), (q3, .inl (cA, 64, .inl C)), (q4, .inl (cA, 4, .inl R)), (q5, .inl (cJ, 8, .inr (.inl G))), (q6, .inl (cZ, 8, .inl E)), (q7, .inl (cZ, 8, .inl F)), (q8, .inl (cA, 8, .inl T))] H := hP
      have hD : va_D A [(h0, .inr (1, [.ref q1, .ref q2, .ref q3, .ref q4, .ref q5, .ref q6, .ref q7, .ref q8, .int v_16, .int ph, .int rd, .int th, .int lm, .int sh, .long tm, .long sn])), (q1, .inl (cA, 64, .inl M)), (q2, .inl (cA, 64, .inl N)), (q3, .inl (cA, 64, .inl C)), (q4, .inl (cA, 4, .inl R)), (q5, .inl (cJ, 8, .inr (.inl G))), (q6, .inl (cZ, 8, .inl E)), (q7, .inl (cZ, 8, .inl F)), (q8, .inl (cA, 8, .inl T))] := hD
      have z_17 : (M, N, C, R, G, E, F, T, v_16, ph, rd, th, lm, sh, tm, sn) = mr_step (M, N, C, R, G, E, F, T, pc, ph, rd, th, lm, sh, tm, sn) := by
        subst ev_16
        subst ev_6
        subst ev_5
        subst ev_4
        subst ev_3
        subst ev_2
        subst ev_1
        show _ = mr_go (M pc.toNatClampNeg &&& 7) (M pc.toNatClampNeg) (M, N, C, R, G, E, F, T, pc, ph, rd, th, lm, sh, tm, sn)
        rw [o_7]
        show _ = (M, N, C, R, G, E, F, T, (if R (mg_a (M pc.toNatClampNeg)).toNatClampNeg = 0 then (pc + 1) &&& 63 else mg_k (M pc.toNatClampNeg) &&& 63), ph, rd, th, lm, sh, tm, sn)
        rw [if_neg c_14]
      exact W.vret hx hb hr (fun t ht hW => ⟨⟨(M, N, C, R, G, E, F, T, v_16, ph, rd, th, lm, sh, tm, sn), rfl, z_17, by rw [ht]; exact hP, va_K.moved hW.alike hK, hD⟩, hS.F ht⟩) hS.2.2 dX1_step_302
  · refine lv_tableOut (tgt := 243) hx hb dX1_step_60 (by rw [o_7]; decide) (by decide) ?_
    refine lv_bipush (v := 7) hx hb dX1_step_243 (by decide) ?_
    refine lv_istore (lv' := [(7, .int 7), (6, .int v_6), (5, .int v_5), (4, .int v_4), (3, .int v_3), (2, .int v_2), (1, .int v_1), (0, .ref h0)]) hx hb dX1_step_245 hl (by decide) rfl (fun ls hl => ?_)
    have loop : ∀ (Q0 : State → Prop), (∀ (Tx : Nat → Int32) (H : Heap) (locs : List Loc) (ls : Array Slot), Tx = mr_sf 0 T → va_P (dC, dI) vwCl [(h0, .inr (1, [.ref q1, .ref q2, .ref q3, .ref q4, .ref q5, .ref q6, .ref q7, .ref q8, .int pc, .int ph, .int rd, .int th, .int lm, .int sh, .long tm, .long sn])), (q1, .inl (cA, 64, .inl M)), (q2, .inl (cA, 64, .inl N)), (q3, .inl (cA, 64, .inl C)), (q4, .inl (cA, 4, .inl R)), (q5, .inl (cJ, 8, .inr (.inl G))), (q6, .inl (cZ, 8, .inl E)), (q7, .inl (cZ, 8, .inl F)), (q8, .inl (cA, 8, .inl Tx))] H → va_D A [(h0, .inr (1, [.ref q1, .ref q2, .ref q3, .ref q4, .ref q5, .ref q6, .ref q7, .ref q8, .int pc, .int ph, .int rd, .int th, .int lm, .int sh, .long tm, .long sn])), (q1, .inl (cA, 64, .inl M)), (q2, .inl (cA, 64, .inl N)), (q3, .inl (cA, 64, .inl C)), (q4, .inl (cA, 4, .inl R)), (q5, .inl (cJ, 8, .inr (.inl G))), (q6, .inl (cZ, 8, .inl E)), (q7, .inl (cZ, 8, .inl F)), (q8, .inl (cA, 8, .inl Tx))] → va_S A s.heap H locs → lv_has ls 8 [(7, .int (nI 0)), (6, .int v_6), (5, .int v_5), (4, .int v_4), (3, .int v_3), (2, .int v_2), (1, .int v_1), (0, .ref h0)] → W p l e (headSpec wsX1_step { frames := 0, cells := 0, slots := 0, locals := 0 }).room s m ([.ref h0] : List Value).toArray below meth c H locs 0 0 Q0 (F0 m 274 ls [])) → ∀ (ix : Nat) (Tx : Nat → Int32) (H : Heap) (locs : List Loc) (ls : Array Slot), ix ≤ 7 → Tx = mr_sf ix T → va_P (dC, dI) vwCl [(h0, .inr (1, [.ref q1, .ref q2, .ref q3, .ref q4, .ref q5, .ref q6, .ref q7, .ref q8, .int pc, .int ph, .int rd, .int th, .int lm, .int sh, .long tm, .long sn])), (q1, .inl (cA, 64, .inl M)), (q2, .inl (cA, 64, .inl N)), (q3, .inl (cA, 64, .inl C)), (q4, .inl (cA, 4, .inl R)), (q5, .inl (cJ, 8, .inr (.inl G))), (q6, .inl (cZ, 8, .inl E)), (q7, .inl (cZ, 8, .inl F)), (q8, .inl (cA, 8, .inl Tx))] H → va_D A [(h0, .inr (1, [.ref q1, .ref q2, .ref q3, .ref q4, .ref q5, .ref q6, .ref q7, .ref q8, .int pc, .int ph, .int rd, .int th, .int lm, .int sh, .long tm, .long sn])), (q1, .inl (cA, 64, .inl M)), (q2, .inl (cA, 64, .inl N)), (q3, .inl (cA, 64, .inl C)), (q4, .inl (cA, 4, .inl R)), (q5, .inl (cJ, 8, .inr (.inl G))), (q6, .inl (cZ, 8, .inl E)), (q7, .inl (cZ, 8, .inl F)), (q8, .inl (cA, 8, .inl Tx))] → va_S A s.heap H locs → lv_has ls 8 [(7, .int (nI ix)), (6, .int v_6), (5, .int v_5), (4, .int v_4), (3, .int v_3), (2, .int v_2), (1, .int v_1), (0, .ref h0)] → W p l e (headSpec wsX1_step { frames := 0, cells := 0, slots := 0, locals := 0 }).room s m ([.ref h0] : List Value).toArray below meth c H locs 0 0 Q0 (F0 m 247 ls []) := by
      intro Q0 hQ ix
      induction ix with
      | zero =>
        intro Tx H locs ls hk hi0 hP hD hS hl
        refine lv_iload hx hb dX1_step_247 (lv_at hl 0 rfl) ?_
        refine lv_if_le (tgt := 274) hx hb dX1_step_249 (by decide) (fun c_118 => ?_) (fun c_118 => ?_)
        · exact hQ Tx H locs ls hi0 hP hD hS hl
        · exact absurd (by decide) c_118
      | succ ix ih =>
        intro Tx H locs ls hk hi0 hP hD hS hl
        refine lv_iload hx hb dX1_step_247 (lv_at hl 0 rfl) ?_
        refine lv_if_le (tgt := 274) hx hb dX1_step_249 (by decide) (fun c_219 => ?_) (fun c_219 => ?_)
        · exact absurd c_219 (nI_nle (by omega) (by omega))
        · refine lv_aload_n hx hb dX1_step_252 rfl (lv_at hl 7 rfl) ?_
          refine va_get (D := (dC, dI)) (ci := 1) (v := .ref q8) (C := RX1) (T := TX1) (N := 16) hx hb hts inw_X1_step hown hK hP 0 rfl rfl 7 (by decide) (hts (.fieldLink RX1 33 "MigratorModel" "told" "[I") (by decide +kernel)) (fun _ h9 => h9) rfl dX1_step_253 ?_
          refine lv_iload hx hb dX1_step_256 (lv_at hl 0 rfl) ?_
          refine lv_aload_n hx hb dX1_step_258 rfl (lv_at hl 7 rfl) ?_
          refine va_get (D := (dC, dI)) (ci := 1) (v := .ref q8) (C := RX1) (T := TX1) (N := 16) hx hb hts inw_X1_step hown hK hP 0 rfl rfl 7 (by decide) (hts (.fieldLink RX1 33 "MigratorModel" "told" "[I") (by decide +kernel)) (fun _ h9 => h9) rfl dX1_step_259 ?_
          refine lv_iload hx hb dX1_step_262 (lv_at hl 0 rfl) ?_
          refine lv_iconst (v := 1) hx hb dX1_step_264 (by decide) ?_
          refine lv_isub hx hb dX1_step_265 ?_
          refine va_iald hx hb hK hP 8 0 rfl rfl (by rw [nI_pred]; exact vp_in_nI (show ix < 8 by omega) (by decide)) dX1_step_266 ?_
          refine va_iast hx hb hK hP hD hS 8 0 rfl rfl (vp_in_nI (show ix + 1 < 8 by omega) (by decide)) dX1_step_267 (fun H locs hP hD hS => ?_)
          have hP : va_P (dC, dI) vwCl [(h0, .inr (1, [.ref q1, .ref q2, .ref q3, .ref q4, .ref q5, .ref q6, .ref q7, .ref q8, .int pc, .int ph, .int rd, .int th, .int lm, .int sh, .long tm, .long sn])), (q1, .inl (cA, 64, .inl M)), (q2, .inl (cA, 64, .inl N)), (q3, .inl (cA, 64, .inl C)), (q4, .inl (cA, 4, .inl R)), (q5, .inl (cJ, 8, .inr (.inl G))), (q6, .inl (cZ, 8, .inl E)), (q7, .inl (cZ, 8, .inl F)), (q8, .inl (cA, 8, .inl (upd Tx (nI (ix + 1)).toNatClampNeg (Tx ((nI (ix + 1)) - 1).toNatClampNeg))))] H := hP
          have hD : va_D A [(h0, .inr (1, [.ref q1, .ref q2, .ref q3, .ref q4, .ref q5, .ref q6, .ref q7, .ref q8, .int pc, .int ph, .int rd, .int th, .int lm, .int sh, .long tm, .long sn])), (q1, .inl (cA, 64, .inl M)), (q2, .inl (cA, 64, .inl N)), (q3, .inl (cA, 64, .inl C)), (q4, .inl (cA, 4, .inl R)), (q5, .inl (cJ, 8, .inr (.inl G))), (q6, .inl (cZ, 8, .inl E)), (q7, .inl (cZ, 8, .inl F)), (q8, .inl (cA, 8, .inl (upd Tx (nI (ix + 1)).toNatClampNeg (Tx ((nI (ix + 1)) - 1).toNatClampNeg))))] := hD
          refine lv_iinc (v := (nI (ix + 1)) + (-1)) (lv' := [(7, .int ((nI (ix + 1)) + (-1))), (6, .int v_6), (5, .int v_5), (4, .int v_4), (3, .int v_3), (2, .int v_2), (1, .int v_1), (0, .ref h0)]) hx hb dX1_step_268 hl (k := 0) rfl rfl (by decide) rfl (fun ls hl => ?_)
          refine lv_goto (tgt := 247) hx hb dX1_step_271 (by decide) ?_
          refine ih _ H locs ls (by omega) ?_ hP hD hS (by rw [← pk_m1 ix]; exact lv_sub hl [0, 1, 2, 3, 4, 5, 6, 7] rfl)
          rw [nI_clamp (by omega), nI_pred, nI_clamp (by omega), hi0]
          exact mr_sf_s ix (by omega) T
    refine loop _ (fun Tx H locs ls hi0 hP hD hS hl => ?_) 7 T _ _ _ (by omega) (mr_sf_7 T).symm hP hD hS hl
    refine lv_aload_n hx hb dX1_step_274 rfl (lv_at hl 7 rfl) ?_
    refine va_get (D := (dC, dI)) (ci := 1) (v := .ref q8) (C := RX1) (T := TX1) (N := 16) hx hb hts inw_X1_step hown hK hP 0 rfl rfl 7 (by decide) (hts (.fieldLink RX1 33 "MigratorModel" "told" "[I") (by decide +kernel)) (fun _ h9 => h9) rfl dX1_step_275 ?_
    refine lv_iconst (v := 0) hx hb dX1_step_278 (by decide) ?_
    refine lv_aload_n hx hb dX1_step_279 rfl (lv_at hl 7 rfl) ?_
    refine va_get (D := (dC, dI)) (ci := 1) (v := .ref q4) (C := RX1) (T := TX1) (N := 16) hx hb hts inw_X1_step hown hK hP 0 rfl rfl 3 (by decide) (hts (.fieldLink RX1 19 "MigratorModel" "reg" "[I") (by decide +kernel)) (fun _ h9 => h9) rfl dX1_step_280 ?_
    refine lv_iload_n hx hb dX1_step_283 rfl (lv_at hl 5 rfl) ?_
    refine va_iald hx hb hK hP 4 0 rfl rfl (by rw [ev_2]; exact in_3 _) dX1_step_284 ?_
    refine va_iast hx hb hK hP hD hS 8 0 rfl rfl (vp_in_nI (n := 0) (by decide) (by decide)) dX1_step_285 (fun H locs hP hD hS => ?_)
    have hP : va_P (dC, dI) vwCl [(h0, .inr (1, [.ref q1, .ref q2, .ref q3, .ref q4, .ref q5, .ref q6, .ref q7, .ref q8, .int pc, .int ph, .int rd, .int th, .int lm, .int sh, .long tm, .long sn])), (q1, .inl (cA, 64, .inl M)), (q2, .inl (cA, 64, .inl N)), (q3, .inl (cA, 64, .inl C)), (q4, .inl (cA, 4, .inl R)), (q5, .inl (cJ, 8, .inr (.inl G))), (q6, .inl (cZ, 8, .inl E)), (q7, .inl (cZ, 8, .inl F)), (q8, .inl (cA, 8, .inl (upd Tx (0 : Int32).toNatClampNeg (R v_2.toNatClampNeg))))] H := hP
    have hD : va_D A [(h0, .inr (1, [.ref q1, .ref q2, .ref q3, .ref q4, .ref q5, .ref q6, .ref q7, .ref q8, .int pc, .int ph, .int rd, .int th, .int lm, .int sh, .long tm, .long sn])), (q1, .inl (cA, 64, .inl M)), (q2, .inl (cA, 64, .inl N)), (q3, .inl (cA, 64, .inl C)), (q4, .inl (cA, 4, .inl R)), (q5, .inl (cJ, 8, .inr (.inl G))), (q6, .inl (cZ, 8, .inl E)), (q7, .inl (cZ, 8, .inl F)), (q8, .inl (cA, 8, .inl (upd Tx (0 : Int32).toNatClampNeg (R v_2.toNatClampNeg))))] := hD
    refine lv_aload_n hx hb dX1_step_286 rfl (lv_at hl 7 rfl) ?_
    refine lv_aload_n hx hb dX1_step_287 rfl (lv_at hl 7 rfl) ?_
    refine va_get (D := (dC, dI)) (ci := 1) (v := .int sh) (C := RX1) (T := TX1) (N := 16) hx hb hts inw_X1_step hown hK hP 0 rfl rfl 13 (by decide) (hts (.fieldLink RX1 59 "MigratorModel" "shows" "I") (by decide +kernel)) (fun _ h9 => h9) rfl dX1_step_288 ?_
    refine lv_iconst (v := 1) hx hb dX1_step_291 (by decide) ?_
    refine lv_iadd hx hb dX1_step_292 ?_
    refine va_put (D := (dC, dI)) (ci := 1) (v := .int (sh + 1)) (ty := .int) (C := RX1) (T := TX1) (N := 16) hx hb hts inw_X1_step tyX1 tyX1_ok nmX1 hown hK hP hD hS 0 rfl rfl 13 (by decide) (hts (.fieldLink RX1 59 "MigratorModel" "shows" "I") (by decide +kernel)) (fun _ h9 => h9) rfl (by decide +kernel) rfl rfl (Nat.le_of_ble_eq_true rfl) dX1_step_293 (fun H locs hP hD hS => ?_)
    have hP : va_P (dC, dI) vwCl [(h0, .inr (1, [.ref q1, .ref q2, .ref q3, .ref q4, .ref q5, .ref q6, .ref q7, .ref q8, .int pc, .int ph, .int rd, .int th, .int lm, .int (sh + 1), .long tm, .long sn])), (q1, .inl (cA, 64, .inl M)), (q2, .inl (cA, 64, .inl N)), (q3, .inl (cA, 64, .inl C)), (q4, .inl (cA, 4, .inl R)), (q5, .inl (cJ, 8, .inr (.inl G))), (q6, .inl (cZ, 8, .inl E)), (q7, .inl (cZ, 8, .inl F)), (q8, .inl (cA, 8, .inl (upd Tx (0 : Int32).toNatClampNeg (R v_2.toNatClampNeg))))] H := hP
    have hD : va_D A [(h0, .inr (1, [.ref q1, .ref q2, .ref q3, .ref q4, .ref q5, .ref q6, .ref q7, .ref q8, .int pc, .int ph, .int rd, .int th, .int lm, .int (sh + 1), .long tm, .long sn])), (q1, .inl (cA, 64, .inl M)), (q2, .inl (cA, 64, .inl N)), (q3, .inl (cA, 64, .inl C)), (q4, .inl (cA, 4, .inl R)), (q5, .inl (cJ, 8, .inr (.inl G))), (q6, .inl (cZ, 8, .inl E)), (q7, .inl (cZ, 8, .inl F)), (q8, .inl (cA, 8, .inl (upd Tx (0 : Int32).toNatClampNeg (R v_2.toNatClampNeg))))] := hD
    refine lv_aload_n hx hb dX1_step_296 rfl (lv_at hl 7 rfl) ?_
    refine lv_iload hx hb dX1_step_297 (lv_at hl 1 rfl) ?_
    refine va_put (D := (dC, dI)) (ci := 1) (v := .int v_6) (ty := .int) (C := RX1) (T := TX1) (N := 16) hx hb hts inw_X1_step tyX1 tyX1_ok nmX1 hown hK hP hD hS 0 rfl rfl 8 (by decide) (hts (.fieldLink RX1 56 "MigratorModel" "pc" "I") (by decide +kernel)) (fun _ h9 => h9) rfl (by decide +kernel) rfl rfl (Nat.le_of_ble_eq_true rfl) dX1_step_299 (fun H locs hP hD hS => ?_)
    have hP : va_P (dC, dI) vwCl [(h0, .inr (1, [.ref q1, .ref q2, .ref q3, .ref q4, .ref q5, .ref q6, .ref q7, .ref q8, .int v_6, .int ph, .int rd, .int th, .int lm, .int (sh + 1), .long tm, .long sn])), (q1, .inl (cA, 64, .inl M)), (q2, .inl (cA, 64, .inl N)), (q3, .inl (cA, 64, .inl C)), (q4, .inl (cA, 4, .inl R)), (q5, .inl (cJ, 8, .inr (.inl G))), (q6, .inl (cZ, 8, .inl E)), (q7, .inl (cZ, 8, .inl F)), (q8, .inl (cA, 8, .inl (upd Tx (0 : Int32).toNatClampNeg (R v_2.toNatClampNeg))))] H := hP
    have hD : va_D A [(h0, .inr (1, [.ref q1, .ref q2, .ref q3, .ref q4, .ref q5, .ref q6, .ref q7, .ref q8, .int v_6, .int ph, .int rd, .int th, .int lm, .int (sh + 1), .long tm, .long sn])), (q1, .inl (cA, 64, .inl M)), (q2, .inl (cA, 64, .inl N)), (q3, .inl (cA, 64, .inl C)), (q4, .inl (cA, 4, .inl R)), (q5, .inl (cJ, 8, .inr (.inl G))), (q6, .inl (cZ, 8, .inl E)), (q7, .inl (cZ, 8, .inl F)), (q8, .inl (cA, 8, .inl (upd Tx (0 : Int32).toNatClampNeg (R v_2.toNatClampNeg))))] := hD
    have z_320 : (M, N, C, R, G, E, F, upd Tx (0 : Int32).toNatClampNeg (R v_2.toNatClampNeg), v_6, ph, rd, th, lm, sh + 1, tm, sn) = mr_step (M, N, C, R, G, E, F, T, pc, ph, rd, th, lm, sh, tm, sn) := by
      subst hi0
      subst ev_6
      subst ev_5
      subst ev_4
      subst ev_3
      subst ev_2
      subst ev_1
      show _ = mr_go (M pc.toNatClampNeg &&& 7) (M pc.toNatClampNeg) (M, N, C, R, G, E, F, T, pc, ph, rd, th, lm, sh, tm, sn)
      rw [o_7]
      rfl
    exact W.vret hx hb hr (fun t ht hW => ⟨⟨(M, N, C, R, G, E, F, upd Tx (0 : Int32).toNatClampNeg (R v_2.toNatClampNeg), v_6, ph, rd, th, lm, sh + 1, tm, sn), rfl, z_320, by rw [ht]; exact hP, va_K.moved hW.alike hK, hD⟩, hS.F ht⟩) hS.2.2 dX1_step_302
