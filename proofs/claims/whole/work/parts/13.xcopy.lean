theorem inw_X0_copyPage : ∀ w ∈ wsX00, w ∈ wsX0_copyPage := fun _ h => List.mem_cons_of_mem _ (List.mem_append_right _ h)
set_option maxHeartbeats 4000000 in
set_option maxRecDepth 100000 in
theorem c_X0_copyPage (l : Launch) (dC : Nat → ClassId) (dI : Nat → Nat → Nat) (h0 q1 q2 q3 q4 : Nat) (cA : ClassId) (S D R K : Nat → Int32) (pc sc ph rd th lm dy wt : Int32) (a : Int32) (sz : Nat) : Met l yX0_copyPage wsX0_copyPage ({ frames := 0, cells := 0, slots := 0, locals := 0 }) (va_Pc [.ref h0, .int a] (fun U => U.heap.size = sz ∧ va_P (dC, dI) vwCl (mg_W h0 q1 q2 q3 q4 cA (S, D, R, K, pc, sc, ph, rd, th, lm, dy, wt)) U.heap ∧ va_K (dC, dI) vwCl [(cA, .int)] U ∧ va_D (fun _ => True) (mg_W h0 q1 q2 q3 q4 cA (S, D, R, K, pc, sc, ph, rd, th, lm, dy, wt)))) (va_Qv (fun (u : mgS) => u = (S, mg_cp S (a <<< ((3 : Int32) &&& 31)) 8 D, R, K, pc, sc, ph, rd, th, lm, dy, wt)) (at_mg dC dI h0 q1 q2 q3 q4 cA (va_A (mg_W h0 q1 q2 q3 q4 cA (S, D, R, K, pc, sc, ph, rd, th, lm, dy, wt)) sz)) (va_A (mg_W h0 q1 q2 q3 q4 cA (S, D, R, K, pc, sc, ph, rd, th, lm, dy, wt)) sz)) 0 0 (va_A (mg_W h0 q1 q2 q3 q4 cA (S, D, R, K, pc, sc, ph, rd, th, lm, dy, wt)) sz) := by
  refine Met.ofW (cc := cX0_copyPage) (maxL := 5) (ret := none) (by decide) rfl ?_
  intro p e s m args below meth c s₁ B hml hv
  obtain ⟨rfl, hsz, hP, hK, hD0⟩ := hv
  have hx := B.exec
  have hb := B.bytes
  have hr := B.returns
  have hts := atoms_spec (ws := wsX0_copyPage) B.pre
  have hown : s.vm.findClass RX0 = some m.cls := findClass_of_methodNamed B.named
  have hlocks := B.notSynchronized
  subst hsz
  have hD := hD0.self (sz := s.heap.size)
  generalize hAe : va_A (mg_W h0 q1 q2 q3 q4 cA (S, D, R, K, pc, sc, ph, rd, th, lm, dy, wt)) s.heap.size = A at hD ⊢
  have hA : ∀ q : Nat, s.heap.size ≤ q → A q := fun q h => by rw [← hAe]; exact Or.inr h
  have hS : va_S A s.heap s.heap [] := va_S.rf
  have hP : va_P (dC, dI) vwCl [(h0, .inr (0, [.ref q1, .ref q2, .ref q3, .ref q4, .int pc, .int sc, .int ph, .int rd, .int th, .int lm, .int dy, .int wt])), (q1, .inl (cA, 64, .inl S)), (q2, .inl (cA, 64, .inl D)), (q3, .inl (cA, 4, .inl R)), (q4, .inl (cA, 8, .inl K))] s.heap := hP
  have hD : va_D A [(h0, .inr (0, [.ref q1, .ref q2, .ref q3, .ref q4, .int pc, .int sc, .int ph, .int rd, .int th, .int lm, .int dy, .int wt])), (q1, .inl (cA, 64, .inl S)), (q2, .inl (cA, 64, .inl D)), (q3, .inl (cA, 4, .inl R)), (q4, .inl (cA, 8, .inl K))] := hD
  have hl := lv_entry ([.ref h0, .int a]) (n := 5) (Nat.le_of_ble_eq_true rfl)
  rw [lg_entry_eq]
  generalize (lg_sl ([.ref h0, .int a]) ++ List.replicate (5 - (lg_sl ([.ref h0, .int a])).length) Slot.unset).toArray = ls at hl ⊢
  have hl : lv_has ls 5 [(0, .ref h0), (1, .int a)] := hl
  refine lv_iload_n hx hb dX0_copyPage_0 rfl (lv_at hl 1 rfl) ?_
  refine lv_iconst (v := 3) hx hb dX0_copyPage_1 (by decide) ?_
  refine lv_ishl hx hb dX0_copyPage_2 ?_
  refine lv_topi (fun v_1 ev_1 => ?_)
  refine lv_istore_n (lv' := [(2, .int v_1), (0, .ref h0), (1, .int a)]) hx hb dX0_copyPage_3 rfl hl (by decide) rfl (fun ls hl => ?_)
  refine lv_iconst (v := 0) hx hb dX0_copyPage_4 (by decide) ?_
  refine lv_istore_n (lv' := [(3, .int 0), (2, .int v_1), (0, .ref h0), (1, .int a)]) hx hb dX0_copyPage_5 rfl hl (by decide) rfl (fun ls hl => ?_)
  have loop : ∀ (Q0 : State → Prop), (∀ (Dx : Nat → Int32) (H : Heap) (locs : List Loc) (ls : Array Slot), Dx = mg_cp S v_1 8 D → va_P (dC, dI) vwCl [(h0, .inr (0, [.ref q1, .ref q2, .ref q3, .ref q4, .int pc, .int sc, .int ph, .int rd, .int th, .int lm, .int dy, .int wt])), (q1, .inl (cA, 64, .inl S)), (q2, .inl (cA, 64, .inl Dx)), (q3, .inl (cA, 4, .inl R)), (q4, .inl (cA, 8, .inl K))] H → va_D A [(h0, .inr (0, [.ref q1, .ref q2, .ref q3, .ref q4, .int pc, .int sc, .int ph, .int rd, .int th, .int lm, .int dy, .int wt])), (q1, .inl (cA, 64, .inl S)), (q2, .inl (cA, 64, .inl Dx)), (q3, .inl (cA, 4, .inl R)), (q4, .inl (cA, 8, .inl K))] → va_S A s.heap H locs → W p l e (headSpec wsX0_copyPage { frames := 0, cells := 0, slots := 0, locals := 0 }).room s m ([.ref h0, .int a] : List Value).toArray below meth c H locs 0 0 Q0 (F0 m 40 ls [])) → ∀ (kx ix : Nat) (Dx : Nat → Int32) (H : Heap) (locs : List Loc) (ls : Array Slot), ix + kx = 8 → Dx = mg_cp S v_1 ix D → va_P (dC, dI) vwCl [(h0, .inr (0, [.ref q1, .ref q2, .ref q3, .ref q4, .int pc, .int sc, .int ph, .int rd, .int th, .int lm, .int dy, .int wt])), (q1, .inl (cA, 64, .inl S)), (q2, .inl (cA, 64, .inl Dx)), (q3, .inl (cA, 4, .inl R)), (q4, .inl (cA, 8, .inl K))] H → va_D A [(h0, .inr (0, [.ref q1, .ref q2, .ref q3, .ref q4, .int pc, .int sc, .int ph, .int rd, .int th, .int lm, .int dy, .int wt])), (q1, .inl (cA, 64, .inl S)), (q2, .inl (cA, 64, .inl Dx)), (q3, .inl (cA, 4, .inl R)), (q4, .inl (cA, 8, .inl K))] → va_S A s.heap H locs → (∃ lv, lv_has ls 5 ([(3, .int (nI ix)), (2, .int v_1), (0, .ref h0), (1, .int a)] ++ lv)) → W p l e (headSpec wsX0_copyPage { frames := 0, cells := 0, slots := 0, locals := 0 }).room s m ([.ref h0, .int a] : List Value).toArray below meth c H locs 0 0 Q0 (F0 m 6 ls []) := by
    intro Q0 hQ kx
    induction kx with
    | zero =>
      intro ix Dx H locs ls hk hi hP hD hS hl
      obtain ⟨lv, hl⟩ := hl
      have hz : ix = 8 := by omega
      subst hz
      have hl : lv_has ls 5 [(3, .int (nI 8)), (2, .int v_1), (0, .ref h0), (1, .int a)] := ⟨hl.1, hl.2.1, fun q hq => hl.2.2 q (List.mem_append_left _ hq)⟩
      refine lv_iload_n hx hb dX0_copyPage_6 rfl (lv_at hl 0 rfl) ?_
      refine lv_bipush (v := 8) hx hb dX0_copyPage_7 (by decide) ?_
      refine lv_icmp_ge (tgt := 40) hx hb dX0_copyPage_9 (by decide) (fun c_2 => ?_) (fun c_2 => ?_)
      · exact hQ Dx H locs ls hi hP hD hS
      · exact absurd (by decide) c_2
    | succ kx ih =>
      intro ix Dx H locs ls hk hi hP hD hS hl
      obtain ⟨lv, hl⟩ := hl
      have hl : lv_has ls 5 [(3, .int (nI ix)), (2, .int v_1), (0, .ref h0), (1, .int a)] := ⟨hl.1, hl.2.1, fun q hq => hl.2.2 q (List.mem_append_left _ hq)⟩
      refine lv_iload_n hx hb dX0_copyPage_6 rfl (lv_at hl 0 rfl) ?_
      refine lv_bipush (v := 8) hx hb dX0_copyPage_7 (by decide) ?_
      refine lv_icmp_ge (tgt := 40) hx hb dX0_copyPage_9 (by decide) (fun c_102 => ?_) (fun c_102 => ?_)
      · exact absurd c_102 (nI_ge (show ix < 8 by omega) (by decide))
      · refine lv_iload_n hx hb dX0_copyPage_12 rfl (lv_at hl 1 rfl) ?_
        refine lv_iload_n hx hb dX0_copyPage_13 rfl (lv_at hl 0 rfl) ?_
        refine lv_iadd hx hb dX0_copyPage_14 ?_
        refine lv_bipush (v := 63) hx hb dX0_copyPage_15 (by decide) ?_
        refine lv_iand hx hb dX0_copyPage_17 ?_
        refine lv_topi (fun v_103 ev_103 => ?_)
        refine lv_istore (lv' := [(4, .int v_103), (3, .int (nI ix)), (2, .int v_1), (0, .ref h0), (1, .int a)]) hx hb dX0_copyPage_18 hl (by decide) rfl (fun ls hl => ?_)
        refine lv_aload_n hx hb dX0_copyPage_20 rfl (lv_at hl 3 rfl) ?_
        refine va_get (D := (dC, dI)) (ci := 0) (v := .ref q2) (C := RX0) (T := TX0) (N := 12) hx hb hts inw_X0_copyPage hown hK hP 0 rfl rfl 1 (by decide) (hts (.fieldLink RX0 13 "Migrator" "destinationWords" "[I") (by decide +kernel)) (fun _ h9 => h9) rfl dX0_copyPage_21 ?_
        refine lv_iload hx hb dX0_copyPage_24 (lv_at hl 0 rfl) ?_
        refine lv_aload_n hx hb dX0_copyPage_26 rfl (lv_at hl 3 rfl) ?_
        refine va_get (D := (dC, dI)) (ci := 0) (v := .ref q1) (C := RX0) (T := TX0) (N := 12) hx hb hts inw_X0_copyPage hown hK hP 0 rfl rfl 0 (by decide) (hts (.fieldLink RX0 9 "Migrator" "sourceWords" "[I") (by decide +kernel)) (fun _ h9 => h9) rfl dX0_copyPage_27 ?_
        refine lv_iload hx hb dX0_copyPage_30 (lv_at hl 0 rfl) ?_
        refine va_iald hx hb hK hP 1 0 rfl rfl (by rw [ev_103]; exact in_63 _) dX0_copyPage_32 ?_
        refine va_iast hx hb hK hP hD hS 2 0 rfl rfl (by rw [ev_103]; exact in_63 _) dX0_copyPage_33 (fun H locs hP hD hS => ?_)
        have hP : va_P (dC, dI) vwCl [(h0, .inr (0, [.ref q1, .ref q2, .ref q3, .ref q4, .int pc, .int sc, .int ph, .int rd, .int th, .int lm, .int dy, .int wt])), (q1, .inl (cA, 64, .inl S)), (q2, .inl (cA, 64, .inl (upd Dx v_103.toNatClampNeg (S v_103.toNatClampNeg)))), (q3, .inl (cA, 4, .inl R)), (q4, .inl (cA, 8, .inl K))] H := hP
        have hD : va_D A [(h0, .inr (0, [.ref q1, .ref q2, .ref q3, .ref q4, .int pc, .int sc, .int ph, .int rd, .int th, .int lm, .int dy, .int wt])), (q1, .inl (cA, 64, .inl S)), (q2, .inl (cA, 64, .inl (upd Dx v_103.toNatClampNeg (S v_103.toNatClampNeg)))), (q3, .inl (cA, 4, .inl R)), (q4, .inl (cA, 8, .inl K))] := hD
        refine lv_iinc (v := (nI ix) + 1) (lv' := [(3, .int ((nI ix) + 1)), (4, .int v_103), (2, .int v_1), (0, .ref h0), (1, .int a)]) hx hb dX0_copyPage_34 hl (k := 1) rfl rfl (by decide) rfl (fun ls hl => ?_)
        refine lv_goto (tgt := 6) hx hb dX0_copyPage_37 (by decide) ?_
        exact ih (ix + 1) _ H locs ls (by omega) (by rw [ev_103, hi]; rfl) hP hD hS ⟨[(4, .int v_103)], by rw [← nI_1]; exact lv_sub hl [0, 2, 3, 4, 1] rfl⟩
  refine loop _ (fun Dx H locs ls hi hP hD hS => ?_) 8 0 D _ _ _ (by omega) rfl hP hD hS ⟨[], hl⟩
  exact W.vret hx hb hr (fun t ht hW => ⟨⟨(S, Dx, R, K, pc, sc, ph, rd, th, lm, dy, wt), rfl, (by rw [hi, ev_1]), by rw [ht]; exact hP, va_K.moved hW.alike hK, hD⟩, hS.F ht⟩) hS.2.2 dX0_copyPage_40
theorem inw_X0_copyFirstWaiting : ∀ w ∈ wsX00, w ∈ wsX0_copyFirstWaiting := fun _ h => List.mem_cons_of_mem _ (List.mem_append_right _ h)
set_option maxHeartbeats 4000000 in
set_option maxRecDepth 100000 in
theorem c_X0_copyFirstWaiting (l : Launch) (dC : Nat → ClassId) (dI : Nat → Nat → Nat) (h0 q1 q2 q3 q4 : Nat) (cA : ClassId) (S D R K : Nat → Int32) (pc sc ph rd th lm dy wt : Int32) (sz : Nat) : Met l yX0_copyFirstWaiting wsX0_copyFirstWaiting ({ frames := 1, cells := 0, slots := 0, locals := 24 }) (va_Pc [.ref h0] (fun U => U.heap.size = sz ∧ va_P (dC, dI) vwCl (mg_W h0 q1 q2 q3 q4 cA (S, D, R, K, pc, sc, ph, rd, th, lm, dy, wt)) U.heap ∧ va_K (dC, dI) vwCl [(cA, .int)] U ∧ va_D (fun _ => True) (mg_W h0 q1 q2 q3 q4 cA (S, D, R, K, pc, sc, ph, rd, th, lm, dy, wt)))) (va_Qi (fun (r : Int32) (u : mgS) => mg_fwP S D R K pc sc ph rd th lm dy wt r u) (at_mg dC dI h0 q1 q2 q3 q4 cA (va_A (mg_W h0 q1 q2 q3 q4 cA (S, D, R, K, pc, sc, ph, rd, th, lm, dy, wt)) sz)) (va_A (mg_W h0 q1 q2 q3 q4 cA (S, D, R, K, pc, sc, ph, rd, th, lm, dy, wt)) sz)) 0 0 (va_A (mg_W h0 q1 q2 q3 q4 cA (S, D, R, K, pc, sc, ph, rd, th, lm, dy, wt)) sz) := by
  refine Met.ofW (cc := cX0_copyFirstWaiting) (maxL := 2) (ret := (some .int)) (by decide) rfl ?_
  intro p e s m args below meth c s₁ B hml hv
  obtain ⟨rfl, hsz, hP, hK, hD0⟩ := hv
  have hx := B.exec
  have hb := B.bytes
  have hr := B.returns
  have hts := atoms_spec (ws := wsX0_copyFirstWaiting) B.pre
  have hown : s.vm.findClass RX0 = some m.cls := findClass_of_methodNamed B.named
  have hlocks := B.notSynchronized
  subst hsz
  have hD := hD0.self (sz := s.heap.size)
  generalize hAe : va_A (mg_W h0 q1 q2 q3 q4 cA (S, D, R, K, pc, sc, ph, rd, th, lm, dy, wt)) s.heap.size = A at hD ⊢
  have hA : ∀ q : Nat, s.heap.size ≤ q → A q := fun q h => by rw [← hAe]; exact Or.inr h
  have hS : va_S A s.heap s.heap [] := va_S.rf
  have hP : va_P (dC, dI) vwCl [(h0, .inr (0, [.ref q1, .ref q2, .ref q3, .ref q4, .int pc, .int sc, .int ph, .int rd, .int th, .int lm, .int dy, .int wt])), (q1, .inl (cA, 64, .inl S)), (q2, .inl (cA, 64, .inl D)), (q3, .inl (cA, 4, .inl R)), (q4, .inl (cA, 8, .inl K))] s.heap := hP
  have hD : va_D A [(h0, .inr (0, [.ref q1, .ref q2, .ref q3, .ref q4, .int pc, .int sc, .int ph, .int rd, .int th, .int lm, .int dy, .int wt])), (q1, .inl (cA, 64, .inl S)), (q2, .inl (cA, 64, .inl D)), (q3, .inl (cA, 4, .inl R)), (q4, .inl (cA, 8, .inl K))] := hD
  have hl := lv_entry ([.ref h0]) (n := 2) (Nat.le_of_ble_eq_true rfl)
  rw [lg_entry_eq]
  generalize (lg_sl ([.ref h0]) ++ List.replicate (2 - (lg_sl ([.ref h0])).length) Slot.unset).toArray = ls at hl ⊢
  have hl : lv_has ls 2 [(0, .ref h0)] := hl
  refine lv_iconst (v := 0) hx hb dX0_copyFirstWaiting_0 (by decide) ?_
  refine lv_istore_n (lv' := [(1, .int 0), (0, .ref h0)]) hx hb dX0_copyFirstWaiting_1 rfl hl (by decide) rfl (fun ls hl => ?_)
  obtain ⟨Q0, hQ0⟩ : ∃ Q0, Q0 = MQ below (va_Qi (fun (r : Int32) (u : mgS) => mg_fwP S D R K pc sc ph rd th lm dy wt r u) (at_mg dC dI h0 q1 q2 q3 q4 cA A) A) ([.ref h0] : List Value).toArray s 0 0 A := ⟨_, rfl⟩
  have loop : ∀ (kx ix : Nat) (H : Heap) (locs : List Loc) (ls : Array Slot), ix + kx = 8 → (∀ k, k < ix → ¬ mg_bt wt (nI k)) → va_P (dC, dI) vwCl [(h0, .inr (0, [.ref q1, .ref q2, .ref q3, .ref q4, .int pc, .int sc, .int ph, .int rd, .int th, .int lm, .int dy, .int wt])), (q1, .inl (cA, 64, .inl S)), (q2, .inl (cA, 64, .inl D)), (q3, .inl (cA, 4, .inl R)), (q4, .inl (cA, 8, .inl K))] H → va_D A [(h0, .inr (0, [.ref q1, .ref q2, .ref q3, .ref q4, .int pc, .int sc, .int ph, .int rd, .int th, .int lm, .int dy, .int wt])), (q1, .inl (cA, 64, .inl S)), (q2, .inl (cA, 64, .inl D)), (q3, .inl (cA, 4, .inl R)), (q4, .inl (cA, 8, .inl K))] → va_S A s.heap H locs → lv_has ls 2 [(1, .int (nI ix)), (0, .ref h0)] → W p l e (headSpec wsX0_copyFirstWaiting { frames := 1, cells := 0, slots := 0, locals := 24 }).room s m ([.ref h0] : List Value).toArray below meth c H locs 0 0 Q0 (F0 m 2 ls []) := by
    intro kx
    subst hQ0
    induction kx with
    | zero =>
      intro ix H locs ls hk hi hP hD hS hl
      have hz : ix = 8 := by omega
      subst hz
      refine lv_iload_n hx hb dX0_copyFirstWaiting_2 rfl (lv_at hl 0 rfl) ?_
      refine lv_bipush (v := 8) hx hb dX0_copyFirstWaiting_3 (by decide) ?_
      refine lv_icmp_ge (tgt := 46) hx hb dX0_copyFirstWaiting_5 (by decide) (fun c_1 => ?_) (fun c_1 => ?_)
      · refine lv_iconst (v := (-1)) hx hb dX0_copyFirstWaiting_46 (by decide) ?_
        exact W.iret (v := (-1)) hx hb hr (fun t ht hW => ⟨⟨(-1), (S, D, R, K, pc, sc, ph, rd, th, lm, dy, wt), rfl, Or.inr ⟨hi, rfl, rfl⟩, by rw [ht]; exact hP, va_K.moved hW.alike hK, hD⟩, hS.F ht⟩) hS.2.2 dX0_copyFirstWaiting_47
      · exact absurd (by decide) c_1
    | succ kx ih =>
      intro ix H locs ls hk hi hP hD hS hl
      refine lv_iload_n hx hb dX0_copyFirstWaiting_2 rfl (lv_at hl 0 rfl) ?_
      refine lv_bipush (v := 8) hx hb dX0_copyFirstWaiting_3 (by decide) ?_
      refine lv_icmp_ge (tgt := 46) hx hb dX0_copyFirstWaiting_5 (by decide) (fun c_101 => ?_) (fun c_101 => ?_)
      · exact absurd c_101 (nI_ge (show ix < 8 by omega) (by decide))
      · refine lv_aload_n hx hb dX0_copyFirstWaiting_8 rfl (lv_at hl 1 rfl) ?_
        refine va_get (D := (dC, dI)) (ci := 0) (v := .int wt) (C := RX0) (T := TX0) (N := 12) hx hb hts inw_X0_copyFirstWaiting hown hK hP 0 rfl rfl 11 (by decide) (hts (.fieldLink RX0 44 "Migrator" "waitingPages" "I") (by decide +kernel)) (fun _ h9 => h9) rfl dX0_copyFirstWaiting_9 ?_
        refine lv_iload_n hx hb dX0_copyFirstWaiting_12 rfl (lv_at hl 0 rfl) ?_
        have hPc := hP.sub (ws' := []) [] rfl
        have hDc := hD.sub (ws' := []) [] (by decide) rfl
        have hKc := hK.sub (tys' := []) [] rfl
        have hFc := va_free (wc := []) hD hS hA [] rfl
        refine va_calli (va_runS (As := [.int wt, .int (nI ix)]) (rest := []) ⟨hx, hb, hml, hown, hts⟩ (c_X0_hasPage l dC dI wt (nI ix) H.size) (va_cwS 2 hts gX0_copyFirstWaiting_X0_hasPage rfl rfl rfl (by decide +kernel) ⟨Nat.le_of_ble_eq_true rfl, Nat.le_of_ble_eq_true rfl⟩) ⟨fun a U g mk q => by obtain ⟨q0, q1, qP, qK, qD⟩ := q; exact ⟨q0, q1, qP, va_K.moved (u := U) (U := U.calling g mk a) (Vm.Alike.refl U.vm) qK, qD⟩, fun U hU hW => ⟨rfl, by rw [hU], by rw [hU]; exact hPc, va_K.moved hW.alike hKc, hDc.weaken (fun _ _ _ _ => trivial)⟩⟩ rfl rfl hl.1 rfl (lv_room (Nat.le_of_ble_eq_true rfl)) dX0_copyFirstWaiting_13 ⟨(Nat.zero_le _), (Nat.zero_le _)⟩) hS (fun q _ h => hFc q h) hFc (fun r_102 u_103 t H1 locs ht hvm w_104 hB hz1 hk1 hS => ?_)
        obtain ⟨hP1, hK1, hD1⟩ := hB
        rw [ht] at hP1
        obtain ⟨hP, hD⟩ := va_join (wr := [(h0, .inr (0, [.ref q1, .ref q2, .ref q3, .ref q4, .int pc, .int sc, .int ph, .int rd, .int th, .int lm, .int dy, .int wt])), (q1, .inl (cA, 64, .inl S)), (q2, .inl (cA, 64, .inl D)), (q3, .inl (cA, 4, .inl R)), (q4, .inl (cA, 8, .inl K))]) (w1 := []) hP hD [] [0, 1, 2, 3, 4] rfl rfl (by decide) (by decide) hk1 hFc hP1 hD1
        clear hPc hDc hFc hP1 hD1 hk1 hK1
        generalize H1 = H at hP hS ⊢
        have hP : va_P (dC, dI) vwCl [(h0, .inr (0, [.ref q1, .ref q2, .ref q3, .ref q4, .int pc, .int sc, .int ph, .int rd, .int th, .int lm, .int dy, .int wt])), (q1, .inl (cA, 64, .inl S)), (q2, .inl (cA, 64, .inl D)), (q3, .inl (cA, 4, .inl R)), (q4, .inl (cA, 8, .inl K))] H := hP
        have hD : va_D A [(h0, .inr (0, [.ref q1, .ref q2, .ref q3, .ref q4, .int pc, .int sc, .int ph, .int rd, .int th, .int lm, .int dy, .int wt])), (q1, .inl (cA, 64, .inl S)), (q2, .inl (cA, 64, .inl D)), (q3, .inl (cA, 4, .inl R)), (q4, .inl (cA, 8, .inl K))] := hD
        rcases w_104 with ⟨rfl, a_105⟩ | ⟨rfl, a_105⟩
        · refine lv_if_eq (tgt := 40) hx hb dX0_copyFirstWaiting_16 (by decide) (fun c_106 => ?_) (fun c_106 => ?_)
          · exact absurd c_106 (by decide)
          · refine lv_aload_n hx hb dX0_copyFirstWaiting_19 rfl (lv_at hl 1 rfl) ?_
            refine lv_iload_n hx hb dX0_copyFirstWaiting_20 rfl (lv_at hl 0 rfl) ?_
            have hPc := hP.sub (ws' := [(h0, .inr (0, [.ref q1, .ref q2, .ref q3, .ref q4, .int pc, .int sc, .int ph, .int rd, .int th, .int lm, .int dy, .int wt])), (q1, .inl (cA, 64, .inl S)), (q2, .inl (cA, 64, .inl D)), (q3, .inl (cA, 4, .inl R)), (q4, .inl (cA, 8, .inl K))]) [0, 1, 2, 3, 4] rfl
            have hDc := hD.sub (ws' := [(h0, .inr (0, [.ref q1, .ref q2, .ref q3, .ref q4, .int pc, .int sc, .int ph, .int rd, .int th, .int lm, .int dy, .int wt])), (q1, .inl (cA, 64, .inl S)), (q2, .inl (cA, 64, .inl D)), (q3, .inl (cA, 4, .inl R)), (q4, .inl (cA, 8, .inl K))]) [0, 1, 2, 3, 4] (by decide) rfl
            have hKc := hK.sub (tys' := [(cA, .int)]) [0] rfl
            have hFc := va_free (wc := [(h0, .inr (0, [.ref q1, .ref q2, .ref q3, .ref q4, .int pc, .int sc, .int ph, .int rd, .int th, .int lm, .int dy, .int wt])), (q1, .inl (cA, 64, .inl S)), (q2, .inl (cA, 64, .inl D)), (q3, .inl (cA, 4, .inl R)), (q4, .inl (cA, 8, .inl K))]) hD hS hA [0, 1, 2, 3, 4] rfl
            refine va_callv (va_runV (As := [.int (nI ix)]) (rest := []) ⟨hx, hb, hml, hown, hts⟩ (c_X0_copyPage l dC dI h0 q1 q2 q3 q4 cA S D R K pc sc ph rd th lm dy wt (nI ix) H.size) (cwV 1 hts gX0_copyFirstWaiting_X0_copyPage rfl rfl rfl (by decide +kernel) ⟨Nat.le_of_ble_eq_true rfl, Nat.le_of_ble_eq_true rfl⟩) ⟨fun a U g mk q => by obtain ⟨q0, q1, qP, qK, qD⟩ := q; exact ⟨q0, q1, qP, va_K.moved (u := U) (U := U.calling g mk a) (Vm.Alike.refl U.vm) qK, qD⟩, va_recv hKc hPc (ci := 0) (q0 := 0) rfl rfl, fun U hU hW => ⟨rfl, by rw [hU], by rw [hU]; exact hPc, va_K.moved hW.alike hKc, hDc.weaken (fun _ _ _ _ => trivial)⟩⟩ rfl rfl hl.1 rfl (lv_room (Nat.le_of_ble_eq_true rfl)) dX0_copyFirstWaiting_21 ⟨(Nat.zero_le _), (Nat.zero_le _)⟩) hS (fun q _ h => hFc q h) hFc (fun u_107 t H1 locs ht hvm w_108 hB hz1 hk1 hS => ?_)
            subst w_108
            obtain ⟨hP1, hK1, hD1⟩ := hB
            rw [ht] at hP1
            obtain ⟨hP, hD⟩ := va_join (wr := []) (w1 := [(h0, .inr (0, [.ref q1, .ref q2, .ref q3, .ref q4, .int pc, .int sc, .int ph, .int rd, .int th, .int lm, .int dy, .int wt])), (q1, .inl (cA, 64, .inl S)), (q2, .inl (cA, 64, .inl (mg_cp S ((nI ix) <<< ((3 : Int32) &&& 31)) 8 D))), (q3, .inl (cA, 4, .inl R)), (q4, .inl (cA, 8, .inl K))]) hP hD [0, 1, 2, 3, 4] [] rfl rfl (by decide) (by decide) hk1 hFc hP1 hD1
            clear hPc hDc hFc hP1 hD1 hk1 hK1
            generalize H1 = H at hP hS ⊢
            have hP : va_P (dC, dI) vwCl [(h0, .inr (0, [.ref q1, .ref q2, .ref q3, .ref q4, .int pc, .int sc, .int ph, .int rd, .int th, .int lm, .int dy, .int wt])), (q1, .inl (cA, 64, .inl S)), (q2, .inl (cA, 64, .inl (mg_cp S ((nI ix) <<< ((3 : Int32) &&& 31)) 8 D))), (q3, .inl (cA, 4, .inl R)), (q4, .inl (cA, 8, .inl K))] H := hP
            have hD : va_D A [(h0, .inr (0, [.ref q1, .ref q2, .ref q3, .ref q4, .int pc, .int sc, .int ph, .int rd, .int th, .int lm, .int dy, .int wt])), (q1, .inl (cA, 64, .inl S)), (q2, .inl (cA, 64, .inl (mg_cp S ((nI ix) <<< ((3 : Int32) &&& 31)) 8 D))), (q3, .inl (cA, 4, .inl R)), (q4, .inl (cA, 8, .inl K))] := hD
            refine lv_aload_n hx hb dX0_copyFirstWaiting_24 rfl (lv_at hl 1 rfl) ?_
            refine lv_dup hx hb dX0_copyFirstWaiting_25 rfl ?_
            refine va_get (D := (dC, dI)) (ci := 0) (v := .int wt) (C := RX0) (T := TX0) (N := 12) hx hb hts inw_X0_copyFirstWaiting hown hK hP 0 rfl rfl 11 (by decide) (hts (.fieldLink RX0 44 "Migrator" "waitingPages" "I") (by decide +kernel)) (fun _ h9 => h9) rfl dX0_copyFirstWaiting_26 ?_
            refine lv_iconst (v := 1) hx hb dX0_copyFirstWaiting_29 (by decide) ?_
            refine lv_iload_n hx hb dX0_copyFirstWaiting_30 rfl (lv_at hl 0 rfl) ?_
            refine lv_ishl hx hb dX0_copyFirstWaiting_31 ?_
            refine lv_iconst (v := (-1)) hx hb dX0_copyFirstWaiting_32 (by decide) ?_
            refine lv_ixor hx hb dX0_copyFirstWaiting_33 ?_
            refine lv_iand hx hb dX0_copyFirstWaiting_34 ?_
            refine va_put (D := (dC, dI)) (ci := 0) (v := .int (wt &&& (((1 : Int32) <<< ((nI ix) &&& 31)) ^^^ (-1)))) (ty := .int) (C := RX0) (T := TX0) (N := 12) hx hb hts inw_X0_copyFirstWaiting tyX0 tyX0_ok nmX0 hown hK hP hD hS 0 rfl rfl 11 (by decide) (hts (.fieldLink RX0 44 "Migrator" "waitingPages" "I") (by decide +kernel)) (fun _ h9 => h9) rfl (by decide +kernel) rfl rfl (Nat.le_of_ble_eq_true rfl) dX0_copyFirstWaiting_35 (fun H locs hP hD hS => ?_)
            have hP : va_P (dC, dI) vwCl [(h0, .inr (0, [.ref q1, .ref q2, .ref q3, .ref q4, .int pc, .int sc, .int ph, .int rd, .int th, .int lm, .int dy, .int (wt &&& (((1 : Int32) <<< ((nI ix) &&& 31)) ^^^ (-1)))])), (q1, .inl (cA, 64, .inl S)), (q2, .inl (cA, 64, .inl (mg_cp S ((nI ix) <<< ((3 : Int32) &&& 31)) 8 D))), (q3, .inl (cA, 4, .inl R)), (q4, .inl (cA, 8, .inl K))] H := hP
            have hD : va_D A [(h0, .inr (0, [.ref q1, .ref q2, .ref q3, .ref q4, .int pc, .int sc, .int ph, .int rd, .int th, .int lm, .int dy, .int (wt &&& (((1 : Int32) <<< ((nI ix) &&& 31)) ^^^ (-1)))])), (q1, .inl (cA, 64, .inl S)), (q2, .inl (cA, 64, .inl (mg_cp S ((nI ix) <<< ((3 : Int32) &&& 31)) 8 D))), (q3, .inl (cA, 4, .inl R)), (q4, .inl (cA, 8, .inl K))] := hD
            refine lv_iload_n hx hb dX0_copyFirstWaiting_38 rfl (lv_at hl 0 rfl) ?_
            exact W.iret (v := nI ix) hx hb hr (fun t ht hW => ⟨⟨nI ix, (S, mg_cp S ((nI ix) <<< ((3 : Int32) &&& 31)) 8 D, R, K, pc, sc, ph, rd, th, lm, dy, wt &&& (((1 : Int32) <<< ((nI ix) &&& 31)) ^^^ (-1))), rfl, Or.inl ⟨ix, by omega, a_105, hi, rfl, rfl⟩, by rw [ht]; exact hP, va_K.moved hW.alike hK, hD⟩, hS.F ht⟩) hS.2.2 dX0_copyFirstWaiting_39
        · refine lv_if_eq (tgt := 40) hx hb dX0_copyFirstWaiting_16 (by decide) (fun c_109 => ?_) (fun c_109 => ?_)
          · refine lv_iinc (v := (nI ix) + 1) (lv' := [(1, .int ((nI ix) + 1)), (0, .ref h0)]) hx hb dX0_copyFirstWaiting_40 hl (k := 0) rfl rfl (by decide) rfl (fun ls hl => ?_)
            refine lv_goto (tgt := 2) hx hb dX0_copyFirstWaiting_43 (by decide) ?_
            exact ih (ix + 1) H locs ls (by omega) (lt_s (p := fun k => ¬ mg_bt wt (nI k)) hi a_105) hP hD hS (by rw [← nI_1]; exact hl)
          · exact absurd c_109 (by decide)
  subst hQ0
  exact loop 8 0 _ _ _ (by omega) (fun k h => absurd h (Nat.not_lt_zero k)) hP hD hS hl
theorem inw_X0_endRound : ∀ w ∈ wsX00, w ∈ wsX0_endRound := fun _ h => List.mem_cons_of_mem _ (List.mem_append_right _ h)
set_option maxHeartbeats 4000000 in
set_option maxRecDepth 100000 in
theorem c_X0_endRound (l : Launch) (dC : Nat → ClassId) (dI : Nat → Nat → Nat) (h0 q1 q2 q3 q4 : Nat) (cA : ClassId) (S D R K : Nat → Int32) (pc sc ph rd th lm dy wt : Int32) (sz : Nat) : Met l yX0_endRound wsX0_endRound ({ frames := 1, cells := 0, slots := 0, locals := 20 }) (va_Pc [.ref h0] (fun U => U.heap.size = sz ∧ va_P (dC, dI) vwCl (mg_W h0 q1 q2 q3 q4 cA (S, D, R, K, pc, sc, ph, rd, th, lm, dy, wt)) U.heap ∧ va_K (dC, dI) vwCl [(cA, .int)] U ∧ va_D (fun _ => True) (mg_W h0 q1 q2 q3 q4 cA (S, D, R, K, pc, sc, ph, rd, th, lm, dy, wt)))) (va_Qi (fun (r : Int32) (u : mgS) => mg_erP S D R K pc sc ph rd th lm dy r u) (at_mg dC dI h0 q1 q2 q3 q4 cA (va_A (mg_W h0 q1 q2 q3 q4 cA (S, D, R, K, pc, sc, ph, rd, th, lm, dy, wt)) sz)) (va_A (mg_W h0 q1 q2 q3 q4 cA (S, D, R, K, pc, sc, ph, rd, th, lm, dy, wt)) sz)) 0 0 (va_A (mg_W h0 q1 q2 q3 q4 cA (S, D, R, K, pc, sc, ph, rd, th, lm, dy, wt)) sz) := by
  refine Met.ofW (cc := cX0_endRound) (maxL := 1) (ret := (some .int)) (by decide) rfl ?_
  intro p e s m args below meth c s₁ B hml hv
  obtain ⟨rfl, hsz, hP, hK, hD0⟩ := hv
  have hx := B.exec
  have hb := B.bytes
  have hr := B.returns
  have hts := atoms_spec (ws := wsX0_endRound) B.pre
  have hown : s.vm.findClass RX0 = some m.cls := findClass_of_methodNamed B.named
  have hlocks := B.notSynchronized
  subst hsz
  have hD := hD0.self (sz := s.heap.size)
  generalize hAe : va_A (mg_W h0 q1 q2 q3 q4 cA (S, D, R, K, pc, sc, ph, rd, th, lm, dy, wt)) s.heap.size = A at hD ⊢
  have hA : ∀ q : Nat, s.heap.size ≤ q → A q := fun q h => by rw [← hAe]; exact Or.inr h
  have hS : va_S A s.heap s.heap [] := va_S.rf
  have hP : va_P (dC, dI) vwCl [(h0, .inr (0, [.ref q1, .ref q2, .ref q3, .ref q4, .int pc, .int sc, .int ph, .int rd, .int th, .int lm, .int dy, .int wt])), (q1, .inl (cA, 64, .inl S)), (q2, .inl (cA, 64, .inl D)), (q3, .inl (cA, 4, .inl R)), (q4, .inl (cA, 8, .inl K))] s.heap := hP
  have hD : va_D A [(h0, .inr (0, [.ref q1, .ref q2, .ref q3, .ref q4, .int pc, .int sc, .int ph, .int rd, .int th, .int lm, .int dy, .int wt])), (q1, .inl (cA, 64, .inl S)), (q2, .inl (cA, 64, .inl D)), (q3, .inl (cA, 4, .inl R)), (q4, .inl (cA, 8, .inl K))] := hD
  have hl := lv_entry ([.ref h0]) (n := 1) (Nat.le_of_ble_eq_true rfl)
  rw [lg_entry_eq]
  generalize (lg_sl ([.ref h0]) ++ List.replicate (1 - (lg_sl ([.ref h0])).length) Slot.unset).toArray = ls at hl ⊢
  have hl : lv_has ls 1 [(0, .ref h0)] := hl
  refine lv_aload_n hx hb dX0_endRound_0 rfl (lv_at hl 0 rfl) ?_
  refine lv_aload_n hx hb dX0_endRound_1 rfl (lv_at hl 0 rfl) ?_
  refine va_get (D := (dC, dI)) (ci := 0) (v := .int dy) (C := RX0) (T := TX0) (N := 12) hx hb hts inw_X0_endRound hown hK hP 0 rfl rfl 10 (by decide) (hts (.fieldLink RX0 41 "Migrator" "dirtyPages" "I") (by decide +kernel)) (fun _ h9 => h9) rfl dX0_endRound_2 ?_
  refine va_put (D := (dC, dI)) (ci := 0) (v := .int dy) (ty := .int) (C := RX0) (T := TX0) (N := 12) hx hb hts inw_X0_endRound tyX0 tyX0_ok nmX0 hown hK hP hD hS 0 rfl rfl 11 (by decide) (hts (.fieldLink RX0 44 "Migrator" "waitingPages" "I") (by decide +kernel)) (fun _ h9 => h9) rfl (by decide +kernel) rfl rfl (Nat.le_of_ble_eq_true rfl) dX0_endRound_5 (fun H locs hP hD hS => ?_)
  have hP : va_P (dC, dI) vwCl [(h0, .inr (0, [.ref q1, .ref q2, .ref q3, .ref q4, .int pc, .int sc, .int ph, .int rd, .int th, .int lm, .int dy, .int dy])), (q1, .inl (cA, 64, .inl S)), (q2, .inl (cA, 64, .inl D)), (q3, .inl (cA, 4, .inl R)), (q4, .inl (cA, 8, .inl K))] H := hP
  have hD : va_D A [(h0, .inr (0, [.ref q1, .ref q2, .ref q3, .ref q4, .int pc, .int sc, .int ph, .int rd, .int th, .int lm, .int dy, .int dy])), (q1, .inl (cA, 64, .inl S)), (q2, .inl (cA, 64, .inl D)), (q3, .inl (cA, 4, .inl R)), (q4, .inl (cA, 8, .inl K))] := hD
  refine lv_aload_n hx hb dX0_endRound_8 rfl (lv_at hl 0 rfl) ?_
  refine va_get (D := (dC, dI)) (ci := 0) (v := .int dy) (C := RX0) (T := TX0) (N := 12) hx hb hts inw_X0_endRound hown hK hP 0 rfl rfl 10 (by decide) (hts (.fieldLink RX0 41 "Migrator" "dirtyPages" "I") (by decide +kernel)) (fun _ h9 => h9) rfl dX0_endRound_9 ?_
  have hPc := hP.sub (ws' := []) [] rfl
  have hDc := hD.sub (ws' := []) [] (by decide) rfl
  have hKc := hK.sub (tys' := []) [] rfl
  have hFc := va_free (wc := []) hD hS hA [] rfl
  refine va_calli (va_runS (As := [.int dy]) (rest := []) ⟨hx, hb, hml, hown, hts⟩ (c_J6_bitCount_0f7a4 l dC dI dy H.size) (va_cwS 1 hts gX0_endRound_J6_bitCount_0f7a4 rfl rfl rfl (by decide +kernel) ⟨Nat.le_of_ble_eq_true rfl, Nat.le_of_ble_eq_true rfl⟩) ⟨fun a U g mk q => by obtain ⟨q0, q1, qP, qK, qD⟩ := q; exact ⟨q0, q1, qP, va_K.moved (u := U) (U := U.calling g mk a) (Vm.Alike.refl U.vm) qK, qD⟩, fun U hU hW => ⟨rfl, by rw [hU], by rw [hU]; exact hPc, va_K.moved hW.alike hKc, hDc.weaken (fun _ _ _ _ => trivial)⟩⟩ rfl rfl hl.1 rfl (lv_room (Nat.le_of_ble_eq_true rfl)) dX0_endRound_12 ⟨(Nat.zero_le _), (Nat.zero_le _)⟩) hS (fun q _ h => hFc q h) hFc (fun r_1 u_2 t H1 locs ht hvm w_3 hB hz1 hk1 hS => ?_)
  obtain ⟨hP1, hK1, hD1⟩ := hB
  rw [ht] at hP1
  obtain ⟨hP, hD⟩ := va_join (wr := [(h0, .inr (0, [.ref q1, .ref q2, .ref q3, .ref q4, .int pc, .int sc, .int ph, .int rd, .int th, .int lm, .int dy, .int dy])), (q1, .inl (cA, 64, .inl S)), (q2, .inl (cA, 64, .inl D)), (q3, .inl (cA, 4, .inl R)), (q4, .inl (cA, 8, .inl K))]) (w1 := []) hP hD [] [0, 1, 2, 3, 4] rfl rfl (by decide) (by decide) hk1 hFc hP1 hD1
  clear hPc hDc hFc hP1 hD1 hk1 hK1
  generalize H1 = H at hP hS ⊢
  have hP : va_P (dC, dI) vwCl [(h0, .inr (0, [.ref q1, .ref q2, .ref q3, .ref q4, .int pc, .int sc, .int ph, .int rd, .int th, .int lm, .int dy, .int dy])), (q1, .inl (cA, 64, .inl S)), (q2, .inl (cA, 64, .inl D)), (q3, .inl (cA, 4, .inl R)), (q4, .inl (cA, 8, .inl K))] H := hP
  have hD : va_D A [(h0, .inr (0, [.ref q1, .ref q2, .ref q3, .ref q4, .int pc, .int sc, .int ph, .int rd, .int th, .int lm, .int dy, .int dy])), (q1, .inl (cA, 64, .inl S)), (q2, .inl (cA, 64, .inl D)), (q3, .inl (cA, 4, .inl R)), (q4, .inl (cA, 8, .inl K))] := hD
  refine lv_aload_n hx hb dX0_endRound_15 rfl (lv_at hl 0 rfl) ?_
  refine va_get (D := (dC, dI)) (ci := 0) (v := .int th) (C := RX0) (T := TX0) (N := 12) hx hb hts inw_X0_endRound hown hK hP 0 rfl rfl 8 (by decide) (hts (.fieldLink RX0 35 "Migrator" "dirtyThreshold" "I") (by decide +kernel)) (fun _ h9 => h9) rfl dX0_endRound_16 ?_
  refine lv_icmp_le (tgt := 33) hx hb dX0_endRound_19 (by decide) (fun c_4 => ?_) (fun c_4 => ?_)
  · refine lv_aload_n hx hb dX0_endRound_33 rfl (lv_at hl 0 rfl) ?_
    refine lv_iconst (v := 2) hx hb dX0_endRound_34 (by decide) ?_
    refine va_put (D := (dC, dI)) (ci := 0) (v := .int 2) (ty := .int) (C := RX0) (T := TX0) (N := 12) hx hb hts inw_X0_endRound tyX0 tyX0_ok nmX0 hown hK hP hD hS 0 rfl rfl 6 (by decide) (hts (.fieldLink RX0 29 "Migrator" "phaseNow" "I") (by decide +kernel)) (fun _ h9 => h9) rfl (by decide +kernel) rfl rfl (Nat.le_of_ble_eq_true rfl) dX0_endRound_35 (fun H locs hP hD hS => ?_)
    have hP : va_P (dC, dI) vwCl [(h0, .inr (0, [.ref q1, .ref q2, .ref q3, .ref q4, .int pc, .int sc, .int 2, .int rd, .int th, .int lm, .int dy, .int dy])), (q1, .inl (cA, 64, .inl S)), (q2, .inl (cA, 64, .inl D)), (q3, .inl (cA, 4, .inl R)), (q4, .inl (cA, 8, .inl K))] H := hP
    have hD : va_D A [(h0, .inr (0, [.ref q1, .ref q2, .ref q3, .ref q4, .int pc, .int sc, .int 2, .int rd, .int th, .int lm, .int dy, .int dy])), (q1, .inl (cA, 64, .inl S)), (q2, .inl (cA, 64, .inl D)), (q3, .inl (cA, 4, .inl R)), (q4, .inl (cA, 8, .inl K))] := hD
    refine lv_bipush (v := 33) hx hb dX0_endRound_38 (by decide) ?_
    subst w_3
    exact W.iret (v := 33) hx hb hr (fun t ht hW => ⟨⟨33, (S, D, R, K, pc, sc, 2, rd, th, lm, dy, dy), rfl, Or.inl ⟨rfl, Or.inl c_4, rfl⟩, by rw [ht]; exact hP, va_K.moved hW.alike hK, hD⟩, hS.F ht⟩) hS.2.2 dX0_endRound_40
  · refine lv_aload_n hx hb dX0_endRound_22 rfl (lv_at hl 0 rfl) ?_
    refine va_get (D := (dC, dI)) (ci := 0) (v := .int rd) (C := RX0) (T := TX0) (N := 12) hx hb hts inw_X0_endRound hown hK hP 0 rfl rfl 7 (by decide) (hts (.fieldLink RX0 32 "Migrator" "roundNow" "I") (by decide +kernel)) (fun _ h9 => h9) rfl dX0_endRound_23 ?_
    refine lv_aload_n hx hb dX0_endRound_26 rfl (lv_at hl 0 rfl) ?_
    refine va_get (D := (dC, dI)) (ci := 0) (v := .int lm) (C := RX0) (T := TX0) (N := 12) hx hb hts inw_X0_endRound hown hK hP 0 rfl rfl 9 (by decide) (hts (.fieldLink RX0 38 "Migrator" "roundLimit" "I") (by decide +kernel)) (fun _ h9 => h9) rfl dX0_endRound_27 ?_
    refine lv_icmp_ne (tgt := 41) hx hb dX0_endRound_30 (by decide) (fun c_5 => ?_) (fun c_5 => ?_)
    · refine lv_aload_n hx hb dX0_endRound_41 rfl (lv_at hl 0 rfl) ?_
      refine lv_iconst (v := 0) hx hb dX0_endRound_42 (by decide) ?_
      refine va_put (D := (dC, dI)) (ci := 0) (v := .int 0) (ty := .int) (C := RX0) (T := TX0) (N := 12) hx hb hts inw_X0_endRound tyX0 tyX0_ok nmX0 hown hK hP hD hS 0 rfl rfl 10 (by decide) (hts (.fieldLink RX0 41 "Migrator" "dirtyPages" "I") (by decide +kernel)) (fun _ h9 => h9) rfl (by decide +kernel) rfl rfl (Nat.le_of_ble_eq_true rfl) dX0_endRound_43 (fun H locs hP hD hS => ?_)
      have hP : va_P (dC, dI) vwCl [(h0, .inr (0, [.ref q1, .ref q2, .ref q3, .ref q4, .int pc, .int sc, .int ph, .int rd, .int th, .int lm, .int 0, .int dy])), (q1, .inl (cA, 64, .inl S)), (q2, .inl (cA, 64, .inl D)), (q3, .inl (cA, 4, .inl R)), (q4, .inl (cA, 8, .inl K))] H := hP
      have hD : va_D A [(h0, .inr (0, [.ref q1, .ref q2, .ref q3, .ref q4, .int pc, .int sc, .int ph, .int rd, .int th, .int lm, .int 0, .int dy])), (q1, .inl (cA, 64, .inl S)), (q2, .inl (cA, 64, .inl D)), (q3, .inl (cA, 4, .inl R)), (q4, .inl (cA, 8, .inl K))] := hD
      refine lv_aload_n hx hb dX0_endRound_46 rfl (lv_at hl 0 rfl) ?_
      refine lv_dup hx hb dX0_endRound_47 rfl ?_
      refine va_get (D := (dC, dI)) (ci := 0) (v := .int rd) (C := RX0) (T := TX0) (N := 12) hx hb hts inw_X0_endRound hown hK hP 0 rfl rfl 7 (by decide) (hts (.fieldLink RX0 32 "Migrator" "roundNow" "I") (by decide +kernel)) (fun _ h9 => h9) rfl dX0_endRound_48 ?_
      refine lv_iconst (v := 1) hx hb dX0_endRound_51 (by decide) ?_
      refine lv_iadd hx hb dX0_endRound_52 ?_
      refine va_put (D := (dC, dI)) (ci := 0) (v := .int (rd + 1)) (ty := .int) (C := RX0) (T := TX0) (N := 12) hx hb hts inw_X0_endRound tyX0 tyX0_ok nmX0 hown hK hP hD hS 0 rfl rfl 7 (by decide) (hts (.fieldLink RX0 32 "Migrator" "roundNow" "I") (by decide +kernel)) (fun _ h9 => h9) rfl (by decide +kernel) rfl rfl (Nat.le_of_ble_eq_true rfl) dX0_endRound_53 (fun H locs hP hD hS => ?_)
      have hP : va_P (dC, dI) vwCl [(h0, .inr (0, [.ref q1, .ref q2, .ref q3, .ref q4, .int pc, .int sc, .int ph, .int (rd + 1), .int th, .int lm, .int 0, .int dy])), (q1, .inl (cA, 64, .inl S)), (q2, .inl (cA, 64, .inl D)), (q3, .inl (cA, 4, .inl R)), (q4, .inl (cA, 8, .inl K))] H := hP
      have hD : va_D A [(h0, .inr (0, [.ref q1, .ref q2, .ref q3, .ref q4, .int pc, .int sc, .int ph, .int (rd + 1), .int th, .int lm, .int 0, .int dy])), (q1, .inl (cA, 64, .inl S)), (q2, .inl (cA, 64, .inl D)), (q3, .inl (cA, 4, .inl R)), (q4, .inl (cA, 8, .inl K))] := hD
      refine lv_bipush (v := 32) hx hb dX0_endRound_56 (by decide) ?_
      subst w_3
      exact W.iret (v := 32) hx hb hr (fun t ht hW => ⟨⟨32, (S, D, R, K, pc, sc, ph, rd + 1, th, lm, 0, dy), rfl, Or.inr ⟨rfl, c_4, c_5, rfl⟩, by rw [ht]; exact hP, va_K.moved hW.alike hK, hD⟩, hS.F ht⟩) hS.2.2 dX0_endRound_58
    · refine lv_aload_n hx hb dX0_endRound_33 rfl (lv_at hl 0 rfl) ?_
      refine lv_iconst (v := 2) hx hb dX0_endRound_34 (by decide) ?_
      refine va_put (D := (dC, dI)) (ci := 0) (v := .int 2) (ty := .int) (C := RX0) (T := TX0) (N := 12) hx hb hts inw_X0_endRound tyX0 tyX0_ok nmX0 hown hK hP hD hS 0 rfl rfl 6 (by decide) (hts (.fieldLink RX0 29 "Migrator" "phaseNow" "I") (by decide +kernel)) (fun _ h9 => h9) rfl (by decide +kernel) rfl rfl (Nat.le_of_ble_eq_true rfl) dX0_endRound_35 (fun H locs hP hD hS => ?_)
      have hP : va_P (dC, dI) vwCl [(h0, .inr (0, [.ref q1, .ref q2, .ref q3, .ref q4, .int pc, .int sc, .int 2, .int rd, .int th, .int lm, .int dy, .int dy])), (q1, .inl (cA, 64, .inl S)), (q2, .inl (cA, 64, .inl D)), (q3, .inl (cA, 4, .inl R)), (q4, .inl (cA, 8, .inl K))] H := hP
      have hD : va_D A [(h0, .inr (0, [.ref q1, .ref q2, .ref q3, .ref q4, .int pc, .int sc, .int 2, .int rd, .int th, .int lm, .int dy, .int dy])), (q1, .inl (cA, 64, .inl S)), (q2, .inl (cA, 64, .inl D)), (q3, .inl (cA, 4, .inl R)), (q4, .inl (cA, 8, .inl K))] := hD
      refine lv_bipush (v := 33) hx hb dX0_endRound_38 (by decide) ?_
      subst w_3
      exact W.iret (v := 33) hx hb hr (fun t ht hW => ⟨⟨33, (S, D, R, K, pc, sc, 2, rd, th, lm, dy, dy), rfl, Or.inl ⟨rfl, Or.inr c_5, rfl⟩, by rw [ht]; exact hP, va_K.moved hW.alike hK, hD⟩, hS.F ht⟩) hS.2.2 dX0_endRound_40
theorem inw_X0_copy : ∀ w ∈ wsX00, w ∈ wsX0_copy := fun _ h => List.mem_cons_of_mem _ (List.mem_append_right _ h)
set_option maxHeartbeats 4000000 in
set_option maxRecDepth 100000 in
theorem c_X0_copy (l : Launch) (dC : Nat → ClassId) (dI : Nat → Nat → Nat) (h0 q1 q2 q3 q4 : Nat) (cA : ClassId) (S D R K : Nat → Int32) (pc sc ph rd th lm dy wt : Int32) (sz : Nat) : Met l yX0_copy wsX0_copy ({ frames := 2, cells := 0, slots := 0, locals := 45 }) (va_Pc [.ref h0] (fun U => U.heap.size = sz ∧ va_P (dC, dI) vwCl (mg_W h0 q1 q2 q3 q4 cA (S, D, R, K, pc, sc, ph, rd, th, lm, dy, wt)) U.heap ∧ va_K (dC, dI) vwCl [(cA, .int)] U ∧ va_D (fun _ => True) (mg_W h0 q1 q2 q3 q4 cA (S, D, R, K, pc, sc, ph, rd, th, lm, dy, wt)))) (va_Qi (fun (r : Int32) (u : mgS) => mg_cyP S D R K pc sc ph rd th lm dy wt r u) (at_mg dC dI h0 q1 q2 q3 q4 cA (va_A (mg_W h0 q1 q2 q3 q4 cA (S, D, R, K, pc, sc, ph, rd, th, lm, dy, wt)) sz)) (va_A (mg_W h0 q1 q2 q3 q4 cA (S, D, R, K, pc, sc, ph, rd, th, lm, dy, wt)) sz)) 0 0 (va_A (mg_W h0 q1 q2 q3 q4 cA (S, D, R, K, pc, sc, ph, rd, th, lm, dy, wt)) sz) := by
  refine Met.ofW (cc := cX0_copy) (maxL := 1) (ret := (some .int)) (by decide) rfl ?_
  intro p e s m args below meth c s₁ B hml hv
  obtain ⟨rfl, hsz, hP, hK, hD0⟩ := hv
  have hx := B.exec
  have hb := B.bytes
  have hr := B.returns
  have hts := atoms_spec (ws := wsX0_copy) B.pre
  have hown : s.vm.findClass RX0 = some m.cls := findClass_of_methodNamed B.named
  have hlocks := B.notSynchronized
  subst hsz
  have hD := hD0.self (sz := s.heap.size)
  generalize hAe : va_A (mg_W h0 q1 q2 q3 q4 cA (S, D, R, K, pc, sc, ph, rd, th, lm, dy, wt)) s.heap.size = A at hD ⊢
  have hA : ∀ q : Nat, s.heap.size ≤ q → A q := fun q h => by rw [← hAe]; exact Or.inr h
  have hS : va_S A s.heap s.heap [] := va_S.rf
  have hP : va_P (dC, dI) vwCl [(h0, .inr (0, [.ref q1, .ref q2, .ref q3, .ref q4, .int pc, .int sc, .int ph, .int rd, .int th, .int lm, .int dy, .int wt])), (q1, .inl (cA, 64, .inl S)), (q2, .inl (cA, 64, .inl D)), (q3, .inl (cA, 4, .inl R)), (q4, .inl (cA, 8, .inl K))] s.heap := hP
  have hD : va_D A [(h0, .inr (0, [.ref q1, .ref q2, .ref q3, .ref q4, .int pc, .int sc, .int ph, .int rd, .int th, .int lm, .int dy, .int wt])), (q1, .inl (cA, 64, .inl S)), (q2, .inl (cA, 64, .inl D)), (q3, .inl (cA, 4, .inl R)), (q4, .inl (cA, 8, .inl K))] := hD
  have hl := lv_entry ([.ref h0]) (n := 1) (Nat.le_of_ble_eq_true rfl)
  rw [lg_entry_eq]
  generalize (lg_sl ([.ref h0]) ++ List.replicate (1 - (lg_sl ([.ref h0])).length) Slot.unset).toArray = ls at hl ⊢
  have hl : lv_has ls 1 [(0, .ref h0)] := hl
  refine lv_aload_n hx hb dX0_copy_0 rfl (lv_at hl 0 rfl) ?_
  refine va_get (D := (dC, dI)) (ci := 0) (v := .int ph) (C := RX0) (T := TX0) (N := 12) hx hb hts inw_X0_copy hown hK hP 0 rfl rfl 6 (by decide) (hts (.fieldLink RX0 29 "Migrator" "phaseNow" "I") (by decide +kernel)) (fun _ h9 => h9) rfl dX0_copy_1 ?_
  refine lv_iconst (v := 1) hx hb dX0_copy_4 (by decide) ?_
  refine lv_icmp_eq (tgt := 18) hx hb dX0_copy_5 (by decide) (fun c_1 => ?_) (fun c_1 => ?_)
  · refine lv_aload_n hx hb dX0_copy_18 rfl (lv_at hl 0 rfl) ?_
    refine va_get (D := (dC, dI)) (ci := 0) (v := .int wt) (C := RX0) (T := TX0) (N := 12) hx hb hts inw_X0_copy hown hK hP 0 rfl rfl 11 (by decide) (hts (.fieldLink RX0 44 "Migrator" "waitingPages" "I") (by decide +kernel)) (fun _ h9 => h9) rfl dX0_copy_19 ?_
    refine lv_if_eq (tgt := 30) hx hb dX0_copy_22 (by decide) (fun c_2 => ?_) (fun c_2 => ?_)
    · refine lv_aload_n hx hb dX0_copy_30 rfl (lv_at hl 0 rfl) ?_
      refine va_get (D := (dC, dI)) (ci := 0) (v := .int ph) (C := RX0) (T := TX0) (N := 12) hx hb hts inw_X0_copy hown hK hP 0 rfl rfl 6 (by decide) (hts (.fieldLink RX0 29 "Migrator" "phaseNow" "I") (by decide +kernel)) (fun _ h9 => h9) rfl dX0_copy_31 ?_
      refine lv_iconst (v := 1) hx hb dX0_copy_34 (by decide) ?_
      refine lv_icmp_ne (tgt := 43) hx hb dX0_copy_35 (by decide) (fun c_3 => ?_) (fun c_3 => ?_)
      · refine lv_aload_n hx hb dX0_copy_43 rfl (lv_at hl 0 rfl) ?_
        refine lv_iconst (v := 3) hx hb dX0_copy_44 (by decide) ?_
        refine va_put (D := (dC, dI)) (ci := 0) (v := .int 3) (ty := .int) (C := RX0) (T := TX0) (N := 12) hx hb hts inw_X0_copy tyX0 tyX0_ok nmX0 hown hK hP hD hS 0 rfl rfl 6 (by decide) (hts (.fieldLink RX0 29 "Migrator" "phaseNow" "I") (by decide +kernel)) (fun _ h9 => h9) rfl (by decide +kernel) rfl rfl (Nat.le_of_ble_eq_true rfl) dX0_copy_45 (fun H locs hP hD hS => ?_)
        have hP : va_P (dC, dI) vwCl [(h0, .inr (0, [.ref q1, .ref q2, .ref q3, .ref q4, .int pc, .int sc, .int 3, .int rd, .int th, .int lm, .int dy, .int wt])), (q1, .inl (cA, 64, .inl S)), (q2, .inl (cA, 64, .inl D)), (q3, .inl (cA, 4, .inl R)), (q4, .inl (cA, 8, .inl K))] H := hP
        have hD : va_D A [(h0, .inr (0, [.ref q1, .ref q2, .ref q3, .ref q4, .int pc, .int sc, .int 3, .int rd, .int th, .int lm, .int dy, .int wt])), (q1, .inl (cA, 64, .inl S)), (q2, .inl (cA, 64, .inl D)), (q3, .inl (cA, 4, .inl R)), (q4, .inl (cA, 8, .inl K))] := hD
        refine lv_bipush (v := 34) hx hb dX0_copy_48 (by decide) ?_
        exact W.iret (v := 34) hx hb hr (fun t ht hW => ⟨⟨34, (S, D, R, K, pc, sc, 3, rd, th, lm, dy, wt), rfl, Or.inr (Or.inr (Or.inr ⟨(absurd c_1 c_3), c_2, rfl, rfl⟩)), by rw [ht]; exact hP, va_K.moved hW.alike hK, hD⟩, hS.F ht⟩) hS.2.2 dX0_copy_50
      · refine lv_aload_n hx hb dX0_copy_38 rfl (lv_at hl 0 rfl) ?_
        have hPc := hP.sub (ws' := [(h0, .inr (0, [.ref q1, .ref q2, .ref q3, .ref q4, .int pc, .int sc, .int ph, .int rd, .int th, .int lm, .int dy, .int wt])), (q1, .inl (cA, 64, .inl S)), (q2, .inl (cA, 64, .inl D)), (q3, .inl (cA, 4, .inl R)), (q4, .inl (cA, 8, .inl K))]) [0, 1, 2, 3, 4] rfl
        have hDc := hD.sub (ws' := [(h0, .inr (0, [.ref q1, .ref q2, .ref q3, .ref q4, .int pc, .int sc, .int ph, .int rd, .int th, .int lm, .int dy, .int wt])), (q1, .inl (cA, 64, .inl S)), (q2, .inl (cA, 64, .inl D)), (q3, .inl (cA, 4, .inl R)), (q4, .inl (cA, 8, .inl K))]) [0, 1, 2, 3, 4] (by decide) rfl
        have hKc := hK.sub (tys' := [(cA, .int)]) [0] rfl
        have hFc := va_free (wc := [(h0, .inr (0, [.ref q1, .ref q2, .ref q3, .ref q4, .int pc, .int sc, .int ph, .int rd, .int th, .int lm, .int dy, .int wt])), (q1, .inl (cA, 64, .inl S)), (q2, .inl (cA, 64, .inl D)), (q3, .inl (cA, 4, .inl R)), (q4, .inl (cA, 8, .inl K))]) hD hS hA [0, 1, 2, 3, 4] rfl
        refine va_calli (va_runV (As := []) (rest := []) ⟨hx, hb, hml, hown, hts⟩ (c_X0_endRound l dC dI h0 q1 q2 q3 q4 cA S D R K pc sc ph rd th lm dy wt s.heap.size) (cwV 0 hts gX0_copy_X0_endRound rfl rfl rfl (by decide +kernel) ⟨Nat.le_of_ble_eq_true rfl, Nat.le_of_ble_eq_true rfl⟩) ⟨fun a U g mk q => by obtain ⟨q0, q1, qP, qK, qD⟩ := q; exact ⟨q0, q1, qP, va_K.moved (u := U) (U := U.calling g mk a) (Vm.Alike.refl U.vm) qK, qD⟩, va_recv hKc hPc (ci := 0) (q0 := 0) rfl rfl, fun U hU hW => ⟨rfl, by rw [hU], by rw [hU]; exact hPc, va_K.moved hW.alike hKc, hDc.weaken (fun _ _ _ _ => trivial)⟩⟩ rfl rfl hl.1 rfl (lv_room (Nat.le_of_ble_eq_true rfl)) dX0_copy_39 ⟨(Nat.zero_le _), (Nat.zero_le _)⟩) hS (fun q _ h => hFc q h) hFc (fun r_4 u_5 t H1 locs ht hvm w_6 hB hz1 hk1 hS => ?_)
        obtain ⟨S_7, D_8, R_9, K_10, pc_11, sc_12, ph_13, rd_14, th_15, lm_16, dy_17, wt_18⟩ := u_5
        obtain ⟨hP1, hK1, hD1⟩ := hB
        rw [ht] at hP1
        obtain ⟨hP, hD⟩ := va_join (wr := []) (w1 := [(h0, .inr (0, [.ref q1, .ref q2, .ref q3, .ref q4, .int pc_11, .int sc_12, .int ph_13, .int rd_14, .int th_15, .int lm_16, .int dy_17, .int wt_18])), (q1, .inl (cA, 64, .inl S_7)), (q2, .inl (cA, 64, .inl D_8)), (q3, .inl (cA, 4, .inl R_9)), (q4, .inl (cA, 8, .inl K_10))]) hP hD [0, 1, 2, 3, 4] [] rfl rfl (by decide) (by decide) hk1 hFc hP1 hD1
        clear hPc hDc hFc hP1 hD1 hk1 hK1
        generalize H1 = H at hP hS ⊢
        have hP : va_P (dC, dI) vwCl [(h0, .inr (0, [.ref q1, .ref q2, .ref q3, .ref q4, .int pc_11, .int sc_12, .int ph_13, .int rd_14, .int th_15, .int lm_16, .int dy_17, .int wt_18])), (q1, .inl (cA, 64, .inl S_7)), (q2, .inl (cA, 64, .inl D_8)), (q3, .inl (cA, 4, .inl R_9)), (q4, .inl (cA, 8, .inl K_10))] H := hP
        have hD : va_D A [(h0, .inr (0, [.ref q1, .ref q2, .ref q3, .ref q4, .int pc_11, .int sc_12, .int ph_13, .int rd_14, .int th_15, .int lm_16, .int dy_17, .int wt_18])), (q1, .inl (cA, 64, .inl S_7)), (q2, .inl (cA, 64, .inl D_8)), (q3, .inl (cA, 4, .inl R_9)), (q4, .inl (cA, 8, .inl K_10))] := hD
        exact W.iret (v := r_4) hx hb hr (fun t ht hW => ⟨⟨r_4, (S_7, D_8, R_9, K_10, pc_11, sc_12, ph_13, rd_14, th_15, lm_16, dy_17, wt_18), rfl, Or.inr (Or.inr (Or.inl ⟨c_3, c_2, w_6⟩)), by rw [ht]; exact hP, va_K.moved hW.alike hK, hD⟩, hS.F ht⟩) hS.2.2 dX0_copy_42
    · refine lv_aload_n hx hb dX0_copy_25 rfl (lv_at hl 0 rfl) ?_
      have hPc := hP.sub (ws' := [(h0, .inr (0, [.ref q1, .ref q2, .ref q3, .ref q4, .int pc, .int sc, .int ph, .int rd, .int th, .int lm, .int dy, .int wt])), (q1, .inl (cA, 64, .inl S)), (q2, .inl (cA, 64, .inl D)), (q3, .inl (cA, 4, .inl R)), (q4, .inl (cA, 8, .inl K))]) [0, 1, 2, 3, 4] rfl
      have hDc := hD.sub (ws' := [(h0, .inr (0, [.ref q1, .ref q2, .ref q3, .ref q4, .int pc, .int sc, .int ph, .int rd, .int th, .int lm, .int dy, .int wt])), (q1, .inl (cA, 64, .inl S)), (q2, .inl (cA, 64, .inl D)), (q3, .inl (cA, 4, .inl R)), (q4, .inl (cA, 8, .inl K))]) [0, 1, 2, 3, 4] (by decide) rfl
      have hKc := hK.sub (tys' := [(cA, .int)]) [0] rfl
      have hFc := va_free (wc := [(h0, .inr (0, [.ref q1, .ref q2, .ref q3, .ref q4, .int pc, .int sc, .int ph, .int rd, .int th, .int lm, .int dy, .int wt])), (q1, .inl (cA, 64, .inl S)), (q2, .inl (cA, 64, .inl D)), (q3, .inl (cA, 4, .inl R)), (q4, .inl (cA, 8, .inl K))]) hD hS hA [0, 1, 2, 3, 4] rfl
      refine va_calli (va_runV (As := []) (rest := []) ⟨hx, hb, hml, hown, hts⟩ (c_X0_copyFirstWaiting l dC dI h0 q1 q2 q3 q4 cA S D R K pc sc ph rd th lm dy wt s.heap.size) (cwV 0 hts gX0_copy_X0_copyFirstWaiting rfl rfl rfl (by decide +kernel) ⟨Nat.le_of_ble_eq_true rfl, Nat.le_of_ble_eq_true rfl⟩) ⟨fun a U g mk q => by obtain ⟨q0, q1, qP, qK, qD⟩ := q; exact ⟨q0, q1, qP, va_K.moved (u := U) (U := U.calling g mk a) (Vm.Alike.refl U.vm) qK, qD⟩, va_recv hKc hPc (ci := 0) (q0 := 0) rfl rfl, fun U hU hW => ⟨rfl, by rw [hU], by rw [hU]; exact hPc, va_K.moved hW.alike hKc, hDc.weaken (fun _ _ _ _ => trivial)⟩⟩ rfl rfl hl.1 rfl (lv_room (Nat.le_of_ble_eq_true rfl)) dX0_copy_26 ⟨(Nat.zero_le _), (Nat.zero_le _)⟩) hS (fun q _ h => hFc q h) hFc (fun r_19 u_20 t H1 locs ht hvm w_21 hB hz1 hk1 hS => ?_)
      obtain ⟨S_22, D_23, R_24, K_25, pc_26, sc_27, ph_28, rd_29, th_30, lm_31, dy_32, wt_33⟩ := u_20
      obtain ⟨hP1, hK1, hD1⟩ := hB
      rw [ht] at hP1
      obtain ⟨hP, hD⟩ := va_join (wr := []) (w1 := [(h0, .inr (0, [.ref q1, .ref q2, .ref q3, .ref q4, .int pc_26, .int sc_27, .int ph_28, .int rd_29, .int th_30, .int lm_31, .int dy_32, .int wt_33])), (q1, .inl (cA, 64, .inl S_22)), (q2, .inl (cA, 64, .inl D_23)), (q3, .inl (cA, 4, .inl R_24)), (q4, .inl (cA, 8, .inl K_25))]) hP hD [0, 1, 2, 3, 4] [] rfl rfl (by decide) (by decide) hk1 hFc hP1 hD1
      clear hPc hDc hFc hP1 hD1 hk1 hK1
      generalize H1 = H at hP hS ⊢
      have hP : va_P (dC, dI) vwCl [(h0, .inr (0, [.ref q1, .ref q2, .ref q3, .ref q4, .int pc_26, .int sc_27, .int ph_28, .int rd_29, .int th_30, .int lm_31, .int dy_32, .int wt_33])), (q1, .inl (cA, 64, .inl S_22)), (q2, .inl (cA, 64, .inl D_23)), (q3, .inl (cA, 4, .inl R_24)), (q4, .inl (cA, 8, .inl K_25))] H := hP
      have hD : va_D A [(h0, .inr (0, [.ref q1, .ref q2, .ref q3, .ref q4, .int pc_26, .int sc_27, .int ph_28, .int rd_29, .int th_30, .int lm_31, .int dy_32, .int wt_33])), (q1, .inl (cA, 64, .inl S_22)), (q2, .inl (cA, 64, .inl D_23)), (q3, .inl (cA, 4, .inl R_24)), (q4, .inl (cA, 8, .inl K_25))] := hD
      exact W.iret (v := r_19) hx hb hr (fun t ht hW => ⟨⟨r_19, (S_22, D_23, R_24, K_25, pc_26, sc_27, ph_28, rd_29, th_30, lm_31, dy_32, wt_33), rfl, Or.inr (Or.inl ⟨Or.inl c_1, c_2, w_21⟩), by rw [ht]; exact hP, va_K.moved hW.alike hK, hD⟩, hS.F ht⟩) hS.2.2 dX0_copy_29
  · refine lv_aload_n hx hb dX0_copy_8 rfl (lv_at hl 0 rfl) ?_
    refine va_get (D := (dC, dI)) (ci := 0) (v := .int ph) (C := RX0) (T := TX0) (N := 12) hx hb hts inw_X0_copy hown hK hP 0 rfl rfl 6 (by decide) (hts (.fieldLink RX0 29 "Migrator" "phaseNow" "I") (by decide +kernel)) (fun _ h9 => h9) rfl dX0_copy_9 ?_
    refine lv_iconst (v := 2) hx hb dX0_copy_12 (by decide) ?_
    refine lv_icmp_eq (tgt := 18) hx hb dX0_copy_13 (by decide) (fun c_34 => ?_) (fun c_34 => ?_)
    · refine lv_aload_n hx hb dX0_copy_18 rfl (lv_at hl 0 rfl) ?_
      refine va_get (D := (dC, dI)) (ci := 0) (v := .int wt) (C := RX0) (T := TX0) (N := 12) hx hb hts inw_X0_copy hown hK hP 0 rfl rfl 11 (by decide) (hts (.fieldLink RX0 44 "Migrator" "waitingPages" "I") (by decide +kernel)) (fun _ h9 => h9) rfl dX0_copy_19 ?_
      refine lv_if_eq (tgt := 30) hx hb dX0_copy_22 (by decide) (fun c_35 => ?_) (fun c_35 => ?_)
      · refine lv_aload_n hx hb dX0_copy_30 rfl (lv_at hl 0 rfl) ?_
        refine va_get (D := (dC, dI)) (ci := 0) (v := .int ph) (C := RX0) (T := TX0) (N := 12) hx hb hts inw_X0_copy hown hK hP 0 rfl rfl 6 (by decide) (hts (.fieldLink RX0 29 "Migrator" "phaseNow" "I") (by decide +kernel)) (fun _ h9 => h9) rfl dX0_copy_31 ?_
        refine lv_iconst (v := 1) hx hb dX0_copy_34 (by decide) ?_
        refine lv_icmp_ne (tgt := 43) hx hb dX0_copy_35 (by decide) (fun c_36 => ?_) (fun c_36 => ?_)
        · refine lv_aload_n hx hb dX0_copy_43 rfl (lv_at hl 0 rfl) ?_
          refine lv_iconst (v := 3) hx hb dX0_copy_44 (by decide) ?_
          refine va_put (D := (dC, dI)) (ci := 0) (v := .int 3) (ty := .int) (C := RX0) (T := TX0) (N := 12) hx hb hts inw_X0_copy tyX0 tyX0_ok nmX0 hown hK hP hD hS 0 rfl rfl 6 (by decide) (hts (.fieldLink RX0 29 "Migrator" "phaseNow" "I") (by decide +kernel)) (fun _ h9 => h9) rfl (by decide +kernel) rfl rfl (Nat.le_of_ble_eq_true rfl) dX0_copy_45 (fun H locs hP hD hS => ?_)
          have hP : va_P (dC, dI) vwCl [(h0, .inr (0, [.ref q1, .ref q2, .ref q3, .ref q4, .int pc, .int sc, .int 3, .int rd, .int th, .int lm, .int dy, .int wt])), (q1, .inl (cA, 64, .inl S)), (q2, .inl (cA, 64, .inl D)), (q3, .inl (cA, 4, .inl R)), (q4, .inl (cA, 8, .inl K))] H := hP
          have hD : va_D A [(h0, .inr (0, [.ref q1, .ref q2, .ref q3, .ref q4, .int pc, .int sc, .int 3, .int rd, .int th, .int lm, .int dy, .int wt])), (q1, .inl (cA, 64, .inl S)), (q2, .inl (cA, 64, .inl D)), (q3, .inl (cA, 4, .inl R)), (q4, .inl (cA, 8, .inl K))] := hD
          refine lv_bipush (v := 34) hx hb dX0_copy_48 (by decide) ?_
          exact W.iret (v := 34) hx hb hr (fun t ht hW => ⟨⟨34, (S, D, R, K, pc, sc, 3, rd, th, lm, dy, wt), rfl, Or.inr (Or.inr (Or.inr ⟨c_34, c_35, rfl, rfl⟩)), by rw [ht]; exact hP, va_K.moved hW.alike hK, hD⟩, hS.F ht⟩) hS.2.2 dX0_copy_50
        · refine lv_aload_n hx hb dX0_copy_38 rfl (lv_at hl 0 rfl) ?_
          have hPc := hP.sub (ws' := [(h0, .inr (0, [.ref q1, .ref q2, .ref q3, .ref q4, .int pc, .int sc, .int ph, .int rd, .int th, .int lm, .int dy, .int wt])), (q1, .inl (cA, 64, .inl S)), (q2, .inl (cA, 64, .inl D)), (q3, .inl (cA, 4, .inl R)), (q4, .inl (cA, 8, .inl K))]) [0, 1, 2, 3, 4] rfl
          have hDc := hD.sub (ws' := [(h0, .inr (0, [.ref q1, .ref q2, .ref q3, .ref q4, .int pc, .int sc, .int ph, .int rd, .int th, .int lm, .int dy, .int wt])), (q1, .inl (cA, 64, .inl S)), (q2, .inl (cA, 64, .inl D)), (q3, .inl (cA, 4, .inl R)), (q4, .inl (cA, 8, .inl K))]) [0, 1, 2, 3, 4] (by decide) rfl
          have hKc := hK.sub (tys' := [(cA, .int)]) [0] rfl
          have hFc := va_free (wc := [(h0, .inr (0, [.ref q1, .ref q2, .ref q3, .ref q4, .int pc, .int sc, .int ph, .int rd, .int th, .int lm, .int dy, .int wt])), (q1, .inl (cA, 64, .inl S)), (q2, .inl (cA, 64, .inl D)), (q3, .inl (cA, 4, .inl R)), (q4, .inl (cA, 8, .inl K))]) hD hS hA [0, 1, 2, 3, 4] rfl
          refine va_calli (va_runV (As := []) (rest := []) ⟨hx, hb, hml, hown, hts⟩ (c_X0_endRound l dC dI h0 q1 q2 q3 q4 cA S D R K pc sc ph rd th lm dy wt s.heap.size) (cwV 0 hts gX0_copy_X0_endRound rfl rfl rfl (by decide +kernel) ⟨Nat.le_of_ble_eq_true rfl, Nat.le_of_ble_eq_true rfl⟩) ⟨fun a U g mk q => by obtain ⟨q0, q1, qP, qK, qD⟩ := q; exact ⟨q0, q1, qP, va_K.moved (u := U) (U := U.calling g mk a) (Vm.Alike.refl U.vm) qK, qD⟩, va_recv hKc hPc (ci := 0) (q0 := 0) rfl rfl, fun U hU hW => ⟨rfl, by rw [hU], by rw [hU]; exact hPc, va_K.moved hW.alike hKc, hDc.weaken (fun _ _ _ _ => trivial)⟩⟩ rfl rfl hl.1 rfl (lv_room (Nat.le_of_ble_eq_true rfl)) dX0_copy_39 ⟨(Nat.zero_le _), (Nat.zero_le _)⟩) hS (fun q _ h => hFc q h) hFc (fun r_37 u_38 t H1 locs ht hvm w_39 hB hz1 hk1 hS => ?_)
          obtain ⟨S_40, D_41, R_42, K_43, pc_44, sc_45, ph_46, rd_47, th_48, lm_49, dy_50, wt_51⟩ := u_38
          obtain ⟨hP1, hK1, hD1⟩ := hB
          rw [ht] at hP1
          obtain ⟨hP, hD⟩ := va_join (wr := []) (w1 := [(h0, .inr (0, [.ref q1, .ref q2, .ref q3, .ref q4, .int pc_44, .int sc_45, .int ph_46, .int rd_47, .int th_48, .int lm_49, .int dy_50, .int wt_51])), (q1, .inl (cA, 64, .inl S_40)), (q2, .inl (cA, 64, .inl D_41)), (q3, .inl (cA, 4, .inl R_42)), (q4, .inl (cA, 8, .inl K_43))]) hP hD [0, 1, 2, 3, 4] [] rfl rfl (by decide) (by decide) hk1 hFc hP1 hD1
          clear hPc hDc hFc hP1 hD1 hk1 hK1
          generalize H1 = H at hP hS ⊢
          have hP : va_P (dC, dI) vwCl [(h0, .inr (0, [.ref q1, .ref q2, .ref q3, .ref q4, .int pc_44, .int sc_45, .int ph_46, .int rd_47, .int th_48, .int lm_49, .int dy_50, .int wt_51])), (q1, .inl (cA, 64, .inl S_40)), (q2, .inl (cA, 64, .inl D_41)), (q3, .inl (cA, 4, .inl R_42)), (q4, .inl (cA, 8, .inl K_43))] H := hP
          have hD : va_D A [(h0, .inr (0, [.ref q1, .ref q2, .ref q3, .ref q4, .int pc_44, .int sc_45, .int ph_46, .int rd_47, .int th_48, .int lm_49, .int dy_50, .int wt_51])), (q1, .inl (cA, 64, .inl S_40)), (q2, .inl (cA, 64, .inl D_41)), (q3, .inl (cA, 4, .inl R_42)), (q4, .inl (cA, 8, .inl K_43))] := hD
          exact W.iret (v := r_37) hx hb hr (fun t ht hW => ⟨⟨r_37, (S_40, D_41, R_42, K_43, pc_44, sc_45, ph_46, rd_47, th_48, lm_49, dy_50, wt_51), rfl, Or.inr (Or.inr (Or.inl ⟨c_36, c_35, w_39⟩)), by rw [ht]; exact hP, va_K.moved hW.alike hK, hD⟩, hS.F ht⟩) hS.2.2 dX0_copy_42
      · refine lv_aload_n hx hb dX0_copy_25 rfl (lv_at hl 0 rfl) ?_
        have hPc := hP.sub (ws' := [(h0, .inr (0, [.ref q1, .ref q2, .ref q3, .ref q4, .int pc, .int sc, .int ph, .int rd, .int th, .int lm, .int dy, .int wt])), (q1, .inl (cA, 64, .inl S)), (q2, .inl (cA, 64, .inl D)), (q3, .inl (cA, 4, .inl R)), (q4, .inl (cA, 8, .inl K))]) [0, 1, 2, 3, 4] rfl
        have hDc := hD.sub (ws' := [(h0, .inr (0, [.ref q1, .ref q2, .ref q3, .ref q4, .int pc, .int sc, .int ph, .int rd, .int th, .int lm, .int dy, .int wt])), (q1, .inl (cA, 64, .inl S)), (q2, .inl (cA, 64, .inl D)), (q3, .inl (cA, 4, .inl R)), (q4, .inl (cA, 8, .inl K))]) [0, 1, 2, 3, 4] (by decide) rfl
        have hKc := hK.sub (tys' := [(cA, .int)]) [0] rfl
        have hFc := va_free (wc := [(h0, .inr (0, [.ref q1, .ref q2, .ref q3, .ref q4, .int pc, .int sc, .int ph, .int rd, .int th, .int lm, .int dy, .int wt])), (q1, .inl (cA, 64, .inl S)), (q2, .inl (cA, 64, .inl D)), (q3, .inl (cA, 4, .inl R)), (q4, .inl (cA, 8, .inl K))]) hD hS hA [0, 1, 2, 3, 4] rfl
        refine va_calli (va_runV (As := []) (rest := []) ⟨hx, hb, hml, hown, hts⟩ (c_X0_copyFirstWaiting l dC dI h0 q1 q2 q3 q4 cA S D R K pc sc ph rd th lm dy wt s.heap.size) (cwV 0 hts gX0_copy_X0_copyFirstWaiting rfl rfl rfl (by decide +kernel) ⟨Nat.le_of_ble_eq_true rfl, Nat.le_of_ble_eq_true rfl⟩) ⟨fun a U g mk q => by obtain ⟨q0, q1, qP, qK, qD⟩ := q; exact ⟨q0, q1, qP, va_K.moved (u := U) (U := U.calling g mk a) (Vm.Alike.refl U.vm) qK, qD⟩, va_recv hKc hPc (ci := 0) (q0 := 0) rfl rfl, fun U hU hW => ⟨rfl, by rw [hU], by rw [hU]; exact hPc, va_K.moved hW.alike hKc, hDc.weaken (fun _ _ _ _ => trivial)⟩⟩ rfl rfl hl.1 rfl (lv_room (Nat.le_of_ble_eq_true rfl)) dX0_copy_26 ⟨(Nat.zero_le _), (Nat.zero_le _)⟩) hS (fun q _ h => hFc q h) hFc (fun r_52 u_53 t H1 locs ht hvm w_54 hB hz1 hk1 hS => ?_)
        obtain ⟨S_55, D_56, R_57, K_58, pc_59, sc_60, ph_61, rd_62, th_63, lm_64, dy_65, wt_66⟩ := u_53
        obtain ⟨hP1, hK1, hD1⟩ := hB
        rw [ht] at hP1
        obtain ⟨hP, hD⟩ := va_join (wr := []) (w1 := [(h0, .inr (0, [.ref q1, .ref q2, .ref q3, .ref q4, .int pc_59, .int sc_60, .int ph_61, .int rd_62, .int th_63, .int lm_64, .int dy_65, .int wt_66])), (q1, .inl (cA, 64, .inl S_55)), (q2, .inl (cA, 64, .inl D_56)), (q3, .inl (cA, 4, .inl R_57)), (q4, .inl (cA, 8, .inl K_58))]) hP hD [0, 1, 2, 3, 4] [] rfl rfl (by decide) (by decide) hk1 hFc hP1 hD1
        clear hPc hDc hFc hP1 hD1 hk1 hK1
        generalize H1 = H at hP hS ⊢
        have hP : va_P (dC, dI) vwCl [(h0, .inr (0, [.ref q1, .ref q2, .ref q3, .ref q4, .int pc_59, .int sc_60, .int ph_61, .int rd_62, .int th_63, .int lm_64, .int dy_65, .int wt_66])), (q1, .inl (cA, 64, .inl S_55)), (q2, .inl (cA, 64, .inl D_56)), (q3, .inl (cA, 4, .inl R_57)), (q4, .inl (cA, 8, .inl K_58))] H := hP
        have hD : va_D A [(h0, .inr (0, [.ref q1, .ref q2, .ref q3, .ref q4, .int pc_59, .int sc_60, .int ph_61, .int rd_62, .int th_63, .int lm_64, .int dy_65, .int wt_66])), (q1, .inl (cA, 64, .inl S_55)), (q2, .inl (cA, 64, .inl D_56)), (q3, .inl (cA, 4, .inl R_57)), (q4, .inl (cA, 8, .inl K_58))] := hD
        exact W.iret (v := r_52) hx hb hr (fun t ht hW => ⟨⟨r_52, (S_55, D_56, R_57, K_58, pc_59, sc_60, ph_61, rd_62, th_63, lm_64, dy_65, wt_66), rfl, Or.inr (Or.inl ⟨Or.inr c_34, c_35, w_54⟩), by rw [ht]; exact hP, va_K.moved hW.alike hK, hD⟩, hS.F ht⟩) hS.2.2 dX0_copy_29
    · refine lv_iconst (v := (-1)) hx hb dX0_copy_16 (by decide) ?_
      exact W.iret (v := (-1)) hx hb hr (fun t ht hW => ⟨⟨(-1), (S, D, R, K, pc, sc, ph, rd, th, lm, dy, wt), rfl, Or.inl ⟨c_1, c_34, rfl, rfl⟩, by rw [ht]; exact hP, va_K.moved hW.alike hK, hD⟩, hS.F ht⟩) hS.2.2 dX0_copy_17
