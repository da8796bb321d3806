theorem inw_X0_guestStep : ∀ w ∈ wsX00, w ∈ wsX0_guestStep := fun _ h => List.mem_cons_of_mem _ (List.mem_append_right _ h)
set_option maxHeartbeats 4000000 in
set_option maxRecDepth 100000 in
theorem c_X0_guestStep (l : Launch) (dC : Nat → ClassId) (dI : Nat → Nat → Nat) (h0 q1 q2 q3 q4 : Nat) (cA : ClassId) (S D R K : Nat → Int32) (pc sc ph rd th lm dy wt : Int32) (sz : Nat) : Met l yX0_guestStep wsX0_guestStep ({ frames := 1, cells := 0, slots := 0, locals := 23 }) (va_Pc [.ref h0] (fun U => U.heap.size = sz ∧ va_P (dC, dI) vwCl (mg_W h0 q1 q2 q3 q4 cA (S, D, R, K, pc, sc, ph, rd, th, lm, dy, wt)) U.heap ∧ va_K (dC, dI) vwCl [(cA, .int)] U ∧ va_D (fun _ => True) (mg_W h0 q1 q2 q3 q4 cA (S, D, R, K, pc, sc, ph, rd, th, lm, dy, wt)))) (va_Qv (fun (u : mgS) => u = mg_step (S, D, R, K, pc, sc, ph, rd, th, lm, dy, wt)) (at_mg dC dI h0 q1 q2 q3 q4 cA (va_A (mg_W h0 q1 q2 q3 q4 cA (S, D, R, K, pc, sc, ph, rd, th, lm, dy, wt)) sz)) (va_A (mg_W h0 q1 q2 q3 q4 cA (S, D, R, K, pc, sc, ph, rd, th, lm, dy, wt)) sz)) 0 0 (va_A (mg_W h0 q1 q2 q3 q4 cA (S, D, R, K, pc, sc, ph, rd, th, lm, dy, wt)) sz) := by
  refine Met.ofW (cc := cX0_guestStep) (maxL := 6) (ret := none) (by decide) rfl ?_
  intro p e s m args below meth c s₁ B hml hv
  obtain ⟨rfl, hsz, hP, hK, hD0⟩ := hv
  have hx := B.exec
  have hb := B.bytes
  have hr := B.returns
  have hts := atoms_spec (ws := wsX0_guestStep) B.pre
  have hown : s.vm.findClass RX0 = some m.cls := findClass_of_methodNamed B.named
  have hlocks := B.notSynchronized
  subst hsz
  have hD := hD0.self (sz := s.heap.size)
  generalize hAe : va_A (mg_W h0 q1 q2 q3 q4 cA (S, D, R, K, pc, sc, ph, rd, th, lm, dy, wt)) s.heap.size = A at hD ⊢
  have hA : ∀ q : Nat, s.heap.size ≤ q → A q := fun q h => by rw [← hAe]; exact Or.inr h
  have hS : va_S A s.heap s.heap [] := va_S.rf
  have hP : va_P (dC, dI) vwCl [(h0, .inr (0, [.ref q1, .ref q2, .ref q3, .ref q4, .int pc, .int sc, .int ph, .int rd, .int th, .int lm, .int dy, .int wt])), (q1, .inl (cA, 64, .inl S)), (q2, .inl (cA, 64, .inl D)), (q3, .inl (cA, 4, .inl R)), (q4, .inl (cA, 8, .inl K))] s.heap := hP
  have hD : va_D A [(h0, .inr (0, [.ref q1, .ref q2, .ref q3, .ref q4, .int pc, .int sc, .int ph, .int rd, .int th, .int lm, .int dy, .int wt])), (q1, .inl (cA, 64, .inl S)), (q2, .inl (cA, 64, .inl D)), (q3, .inl (cA, 4, .inl R)), (q4, .inl (cA, 8, .inl K))] := hD
  have hl := lv_entry ([.ref h0]) (n := 6) (Nat.le_of_ble_eq_true rfl)
  rw [lg_entry_eq]
  generalize (lg_sl ([.ref h0]) ++ List.replicate (6 - (lg_sl ([.ref h0])).length) Slot.unset).toArray = ls at hl ⊢
  have hl : lv_has ls 6 [(0, .ref h0)] := hl
  refine lv_aload_n hx hb dX0_guestStep_0 rfl (lv_at hl 0 rfl) ?_
  refine lv_aload_n hx hb dX0_guestStep_1 rfl (lv_at hl 0 rfl) ?_
  refine va_get (D := (dC, dI)) (ci := 0) (v := .int pc) (C := RX0) (T := TX0) (N := 12) hx hb hts inw_X0_guestStep hown hK hP 0 rfl rfl 4 (by decide) (hts (.fieldLink RX0 22 "Migrator" "programCounter" "I") (by decide +kernel)) (fun _ h9 => h9) rfl dX0_guestStep_2 ?_
  have hPc := hP.sub (ws' := [(h0, .inr (0, [.ref q1, .ref q2, .ref q3, .ref q4, .int pc, .int sc, .int ph, .int rd, .int th, .int lm, .int dy, .int wt])), (q1, .inl (cA, 64, .inl S)), (q2, .inl (cA, 64, .inl D)), (q3, .inl (cA, 4, .inl R)), (q4, .inl (cA, 8, .inl K))]) [0, 1, 2, 3, 4] rfl
  have hDc := hD.sub (ws' := [(h0, .inr (0, [.ref q1, .ref q2, .ref q3, .ref q4, .int pc, .int sc, .int ph, .int rd, .int th, .int lm, .int dy, .int wt])), (q1, .inl (cA, 64, .inl S)), (q2, .inl (cA, 64, .inl D)), (q3, .inl (cA, 4, .inl R)), (q4, .inl (cA, 8, .inl K))]) [0, 1, 2, 3, 4] (by decide) rfl
  have hKc := hK.sub (tys' := [(cA, .int)]) [0] rfl
  have hFc := va_free (wc := [(h0, .inr (0, [.ref q1, .ref q2, .ref q3, .ref q4, .int pc, .int sc, .int ph, .int rd, .int th, .int lm, .int dy, .int wt])), (q1, .inl (cA, 64, .inl S)), (q2, .inl (cA, 64, .inl D)), (q3, .inl (cA, 4, .inl R)), (q4, .inl (cA, 8, .inl K))]) hD hS hA [0, 1, 2, 3, 4] rfl
  refine va_calli (va_runV (As := [.int pc]) (rest := []) ⟨hx, hb, hml, hown, hts⟩ (c_X0_readWord l dC dI h0 q1 q2 q3 q4 cA S D R K pc sc ph rd th lm dy wt pc s.heap.size) (cwV 1 hts gX0_guestStep_X0_readWord rfl rfl rfl (by decide +kernel) ⟨Nat.le_of_ble_eq_true rfl, Nat.le_of_ble_eq_true rfl⟩) ⟨fun a U g mk q => by obtain ⟨q0, q1, qP, qK, qD⟩ := q; exact ⟨q0, q1, qP, va_K.moved (u := U) (U := U.calling g mk a) (Vm.Alike.refl U.vm) qK, qD⟩, va_recv hKc hPc (ci := 0) (q0 := 0) rfl rfl, fun U hU hW => ⟨rfl, by rw [hU], by rw [hU]; exact hPc, va_K.moved hW.alike hKc, hDc.weaken (fun _ _ _ _ => trivial)⟩⟩ rfl rfl hl.1 rfl (lv_room (Nat.le_of_ble_eq_true rfl)) dX0_guestStep_5 ⟨(Nat.zero_le _), (Nat.zero_le _)⟩) hS (fun q _ h => hFc q h) hFc (fun r_1 u_2 t H1 locs ht hvm w_3 hB hz1 hk1 hS => ?_)
  obtain ⟨w_3, e_4⟩ := w_3
  subst e_4
  obtain ⟨hP1, hK1, hD1⟩ := hB
  rw [ht] at hP1
  obtain ⟨hP, hD⟩ := va_join (wr := []) (w1 := [(h0, .inr (0, [.ref q1, .ref q2, .ref q3, .ref q4, .int pc, .int sc, .int ph, .int rd, .int th, .int lm, .int dy, .int wt])), (q1, .inl (cA, 64, .inl S)), (q2, .inl (cA, 64, .inl D)), (q3, .inl (cA, 4, .inl R)), (q4, .inl (cA, 8, .inl K))]) hP hD [0, 1, 2, 3, 4] [] rfl rfl (by decide) (by decide) hk1 hFc hP1 hD1
  clear hPc hDc hFc hP1 hD1 hk1 hK1
  generalize H1 = H at hP hS ⊢
  have hP : va_P (dC, dI) vwCl [(h0, .inr (0, [.ref q1, .ref q2, .ref q3, .ref q4, .int pc, .int sc, .int ph, .int rd, .int th, .int lm, .int dy, .int wt])), (q1, .inl (cA, 64, .inl S)), (q2, .inl (cA, 64, .inl D)), (q3, .inl (cA, 4, .inl R)), (q4, .inl (cA, 8, .inl K))] H := hP
  have hD : va_D A [(h0, .inr (0, [.ref q1, .ref q2, .ref q3, .ref q4, .int pc, .int sc, .int ph, .int rd, .int th, .int lm, .int dy, .int wt])), (q1, .inl (cA, 64, .inl S)), (q2, .inl (cA, 64, .inl D)), (q3, .inl (cA, 4, .inl R)), (q4, .inl (cA, 8, .inl K))] := hD
  refine lv_istore_n (lv' := [(1, .int r_1), (0, .ref h0)]) hx hb dX0_guestStep_8 rfl hl (by decide) rfl (fun ls hl => ?_)
  refine lv_iload_n hx hb dX0_guestStep_9 rfl (lv_at hl 0 rfl) ?_
  refine lv_iconst (v := 3) hx hb dX0_guestStep_10 (by decide) ?_
  refine lv_ishr hx hb dX0_guestStep_11 ?_
  refine lv_iconst (v := 3) hx hb dX0_guestStep_12 (by decide) ?_
  refine lv_iand hx hb dX0_guestStep_13 ?_
  refine lv_topi (fun v_5 ev_5 => ?_)
  refine lv_istore_n (lv' := [(2, .int v_5), (1, .int r_1), (0, .ref h0)]) hx hb dX0_guestStep_14 rfl hl (by decide) rfl (fun ls hl => ?_)
  refine lv_iload_n hx hb dX0_guestStep_15 rfl (lv_at hl 1 rfl) ?_
  refine lv_iconst (v := 5) hx hb dX0_guestStep_16 (by decide) ?_
  refine lv_ishr hx hb dX0_guestStep_17 ?_
  refine lv_iconst (v := 3) hx hb dX0_guestStep_18 (by decide) ?_
  refine lv_iand hx hb dX0_guestStep_19 ?_
  refine lv_topi (fun v_6 ev_6 => ?_)
  refine lv_istore_n (lv' := [(3, .int v_6), (2, .int v_5), (1, .int r_1), (0, .ref h0)]) hx hb dX0_guestStep_20 rfl hl (by decide) rfl (fun ls hl => ?_)
  refine lv_iload_n hx hb dX0_guestStep_21 rfl (lv_at hl 2 rfl) ?_
  refine lv_bipush (v := 7) hx hb dX0_guestStep_22 (by decide) ?_
  refine lv_ishr hx hb dX0_guestStep_24 ?_
  refine lv_bipush (v := 127) hx hb dX0_guestStep_25 (by decide) ?_
  refine lv_iand hx hb dX0_guestStep_27 ?_
  refine lv_topi (fun v_7 ev_7 => ?_)
  refine lv_istore (lv' := [(4, .int v_7), (3, .int v_6), (2, .int v_5), (1, .int r_1), (0, .ref h0)]) hx hb dX0_guestStep_28 hl (by decide) rfl (fun ls hl => ?_)
  refine lv_aload_n hx hb dX0_guestStep_30 rfl (lv_at hl 4 rfl) ?_
  refine va_get (D := (dC, dI)) (ci := 0) (v := .int pc) (C := RX0) (T := TX0) (N := 12) hx hb hts inw_X0_guestStep hown hK hP 0 rfl rfl 4 (by decide) (hts (.fieldLink RX0 22 "Migrator" "programCounter" "I") (by decide +kernel)) (fun _ h9 => h9) rfl dX0_guestStep_31 ?_
  refine lv_iconst (v := 1) hx hb dX0_guestStep_34 (by decide) ?_
  refine lv_iadd hx hb dX0_guestStep_35 ?_
  refine lv_topi (fun v_8 ev_8 => ?_)
  refine lv_istore (lv' := [(5, .int v_8), (4, .int v_7), (3, .int v_6), (2, .int v_5), (1, .int r_1), (0, .ref h0)]) hx hb dX0_guestStep_36 hl (by decide) rfl (fun ls hl => ?_)
  refine lv_iload_n hx hb dX0_guestStep_38 rfl (lv_at hl 4 rfl) ?_
  refine lv_bipush (v := 7) hx hb dX0_guestStep_39 (by decide) ?_
  refine lv_iand hx hb dX0_guestStep_41 ?_
  rcases op_8 r_1 with o_9 | o_9 | o_9 | o_9 | o_9 | o_9 | o_9 | o_9
  · refine lv_tableIn (off := 42) (tgt := 84) hx hb dX0_guestStep_42 (by rw [o_9]; decide) (by rw [o_9]; decide) (by rw [o_9]; rfl) (by decide) ?_
    refine lv_aload_n hx hb dX0_guestStep_84 rfl (lv_at hl 5 rfl) ?_
    refine va_get (D := (dC, dI)) (ci := 0) (v := .int pc) (C := RX0) (T := TX0) (N := 12) hx hb hts inw_X0_guestStep hown hK hP 0 rfl rfl 4 (by decide) (hts (.fieldLink RX0 22 "Migrator" "programCounter" "I") (by decide +kernel)) (fun _ h9 => h9) rfl dX0_guestStep_85 ?_
    refine lv_istore (lv' := [(5, .int pc), (4, .int v_7), (3, .int v_6), (2, .int v_5), (1, .int r_1), (0, .ref h0)]) hx hb dX0_guestStep_88 hl (by decide) rfl (fun ls hl => ?_)
    refine lv_goto (tgt := 223) hx hb dX0_guestStep_90 (by decide) ?_
    refine lv_aload_n hx hb dX0_guestStep_223 rfl (lv_at hl 5 rfl) ?_
    refine lv_iload hx hb dX0_guestStep_224 (lv_at hl 0 rfl) ?_
    refine lv_bipush (v := 63) hx hb dX0_guestStep_226 (by decide) ?_
    refine lv_iand hx hb dX0_guestStep_228 ?_
    refine va_put (D := (dC, dI)) (ci := 0) (v := .int (pc &&& 63)) (ty := .int) (C := RX0) (T := TX0) (N := 12) hx hb hts inw_X0_guestStep tyX0 tyX0_ok nmX0 hown hK hP hD hS 0 rfl rfl 4 (by decide) (hts (.fieldLink RX0 22 "Migrator" "programCounter" "I") (by decide +kernel)) (fun _ h9 => h9) rfl (by decide +kernel) rfl rfl (Nat.le_of_ble_eq_true rfl) dX0_guestStep_229 (fun H locs hP hD hS => ?_)
    have hP : va_P (dC, dI) vwCl [(h0, .inr (0, [.ref q1, .ref q2, .ref q3, .ref q4, .int (pc &&& 63), .int sc, .int ph, .int rd, .int th, .int lm, .int dy, .int wt])), (q1, .inl (cA, 64, .inl S)), (q2, .inl (cA, 64, .inl D)), (q3, .inl (cA, 4, .inl R)), (q4, .inl (cA, 8, .inl K))] H := hP
    have hD : va_D A [(h0, .inr (0, [.ref q1, .ref q2, .ref q3, .ref q4, .int (pc &&& 63), .int sc, .int ph, .int rd, .int th, .int lm, .int dy, .int wt])), (q1, .inl (cA, 64, .inl S)), (q2, .inl (cA, 64, .inl D)), (q3, .inl (cA, 4, .inl R)), (q4, .inl (cA, 8, .inl K))] := hD
    have z_10 : (S, D, R, K, pc &&& 63, sc, ph, rd, th, lm, dy, wt) = mg_step (S, D, R, K, pc, sc, ph, rd, th, lm, dy, wt) := by
      subst ev_5
      subst ev_6
      subst ev_7
      subst ev_8
      subst w_3
      show _ = mg_go (mg_rw S D ph pc &&& 7) (mg_rw S D ph pc) (S, D, R, K, pc, sc, ph, rd, th, lm, dy, wt)
      rw [o_9]
      rfl
    exact W.vret hx hb hr (fun t ht hW => ⟨⟨(S, D, R, K, pc &&& 63, sc, ph, rd, th, lm, dy, wt), rfl, z_10, by rw [ht]; exact hP, va_K.moved hW.alike hK, hD⟩, hS.F ht⟩) hS.2.2 dX0_guestStep_232
  · refine lv_tableIn (off := 51) (tgt := 93) hx hb dX0_guestStep_42 (by rw [o_9]; decide) (by rw [o_9]; decide) (by rw [o_9]; rfl) (by decide) ?_
    refine lv_aload_n hx hb dX0_guestStep_93 rfl (lv_at hl 5 rfl) ?_
    refine va_get (D := (dC, dI)) (ci := 0) (v := .ref q3) (C := RX0) (T := TX0) (N := 12) hx hb hts inw_X0_guestStep hown hK hP 0 rfl rfl 2 (by decide) (hts (.fieldLink RX0 16 "Migrator" "registers" "[I") (by decide +kernel)) (fun _ h9 => h9) rfl dX0_guestStep_94 ?_
    refine lv_iload_n hx hb dX0_guestStep_97 rfl (lv_at hl 3 rfl) ?_
    refine lv_iload hx hb dX0_guestStep_98 (lv_at hl 1 rfl) ?_
    refine va_iast hx hb hK hP hD hS 3 0 rfl rfl (by rw [ev_5]; exact in_3 _) dX0_guestStep_100 (fun H locs hP hD hS => ?_)
    have hP : va_P (dC, dI) vwCl [(h0, .inr (0, [.ref q1, .ref q2, .ref q3, .ref q4, .int pc, .int sc, .int ph, .int rd, .int th, .int lm, .int dy, .int wt])), (q1, .inl (cA, 64, .inl S)), (q2, .inl (cA, 64, .inl D)), (q3, .inl (cA, 4, .inl (upd R v_5.toNatClampNeg v_7))), (q4, .inl (cA, 8, .inl K))] H := hP
    have hD : va_D A [(h0, .inr (0, [.ref q1, .ref q2, .ref q3, .ref q4, .int pc, .int sc, .int ph, .int rd, .int th, .int lm, .int dy, .int wt])), (q1, .inl (cA, 64, .inl S)), (q2, .inl (cA, 64, .inl D)), (q3, .inl (cA, 4, .inl (upd R v_5.toNatClampNeg v_7))), (q4, .inl (cA, 8, .inl K))] := hD
    refine lv_goto (tgt := 223) hx hb dX0_guestStep_101 (by decide) ?_
    refine lv_aload_n hx hb dX0_guestStep_223 rfl (lv_at hl 5 rfl) ?_
    refine lv_iload hx hb dX0_guestStep_224 (lv_at hl 0 rfl) ?_
    refine lv_bipush (v := 63) hx hb dX0_guestStep_226 (by decide) ?_
    refine lv_iand hx hb dX0_guestStep_228 ?_
    refine va_put (D := (dC, dI)) (ci := 0) (v := .int (v_8 &&& 63)) (ty := .int) (C := RX0) (T := TX0) (N := 12) hx hb hts inw_X0_guestStep tyX0 tyX0_ok nmX0 hown hK hP hD hS 0 rfl rfl 4 (by decide) (hts (.fieldLink RX0 22 "Migrator" "programCounter" "I") (by decide +kernel)) (fun _ h9 => h9) rfl (by decide +kernel) rfl rfl (Nat.le_of_ble_eq_true rfl) dX0_guestStep_229 (fun H locs hP hD hS => ?_)
    have hP : va_P (dC, dI) vwCl [(h0, .inr (0, [.ref q1, .ref q2, .ref q3, .ref q4, .int (v_8 &&& 63), .int sc, .int ph, .int rd, .int th, .int lm, .int dy, .int wt])), (q1, .inl (cA, 64, .inl S)), (q2, .inl (cA, 64, .inl D)), (q3, .inl (cA, 4, .inl (upd R v_5.toNatClampNeg v_7))), (q4, .inl (cA, 8, .inl K))] H := hP
    have hD : va_D A [(h0, .inr (0, [.ref q1, .ref q2, .ref q3, .ref q4, .int (v_8 &&& 63), .int sc, .int ph, .int rd, .int th, .int lm, .int dy, .int wt])), (q1, .inl (cA, 64, .inl S)), (q2, .inl (cA, 64, .inl D)), (q3, .inl (cA, 4, .inl (upd R v_5.toNatClampNeg v_7))), (q4, .inl (cA, 8, .inl K))] := hD
    have z_11 : (S, D, upd R v_5.toNatClampNeg v_7, K, v_8 &&& 63, sc, ph, rd, th, lm, dy, wt) = mg_step (S, D, R, K, pc, sc, ph, rd, th, lm, dy, wt) := by
      subst ev_5
      subst ev_6
      subst ev_7
      subst ev_8
      subst w_3
      show _ = mg_go (mg_rw S D ph pc &&& 7) (mg_rw S D ph pc) (S, D, R, K, pc, sc, ph, rd, th, lm, dy, wt)
      rw [o_9]
      rfl
    exact W.vret hx hb hr (fun t ht hW => ⟨⟨(S, D, upd R v_5.toNatClampNeg v_7, K, v_8 &&& 63, sc, ph, rd, th, lm, dy, wt), rfl, z_11, by rw [ht]; exact hP, va_K.moved hW.alike hK, hD⟩, hS.F ht⟩) hS.2.2 dX0_guestStep_232
  · refine lv_tableIn (off := 62) (tgt := 104) hx hb dX0_guestStep_42 (by rw [o_9]; decide) (by rw [o_9]; decide) (by rw [o_9]; rfl) (by decide) ?_
    refine lv_aload_n hx hb dX0_guestStep_104 rfl (lv_at hl 5 rfl) ?_
    refine va_get (D := (dC, dI)) (ci := 0) (v := .ref q3) (C := RX0) (T := TX0) (N := 12) hx hb hts inw_X0_guestStep hown hK hP 0 rfl rfl 2 (by decide) (hts (.fieldLink RX0 16 "Migrator" "registers" "[I") (by decide +kernel)) (fun _ h9 => h9) rfl dX0_guestStep_105 ?_
    refine lv_iload_n hx hb dX0_guestStep_108 rfl (lv_at hl 3 rfl) ?_
    refine lv_aload_n hx hb dX0_guestStep_109 rfl (lv_at hl 5 rfl) ?_
    refine lv_aload_n hx hb dX0_guestStep_110 rfl (lv_at hl 5 rfl) ?_
    refine va_get (D := (dC, dI)) (ci := 0) (v := .ref q3) (C := RX0) (T := TX0) (N := 12) hx hb hts inw_X0_guestStep hown hK hP 0 rfl rfl 2 (by decide) (hts (.fieldLink RX0 16 "Migrator" "registers" "[I") (by decide +kernel)) (fun _ h9 => h9) rfl dX0_guestStep_111 ?_
    refine lv_iload_n hx hb dX0_guestStep_114 rfl (lv_at hl 2 rfl) ?_
    refine va_iald hx hb hK hP 3 0 rfl rfl (by rw [ev_6]; exact in_3 _) dX0_guestStep_115 ?_
    refine lv_iload hx hb dX0_guestStep_116 (lv_at hl 1 rfl) ?_
    refine lv_iadd hx hb dX0_guestStep_118 ?_
    have hPc := hP.sub (ws' := [(h0, .inr (0, [.ref q1, .ref q2, .ref q3, .ref q4, .int pc, .int sc, .int ph, .int rd, .int th, .int lm, .int dy, .int wt])), (q1, .inl (cA, 64, .inl S)), (q2, .inl (cA, 64, .inl D)), (q3, .inl (cA, 4, .inl R)), (q4, .inl (cA, 8, .inl K))]) [0, 1, 2, 3, 4] rfl
    have hDc := hD.sub (ws' := [(h0, .inr (0, [.ref q1, .ref q2, .ref q3, .ref q4, .int pc, .int sc, .int ph, .int rd, .int th, .int lm, .int dy, .int wt])), (q1, .inl (cA, 64, .inl S)), (q2, .inl (cA, 64, .inl D)), (q3, .inl (cA, 4, .inl R)), (q4, .inl (cA, 8, .inl K))]) [0, 1, 2, 3, 4] (by decide) rfl
    have hKc := hK.sub (tys' := [(cA, .int)]) [0] rfl
    have hFc := va_free (wc := [(h0, .inr (0, [.ref q1, .ref q2, .ref q3, .ref q4, .int pc, .int sc, .int ph, .int rd, .int th, .int lm, .int dy, .int wt])), (q1, .inl (cA, 64, .inl S)), (q2, .inl (cA, 64, .inl D)), (q3, .inl (cA, 4, .inl R)), (q4, .inl (cA, 8, .inl K))]) hD hS hA [0, 1, 2, 3, 4] rfl
    refine va_calli (va_runV (As := [.int ((R v_6.toNatClampNeg) + v_7)]) (rest := [.int v_5, .ref q3]) ⟨hx, hb, hml, hown, hts⟩ (c_X0_readWord l dC dI h0 q1 q2 q3 q4 cA S D R K pc sc ph rd th lm dy wt ((R v_6.toNatClampNeg) + v_7) H.size) (cwV 1 hts gX0_guestStep_X0_readWord rfl rfl rfl (by decide +kernel) ⟨Nat.le_of_ble_eq_true rfl, Nat.le_of_ble_eq_true rfl⟩) ⟨fun a U g mk q => by obtain ⟨q0, q1, qP, qK, qD⟩ := q; exact ⟨q0, q1, qP, va_K.moved (u := U) (U := U.calling g mk a) (Vm.Alike.refl U.vm) qK, qD⟩, va_recv hKc hPc (ci := 0) (q0 := 0) rfl rfl, fun U hU hW => ⟨rfl, by rw [hU], by rw [hU]; exact hPc, va_K.moved hW.alike hKc, hDc.weaken (fun _ _ _ _ => trivial)⟩⟩ rfl rfl hl.1 rfl (lv_room (Nat.le_of_ble_eq_true rfl)) dX0_guestStep_119 ⟨(Nat.zero_le _), (Nat.zero_le _)⟩) hS (fun q _ h => hFc q h) hFc (fun r_12 u_13 t H1 locs ht hvm w_14 hB hz1 hk1 hS => ?_)
    obtain ⟨w_14, e_15⟩ := w_14
    subst e_15
    obtain ⟨hP1, hK1, hD1⟩ := hB
    rw [ht] at hP1
    obtain ⟨hP, hD⟩ := va_join (wr := []) (w1 := [(h0, .inr (0, [.ref q1, .ref q2, .ref q3, .ref q4, .int pc, .int sc, .int ph, .int rd, .int th, .int lm, .int dy, .int wt])), (q1, .inl (cA, 64, .inl S)), (q2, .inl (cA, 64, .inl D)), (q3, .inl (cA, 4, .inl R)), (q4, .inl (cA, 8, .inl K))]) hP hD [0, 1, 2, 3, 4] [] rfl rfl (by decide) (by decide) hk1 hFc hP1 hD1
    clear hPc hDc hFc hP1 hD1 hk1 hK1
    generalize H1 = H at hP hS ⊢
    have hP : va_P (dC, dI) vwCl [(h0, .inr (0, [.ref q1, .ref q2, .ref q3, .ref q4, .int pc, .int sc, .int ph, .int rd, .int th, .int lm, .int dy, .int wt])), (q1, .inl (cA, 64, .inl S)), (q2, .inl (cA, 64, .inl D)), (q3, .inl (cA, 4, .inl R)), (q4, .inl (cA, 8, .inl K))] H := hP
    have hD : va_D A [(h0, .inr (0, [.ref q1, .ref q2, .ref q3, .ref q4, .int pc, .int sc, .int ph, .int rd, .int th, .int lm, .int dy, .int wt])), (q1, .inl (cA, 64, .inl S)), (q2, .inl (cA, 64, .inl D)), (q3, .inl (cA, 4, .inl R)), (q4, .inl (cA, 8, .inl K))] := hD
    refine va_iast hx hb hK hP hD hS 3 0 rfl rfl (by rw [ev_5]; exact in_3 _) dX0_guestStep_122 (fun H locs hP hD hS => ?_)
    have hP : va_P (dC, dI) vwCl [(h0, .inr (0, [.ref q1, .ref q2, .ref q3, .ref q4, .int pc, .int sc, .int ph, .int rd, .int th, .int lm, .int dy, .int wt])), (q1, .inl (cA, 64, .inl S)), (q2, .inl (cA, 64, .inl D)), (q3, .inl (cA, 4, .inl (upd R v_5.toNatClampNeg r_12))), (q4, .inl (cA, 8, .inl K))] H := hP
    have hD : va_D A [(h0, .inr (0, [.ref q1, .ref q2, .ref q3, .ref q4, .int pc, .int sc, .int ph, .int rd, .int th, .int lm, .int dy, .int wt])), (q1, .inl (cA, 64, .inl S)), (q2, .inl (cA, 64, .inl D)), (q3, .inl (cA, 4, .inl (upd R v_5.toNatClampNeg r_12))), (q4, .inl (cA, 8, .inl K))] := hD
    refine lv_goto (tgt := 223) hx hb dX0_guestStep_123 (by decide) ?_
    refine lv_aload_n hx hb dX0_guestStep_223 rfl (lv_at hl 5 rfl) ?_
    refine lv_iload hx hb dX0_guestStep_224 (lv_at hl 0 rfl) ?_
    refine lv_bipush (v := 63) hx hb dX0_guestStep_226 (by decide) ?_
    refine lv_iand hx hb dX0_guestStep_228 ?_
    refine va_put (D := (dC, dI)) (ci := 0) (v := .int (v_8 &&& 63)) (ty := .int) (C := RX0) (T := TX0) (N := 12) hx hb hts inw_X0_guestStep tyX0 tyX0_ok nmX0 hown hK hP hD hS 0 rfl rfl 4 (by decide) (hts (.fieldLink RX0 22 "Migrator" "programCounter" "I") (by decide +kernel)) (fun _ h9 => h9) rfl (by decide +kernel) rfl rfl (Nat.le_of_ble_eq_true rfl) dX0_guestStep_229 (fun H locs hP hD hS => ?_)
    have hP : va_P (dC, dI) vwCl [(h0, .inr (0, [.ref q1, .ref q2, .ref q3, .ref q4, .int (v_8 &&& 63), .int sc, .int ph, .int rd, .int th, .int lm, .int dy, .int wt])), (q1, .inl (cA, 64, .inl S)), (q2, .inl (cA, 64, .inl D)), (q3, .inl (cA, 4, .inl (upd R v_5.toNatClampNeg r_12))), (q4, .inl (cA, 8, .inl K))] H := hP
    have hD : va_D A [(h0, .inr (0, [.ref q1, .ref q2, .ref q3, .ref q4, .int (v_8 &&& 63), .int sc, .int ph, .int rd, .int th, .int lm, .int dy, .int wt])), (q1, .inl (cA, 64, .inl S)), (q2, .inl (cA, 64, .inl D)), (q3, .inl (cA, 4, .inl (upd R v_5.toNatClampNeg r_12))), (q4, .inl (cA, 8, .inl K))] := hD
    have z_16 : (S, D, upd R v_5.toNatClampNeg r_12, K, v_8 &&& 63, sc, ph, rd, th, lm, dy, wt) = mg_step (S, D, R, K, pc, sc, ph, rd, th, lm, dy, wt) := by
      subst ev_5
      subst ev_6
      subst ev_7
      subst ev_8
      subst w_3
      subst w_14
      show _ = mg_go (mg_rw S D ph pc &&& 7) (mg_rw S D ph pc) (S, D, R, K, pc, sc, ph, rd, th, lm, dy, wt)
      rw [o_9]
      rfl
    exact W.vret hx hb hr (fun t ht hW => ⟨⟨(S, D, upd R v_5.toNatClampNeg r_12, K, v_8 &&& 63, sc, ph, rd, th, lm, dy, wt), rfl, z_16, by rw [ht]; exact hP, va_K.moved hW.alike hK, hD⟩, hS.F ht⟩) hS.2.2 dX0_guestStep_232
  · refine lv_tableIn (off := 84) (tgt := 126) hx hb dX0_guestStep_42 (by rw [o_9]; decide) (by rw [o_9]; decide) (by rw [o_9]; rfl) (by decide) ?_
    refine lv_aload_n hx hb dX0_guestStep_126 rfl (lv_at hl 5 rfl) ?_
    refine lv_aload_n hx hb dX0_guestStep_127 rfl (lv_at hl 5 rfl) ?_
    refine va_get (D := (dC, dI)) (ci := 0) (v := .ref q3) (C := RX0) (T := TX0) (N := 12) hx hb hts inw_X0_guestStep hown hK hP 0 rfl rfl 2 (by decide) (hts (.fieldLink RX0 16 "Migrator" "registers" "[I") (by decide +kernel)) (fun _ h9 => h9) rfl dX0_guestStep_128 ?_
    refine lv_iload_n hx hb dX0_guestStep_131 rfl (lv_at hl 2 rfl) ?_
    refine va_iald hx hb hK hP 3 0 rfl rfl (by rw [ev_6]; exact in_3 _) dX0_guestStep_132 ?_
    refine lv_iload hx hb dX0_guestStep_133 (lv_at hl 1 rfl) ?_
    refine lv_iadd hx hb dX0_guestStep_135 ?_
    refine lv_aload_n hx hb dX0_guestStep_136 rfl (lv_at hl 5 rfl) ?_
    refine va_get (D := (dC, dI)) (ci := 0) (v := .ref q3) (C := RX0) (T := TX0) (N := 12) hx hb hts inw_X0_guestStep hown hK hP 0 rfl rfl 2 (by decide) (hts (.fieldLink RX0 16 "Migrator" "registers" "[I") (by decide +kernel)) (fun _ h9 => h9) rfl dX0_guestStep_137 ?_
    refine lv_iload_n hx hb dX0_guestStep_140 rfl (lv_at hl 3 rfl) ?_
    refine va_iald hx hb hK hP 3 0 rfl rfl (by rw [ev_5]; exact in_3 _) dX0_guestStep_141 ?_
    have hPc := hP.sub (ws' := [(h0, .inr (0, [.ref q1, .ref q2, .ref q3, .ref q4, .int pc, .int sc, .int ph, .int rd, .int th, .int lm, .int dy, .int wt])), (q1, .inl (cA, 64, .inl S)), (q2, .inl (cA, 64, .inl D)), (q3, .inl (cA, 4, .inl R)), (q4, .inl (cA, 8, .inl K))]) [0, 1, 2, 3, 4] rfl
    have hDc := hD.sub (ws' := [(h0, .inr (0, [.ref q1, .ref q2, .ref q3, .ref q4, .int pc, .int sc, .int ph, .int rd, .int th, .int lm, .int dy, .int wt])), (q1, .inl (cA, 64, .inl S)), (q2, .inl (cA, 64, .inl D)), (q3, .inl (cA, 4, .inl R)), (q4, .inl (cA, 8, .inl K))]) [0, 1, 2, 3, 4] (by decide) rfl
    have hKc := hK.sub (tys' := [(cA, .int)]) [0] rfl
    have hFc := va_free (wc := [(h0, .inr (0, [.ref q1, .ref q2, .ref q3, .ref q4, .int pc, .int sc, .int ph, .int rd, .int th, .int lm, .int dy, .int wt])), (q1, .inl (cA, 64, .inl S)), (q2, .inl (cA, 64, .inl D)), (q3, .inl (cA, 4, .inl R)), (q4, .inl (cA, 8, .inl K))]) hD hS hA [0, 1, 2, 3, 4] rfl
    refine va_callv (va_runV (As := [.int ((R v_6.toNatClampNeg) + v_7), .int (R v_5.toNatClampNeg)]) (rest := []) ⟨hx, hb, hml, hown, hts⟩ (c_X0_writeWord l dC dI h0 q1 q2 q3 q4 cA S D R K pc sc ph rd th lm dy wt ((R v_6.toNatClampNeg) + v_7) (R v_5.toNatClampNeg) H.size) (cwV 2 hts gX0_guestStep_X0_writeWord rfl rfl rfl (by decide +kernel) ⟨Nat.le_of_ble_eq_true rfl, Nat.le_of_ble_eq_true rfl⟩) ⟨fun a U g mk q => by obtain ⟨q0, q1, qP, qK, qD⟩ := q; exact ⟨q0, q1, qP, va_K.moved (u := U) (U := U.calling g mk a) (Vm.Alike.refl U.vm) qK, qD⟩, va_recv hKc hPc (ci := 0) (q0 := 0) rfl rfl, fun U hU hW => ⟨rfl, by rw [hU], by rw [hU]; exact hPc, va_K.moved hW.alike hKc, hDc.weaken (fun _ _ _ _ => trivial)⟩⟩ rfl rfl hl.1 rfl (lv_room (Nat.le_of_ble_eq_true rfl)) dX0_guestStep_142 ⟨(Nat.zero_le _), (Nat.zero_le _)⟩) hS (fun q _ h => hFc q h) hFc (fun u_17 t H1 locs ht hvm w_18 hB hz1 hk1 hS => ?_)
    subst w_18
    obtain ⟨hP1, hK1, hD1⟩ := hB
    rw [ht] at hP1
    obtain ⟨hP, hD⟩ := va_join (wr := []) (w1 := [(h0, .inr (0, [.ref q1, .ref q2, .ref q3, .ref q4, .int pc, .int sc, .int ph, .int rd, .int th, .int lm, .int ((mg_ww S D ph dy ((R v_6.toNatClampNeg) + v_7) (R v_5.toNatClampNeg)).2.2), .int wt])), (q1, .inl (cA, 64, .inl ((mg_ww S D ph dy ((R v_6.toNatClampNeg) + v_7) (R v_5.toNatClampNeg)).1))), (q2, .inl (cA, 64, .inl ((mg_ww S D ph dy ((R v_6.toNatClampNeg) + v_7) (R v_5.toNatClampNeg)).2.1))), (q3, .inl (cA, 4, .inl R)), (q4, .inl (cA, 8, .inl K))]) hP hD [0, 1, 2, 3, 4] [] rfl rfl (by decide) (by decide) hk1 hFc hP1 hD1
    clear hPc hDc hFc hP1 hD1 hk1 hK1
    generalize H1 = H at hP hS ⊢
    have hP : va_P (dC, dI) vwCl [(h0, .inr (0, [.ref q1, .ref q2, .ref q3, .ref q4, .int pc, .int sc, .int ph, .int rd, .int th, .int lm, .int ((mg_ww S D ph dy ((R v_6.toNatClampNeg) + v_7) (R v_5.toNatClampNeg)).2.2), .int wt])), (q1, .inl (cA, 64, .inl ((mg_ww S D ph dy ((R v_6.toNatClampNeg) + v_7) (R v_5.toNatClampNeg)).1))), (q2, .inl (cA, 64, .inl ((mg_ww S D ph dy ((R v_6.toNatClampNeg) + v_7) (R v_5.toNatClampNeg)).2.1))), (q3, .inl (cA, 4, .inl R)), (q4, .inl (cA, 8, .inl K))] H := hP
    have hD : va_D A [(h0, .inr (0, [.ref q1, .ref q2, .ref q3, .ref q4, .int pc, .int sc, .int ph, .int rd, .int th, .int lm, .int ((mg_ww S D ph dy ((R v_6.toNatClampNeg) + v_7) (R v_5.toNatClampNeg)).2.2), .int wt])), (q1, .inl (cA, 64, .inl ((mg_ww S D ph dy ((R v_6.toNatClampNeg) + v_7) (R v_5.toNatClampNeg)).1))), (q2, .inl (cA, 64, .inl ((mg_ww S D ph dy ((R v_6.toNatClampNeg) + v_7) (R v_5.toNatClampNeg)).2.1))), (q3, .inl (cA, 4, .inl R)), (q4, .inl (cA, 8, .inl K))] := hD
    refine lv_goto (tgt := 223) hx hb dX0_guestStep_145 (by decide) ?_
    refine lv_aload_n hx hb dX0_guestStep_223 rfl (lv_at hl 5 rfl) ?_
    refine lv_iload hx hb dX0_guestStep_224 (lv_at hl 0 rfl) ?_
    refine lv_bipush (v := 63) hx hb dX0_guestStep_226 (by decide) ?_
    refine lv_iand hx hb dX0_guestStep_228 ?_
    refine va_put (D := (dC, dI)) (ci := 0) (v := .int (v_8 &&& 63)) (ty := .int) (C := RX0) (T := TX0) (N := 12) hx hb hts inw_X0_guestStep tyX0 tyX0_ok nmX0 hown hK hP hD hS 0 rfl rfl 4 (by decide) (hts (.fieldLink RX0 22 "Migrator" "programCounter" "I") (by decide +kernel)) (fun _ h9 => h9) rfl (by decide +kernel) rfl rfl (Nat.le_of_ble_eq_true rfl) dX0_guestStep_229 (fun H locs hP hD hS => ?_)
    have hP : va_P (dC, dI) vwCl [(h0, .inr (0, [.ref q1, .ref q2, .ref q3, .ref q4, .int (v_8 &&& 63), .int sc, .int ph, .int rd, .int th, .int lm, .int ((mg_ww S D ph dy ((R v_6.toNatClampNeg) + v_7) (R v_5.toNatClampNeg)).2.2), .int wt])), (q1, .inl (cA, 64, .inl ((mg_ww S D ph dy ((R v_6.toNatClampNeg) + v_7) (R v_5.toNatClampNeg)).1))), (q2, .inl (cA, 64, .inl ((mg_ww S D ph dy ((R v_6.toNatClampNeg) + v_7) (R v_5.toNatClampNeg)).2.1))), (q3, .inl (cA, 4, .inl R)), (q4, .inl (cA, 8, .inl K))] H := hP
    have hD : va_D A [(h0, .inr (0, [.ref q1, .ref q2, .ref q3, .ref q4, .int (v_8 &&& 63), .int sc, .int ph, .int rd, .int th, .int lm, .int ((mg_ww S D ph dy ((R v_6.toNatClampNeg) + v_7) (R v_5.toNatClampNeg)).2.2), .int wt])), (q1, .inl (cA, 64, .inl ((mg_ww S D ph dy ((R v_6.toNatClampNeg) + v_7) (R v_5.toNatClampNeg)).1))), (q2, .inl (cA, 64, .inl ((mg_ww S D ph dy ((R v_6.toNatClampNeg) + v_7) (R v_5.toNatClampNeg)).2.1))), (q3, .inl (cA, 4, .inl R)), (q4, .inl (cA, 8, .inl K))] := hD
    have z_19 : ((mg_ww S D ph dy ((R v_6.toNatClampNeg) + v_7) (R v_5.toNatClampNeg)).1, (mg_ww S D ph dy ((R v_6.toNatClampNeg) + v_7) (R v_5.toNatClampNeg)).2.1, R, K, v_8 &&& 63, sc, ph, rd, th, lm, (mg_ww S D ph dy ((R v_6.toNatClampNeg) + v_7) (R v_5.toNatClampNeg)).2.2, wt) = mg_step (S, D, R, K, pc, sc, ph, rd, th, lm, dy, wt) := by
      subst ev_5
      subst ev_6
      subst ev_7
      subst ev_8
      subst w_3
      show _ = mg_go (mg_rw S D ph pc &&& 7) (mg_rw S D ph pc) (S, D, R, K, pc, sc, ph, rd, th, lm, dy, wt)
      rw [o_9]
      rfl
    exact W.vret hx hb hr (fun t ht hW => ⟨⟨((mg_ww S D ph dy ((R v_6.toNatClampNeg) + v_7) (R v_5.toNatClampNeg)).1, (mg_ww S D ph dy ((R v_6.toNatClampNeg) + v_7) (R v_5.toNatClampNeg)).2.1, R, K, v_8 &&& 63, sc, ph, rd, th, lm, (mg_ww S D ph dy ((R v_6.toNatClampNeg) + v_7) (R v_5.toNatClampNeg)).2.2, wt), rfl, z_19, by rw [ht]; exact hP, va_K.moved hW.alike hK, hD⟩, hS.F ht⟩) hS.2.2 dX0_guestStep_232
  · refine lv_tableIn (off := 106) (tgt := 148) hx hb dX0_guestStep_42 (by rw [o_9]; decide) (by rw [o_9]; decide) (by rw [o_9]; rfl) (by decide) ?_
    refine lv_aload_n hx hb dX0_guestStep_148 rfl (lv_at hl 5 rfl) ?_
    refine va_get (D := (dC, dI)) (ci := 0) (v := .ref q3) (C := RX0) (T := TX0) (N := 12) hx hb hts inw_X0_guestStep hown hK hP 0 rfl rfl 2 (by decide) (hts (.fieldLink RX0 16 "Migrator" "registers" "[I") (by decide +kernel)) (fun _ h9 => h9) rfl dX0_guestStep_149 ?_
    refine lv_iload_n hx hb dX0_guestStep_152 rfl (lv_at hl 3 rfl) ?_
    refine lv_aload_n hx hb dX0_guestStep_153 rfl (lv_at hl 5 rfl) ?_
    refine va_get (D := (dC, dI)) (ci := 0) (v := .ref q3) (C := RX0) (T := TX0) (N := 12) hx hb hts inw_X0_guestStep hown hK hP 0 rfl rfl 2 (by decide) (hts (.fieldLink RX0 16 "Migrator" "registers" "[I") (by decide +kernel)) (fun _ h9 => h9) rfl dX0_guestStep_154 ?_
    refine lv_iload_n hx hb dX0_guestStep_157 rfl (lv_at hl 3 rfl) ?_
    refine va_iald hx hb hK hP 3 0 rfl rfl (by rw [ev_5]; exact in_3 _) dX0_guestStep_158 ?_
    refine lv_aload_n hx hb dX0_guestStep_159 rfl (lv_at hl 5 rfl) ?_
    refine va_get (D := (dC, dI)) (ci := 0) (v := .ref q3) (C := RX0) (T := TX0) (N := 12) hx hb hts inw_X0_guestStep hown hK hP 0 rfl rfl 2 (by decide) (hts (.fieldLink RX0 16 "Migrator" "registers" "[I") (by decide +kernel)) (fun _ h9 => h9) rfl dX0_guestStep_160 ?_
    refine lv_iload_n hx hb dX0_guestStep_163 rfl (lv_at hl 2 rfl) ?_
    refine va_iald hx hb hK hP 3 0 rfl rfl (by rw [ev_6]; exact in_3 _) dX0_guestStep_164 ?_
    refine lv_iadd hx hb dX0_guestStep_165 ?_
    refine va_iast hx hb hK hP hD hS 3 0 rfl rfl (by rw [ev_5]; exact in_3 _) dX0_guestStep_166 (fun H locs hP hD hS => ?_)
    have hP : va_P (dC, dI) vwCl [(h0, .inr (0, [.ref q1, .ref q2, .ref q3, .ref q4, .int pc, .int sc, .int ph, .int rd, .int th, .int lm, .int dy, .int wt])), (q1, .inl (cA, 64, .inl S)), (q2, .inl (cA, 64, .inl D)), (q3, .inl (cA, 4, .inl (upd R v_5.toNatClampNeg ((R v_5.toNatClampNeg) + (R v_6.toNatClampNeg))))), (q4, .inl (cA, 8, .inl K))] H := hP
    have hD : va_D A [(h0, .inr (0, [.ref q1, .ref q2, .ref q3, .ref q4, .int pc, .int sc, .int ph, .int rd, .int th, .int lm, .int dy, .int wt])), (q1, .inl (cA, 64, .inl S)), (q2, .inl (cA, 64, .inl D)), (q3, .inl (cA, 4, .inl (upd R v_5.toNatClampNeg ((R v_5.toNatClampNeg) + (R v_6.toNatClampNeg))))), (q4, .inl (cA, 8, .inl K))] := hD
    refine lv_goto (tgt := 223) hx hb dX0_guestStep_167 (by decide) ?_
    refine lv_aload_n hx hb dX0_guestStep_223 rfl (lv_at hl 5 rfl) ?_
    refine lv_iload hx hb dX0_guestStep_224 (lv_at hl 0 rfl) ?_
    refine lv_bipush (v := 63) hx hb dX0_guestStep_226 (by decide) ?_
    refine lv_iand hx hb dX0_guestStep_228 ?_
    refine va_put (D := (dC, dI)) (ci := 0) (v := .int (v_8 &&& 63)) (ty := .int) (C := RX0) (T := TX0) (N := 12) hx hb hts inw_X0_guestStep tyX0 tyX0_ok nmX0 hown hK hP hD hS 0 rfl rfl 4 (by decide) (hts (.fieldLink RX0 22 "Migrator" "programCounter" "I") (by decide +kernel)) (fun _ h9 => h9) rfl (by decide +kernel) rfl rfl (Nat.le_of_ble_eq_true rfl) dX0_guestStep_229 (fun H locs hP hD hS => ?_)
    have hP : va_P (dC, dI) vwCl [(h0, .inr (0, [.ref q1, .ref q2, .ref q3, .ref q4, .int (v_8 &&& 63), .int sc, .int ph, .int rd, .int th, .int lm, .int dy, .int wt])), (q1, .inl (cA, 64, .inl S)), (q2, .inl (cA, 64, .inl D)), (q3, .inl (cA, 4, .inl (upd R v_5.toNatClampNeg ((R v_5.toNatClampNeg) + (R v_6.toNatClampNeg))))), (q4, .inl (cA, 8, .inl K))] H := hP
    have hD : va_D A [(h0, .inr (0, [.ref q1, .ref q2, .ref q3, .ref q4, .int (v_8 &&& 63), .int sc, .int ph, .int rd, .int th, .int lm, .int dy, .int wt])), (q1, .inl (cA, 64, .inl S)), (q2, .inl (cA, 64, .inl D)), (q3, .inl (cA, 4, .inl (upd R v_5.toNatClampNeg ((R v_5.toNatClampNeg) + (R v_6.toNatClampNeg))))), (q4, .inl (cA, 8, .inl K))] := hD
    have z_20 : (S, D, upd R v_5.toNatClampNeg ((R v_5.toNatClampNeg) + (R v_6.toNatClampNeg)), K, v_8 &&& 63, sc, ph, rd, th, lm, dy, wt) = mg_step (S, D, R, K, pc, sc, ph, rd, th, lm, dy, wt) := by
      subst ev_5
      subst ev_6
      subst ev_7
      subst ev_8
      subst w_3
      show _ = mg_go (mg_rw S D ph pc &&& 7) (mg_rw S D ph pc) (S, D, R, K, pc, sc, ph, rd, th, lm, dy, wt)
      rw [o_9]
      rfl
    exact W.vret hx hb hr (fun t ht hW => ⟨⟨(S, D, upd R v_5.toNatClampNeg ((R v_5.toNatClampNeg) + (R v_6.toNatClampNeg)), K, v_8 &&& 63, sc, ph, rd, th, lm, dy, wt), rfl, z_20, by rw [ht]; exact hP, va_K.moved hW.alike hK, hD⟩, hS.F ht⟩) hS.2.2 dX0_guestStep_232
  · refine lv_tableIn (off := 128) (tgt := 170) hx hb dX0_guestStep_42 (by rw [o_9]; decide) (by rw [o_9]; decide) (by rw [o_9]; rfl) (by decide) ?_
    refine lv_aload_n hx hb dX0_guestStep_170 rfl (lv_at hl 5 rfl) ?_
    refine va_get (D := (dC, dI)) (ci := 0) (v := .ref q3) (C := RX0) (T := TX0) (N := 12) hx hb hts inw_X0_guestStep hown hK hP 0 rfl rfl 2 (by decide) (hts (.fieldLink RX0 16 "Migrator" "registers" "[I") (by decide +kernel)) (fun _ h9 => h9) rfl dX0_guestStep_171 ?_
    refine lv_iload_n hx hb dX0_guestStep_174 rfl (lv_at hl 3 rfl) ?_
    refine lv_aload_n hx hb dX0_guestStep_175 rfl (lv_at hl 5 rfl) ?_
    refine va_get (D := (dC, dI)) (ci := 0) (v := .ref q3) (C := RX0) (T := TX0) (N := 12) hx hb hts inw_X0_guestStep hown hK hP 0 rfl rfl 2 (by decide) (hts (.fieldLink RX0 16 "Migrator" "registers" "[I") (by decide +kernel)) (fun _ h9 => h9) rfl dX0_guestStep_176 ?_
    refine lv_iload_n hx hb dX0_guestStep_179 rfl (lv_at hl 3 rfl) ?_
    refine va_iald hx hb hK hP 3 0 rfl rfl (by rw [ev_5]; exact in_3 _) dX0_guestStep_180 ?_
    refine lv_aload_n hx hb dX0_guestStep_181 rfl (lv_at hl 5 rfl) ?_
    refine va_get (D := (dC, dI)) (ci := 0) (v := .ref q3) (C := RX0) (T := TX0) (N := 12) hx hb hts inw_X0_guestStep hown hK hP 0 rfl rfl 2 (by decide) (hts (.fieldLink RX0 16 "Migrator" "registers" "[I") (by decide +kernel)) (fun _ h9 => h9) rfl dX0_guestStep_182 ?_
    refine lv_iload_n hx hb dX0_guestStep_185 rfl (lv_at hl 2 rfl) ?_
    refine va_iald hx hb hK hP 3 0 rfl rfl (by rw [ev_6]; exact in_3 _) dX0_guestStep_186 ?_
    refine lv_isub hx hb dX0_guestStep_187 ?_
    refine va_iast hx hb hK hP hD hS 3 0 rfl rfl (by rw [ev_5]; exact in_3 _) dX0_guestStep_188 (fun H locs hP hD hS => ?_)
    have hP : va_P (dC, dI) vwCl [(h0, .inr (0, [.ref q1, .ref q2, .ref q3, .ref q4, .int pc, .int sc, .int ph, .int rd, .int th, .int lm, .int dy, .int wt])), (q1, .inl (cA, 64, .inl S)), (q2, .inl (cA, 64, .inl D)), (q3, .inl (cA, 4, .inl (upd R v_5.toNatClampNeg ((R v_5.toNatClampNeg) - (R v_6.toNatClampNeg))))), (q4, .inl (cA, 8, .inl K))] H := hP
    have hD : va_D A [(h0, .inr (0, [.ref q1, .ref q2, .ref q3, .ref q4, .int pc, .int sc, .int ph, .int rd, .int th, .int lm, .int dy, .int wt])), (q1, .inl (cA, 64, .inl S)), (q2, .inl (cA, 64, .inl D)), (q3, .inl (cA, 4, .inl (upd R v_5.toNatClampNeg ((R v_5.toNatClampNeg) - (R v_6.toNatClampNeg))))), (q4, .inl (cA, 8, .inl K))] := hD
    refine lv_goto (tgt := 223) hx hb dX0_guestStep_189 (by decide) ?_
    refine lv_aload_n hx hb dX0_guestStep_223 rfl (lv_at hl 5 rfl) ?_
    refine lv_iload hx hb dX0_guestStep_224 (lv_at hl 0 rfl) ?_
    refine lv_bipush (v := 63) hx hb dX0_guestStep_226 (by decide) ?_
    refine lv_iand hx hb dX0_guestStep_228 ?_
    refine va_put (D := (dC, dI)) (ci := 0) (v := .int (v_8 &&& 63)) (ty := .int) (C := RX0) (T := TX0) (N := 12) hx hb hts inw_X0_guestStep tyX0 tyX0_ok nmX0 hown hK hP hD hS 0 rfl rfl 4 (by decide) (hts (.fieldLink RX0 22 "Migrator" "programCounter" "I") (by decide +kernel)) (fun _ h9 => h9) rfl (by decide +kernel) rfl rfl (Nat.le_of_ble_eq_true rfl) dX0_guestStep_229 (fun H locs hP hD hS => ?_)
    have hP : va_P (dC, dI) vwCl [(h0, .inr (0, [.ref q1, .ref q2, .ref q3, .ref q4, .int (v_8 &&& 63), .int sc, .int ph, .int rd, .int th, .int lm, .int dy, .int wt])), (q1, .inl (cA, 64, .inl S)), (q2, .inl (cA, 64, .inl D)), (q3, .inl (cA, 4, .inl (upd R v_5.toNatClampNeg ((R v_5.toNatClampNeg) - (R v_6.toNatClampNeg))))), (q4, .inl (cA, 8, .inl K))] H := hP
    have hD : va_D A [(h0, .inr (0, [.ref q1, .ref q2, .ref q3, .ref q4, .int (v_8 &&& 63), .int sc, .int ph, .int rd, .int th, .int lm, .int dy, .int wt])), (q1, .inl (cA, 64, .inl S)), (q2, .inl (cA, 64, .inl D)), (q3, .inl (cA, 4, .inl (upd R v_5.toNatClampNeg ((R v_5.toNatClampNeg) - (R v_6.toNatClampNeg))))), (q4, .inl (cA, 8, .inl K))] := hD
    have z_21 : (S, D, upd R v_5.toNatClampNeg ((R v_5.toNatClampNeg) - (R v_6.toNatClampNeg)), K, v_8 &&& 63, sc, ph, rd, th, lm, dy, wt) = mg_step (S, D, R, K, pc, sc, ph, rd, th, lm, dy, wt) := by
      subst ev_5
      subst ev_6
      subst ev_7
      subst ev_8
      subst w_3
      show _ = mg_go (mg_rw S D ph pc &&& 7) (mg_rw S D ph pc) (S, D, R, K, pc, sc, ph, rd, th, lm, dy, wt)
      rw [o_9]
      rfl
    exact W.vret hx hb hr (fun t ht hW => ⟨⟨(S, D, upd R v_5.toNatClampNeg ((R v_5.toNatClampNeg) - (R v_6.toNatClampNeg)), K, v_8 &&& 63, sc, ph, rd, th, lm, dy, wt), rfl, z_21, by rw [ht]; exact hP, va_K.moved hW.alike hK, hD⟩, hS.F ht⟩) hS.2.2 dX0_guestStep_232
  · refine lv_tableIn (off := 150) (tgt := 192) hx hb dX0_guestStep_42 (by rw [o_9]; decide) (by rw [o_9]; decide) (by rw [o_9]; rfl) (by decide) ?_
    refine lv_aload_n hx hb dX0_guestStep_192 rfl (lv_at hl 5 rfl) ?_
    refine va_get (D := (dC, dI)) (ci := 0) (v := .ref q3) (C := RX0) (T := TX0) (N := 12) hx hb hts inw_X0_guestStep hown hK hP 0 rfl rfl 2 (by decide) (hts (.fieldLink RX0 16 "Migrator" "registers" "[I") (by decide +kernel)) (fun _ h9 => h9) rfl dX0_guestStep_193 ?_
    refine lv_iload_n hx hb dX0_guestStep_196 rfl (lv_at hl 3 rfl) ?_
    refine va_iald hx hb hK hP 3 0 rfl rfl (by rw [ev_5]; exact in_3 _) dX0_guestStep_197 ?_
    refine lv_if_eq (tgt := 206) hx hb dX0_guestStep_198 (by decide) (fun c_22 => ?_) (fun c_22 => ?_)
    · refine lv_iload hx hb dX0_guestStep_206 (lv_at hl 0 rfl) ?_
      refine lv_istore (lv' := [(5, .int v_8), (4, .int v_7), (3, .int v_6), (2, .int v_5), (1, .int r_1), (0, .ref h0)]) hx hb dX0_guestStep_208 hl (by decide) rfl (fun ls hl => ?_)
      refine lv_goto (tgt := 223) hx hb dX0_guestStep_210 (by decide) ?_
      refine lv_aload_n hx hb dX0_guestStep_223 rfl (lv_at hl 5 rfl) ?_
      refine lv_iload hx hb dX0_guestStep_224 (lv_at hl 0 rfl) ?_
      refine lv_bipush (v := 63) hx hb dX0_guestStep_226 (by decide) ?_
      refine lv_iand hx hb dX0_guestStep_228 ?_
      refine va_put (D := (dC, dI)) (ci := 0) (v := .int (v_8 &&& 63)) (ty := .int) (C := RX0) (T := TX0) (N := 12) hx hb hts inw_X0_guestStep tyX0 tyX0_ok nmX0 hown hK hP hD hS 0 rfl rfl 4 (by decide) (hts (.fieldLink RX0 22 "Migrator" "programCounter" "I") (by decide +kernel)) (fun _ h9 => h9) rfl (by decide +kernel) rfl rfl (Nat.le_of_ble_eq_true rfl) dX0_guestStep_229 (fun H locs hP hD hS => ?_)
      have hP : va_P (dC, dI) vwCl [(h0, .inr (0, [.ref q1, .ref q2, .ref q3, .ref q4, .int (v_8 &&& 63), .int sc, .int ph, .int rd, .int th, .int lm, .int dy, .int wt])), (q1, .inl (cA, 64, .inl S)), (q2, .inl (cA, 64, .inl D)), (q3, .inl (cA, 4, .inl R)), (q4, .inl (cA, 8, .inl K))] H := hP
      have hD : va_D A [(h0, .inr (0, [.ref q1, .ref q2, .ref q3, .ref q4, .int (v_8 &&& 63), .int sc, .int ph, .int rd, .int th, .int lm, .int dy, .int wt])), (q1, .inl (cA, 64, .inl S)), (q2, .inl (cA, 64, .inl D)), (q3, .inl (cA, 4, .inl R)), (q4, .inl (cA, 8, .inl K))] := hD
      have z_23 : (S, D, R, K, v_8 &&& 63, sc, ph, rd, th, lm, dy, wt) = mg_step (S, D, R, K, pc, sc, ph, rd, th, lm, dy, wt) := by
        subst ev_5
        subst ev_6
        subst ev_7
        subst ev_8
        subst w_3
        show _ = mg_go (mg_rw S D ph pc &&& 7) (mg_rw S D ph pc) (S, D, R, K, pc, sc, ph, rd, th, lm, dy, wt)
        rw [o_9]
        show _ = (S, D, R, K, (if R (mg_a (mg_rw S D ph pc)).toNatClampNeg = 0 then pc + 1 else mg_k (mg_rw S D ph pc)) &&& 63, sc, ph, rd, th, lm, dy, wt)
        rw [if_pos c_22]
      exact W.vret hx hb hr (fun t ht hW => ⟨⟨(S, D, R, K, v_8 &&& 63, sc, ph, rd, th, lm, dy, wt), rfl, z_23, by rw [ht]; exact hP, va_K.moved hW.alike hK, hD⟩, hS.F ht⟩) hS.2.2 dX0_guestStep_232
    · refine lv_iload hx hb dX0_guestStep_201 (lv_at hl 1 rfl) ?_
      refine lv_goto (tgt := 208) hx hb dX0_guestStep_203 (by decide) ?_
      refine lv_istore (lv' := [(5, .int v_7), (4, .int v_7), (3, .int v_6), (2, .int v_5), (1, .int r_1), (0, .ref h0)]) hx hb dX0_guestStep_208 hl (by decide) rfl (fun ls hl => ?_)
      refine lv_goto (tgt := 223) hx hb dX0_guestStep_210 (by decide) ?_
      refine lv_aload_n hx hb dX0_guestStep_223 rfl (lv_at hl 5 rfl) ?_
      refine lv_iload hx hb dX0_guestStep_224 (lv_at hl 0 rfl) ?_
      refine lv_bipush (v := 63) hx hb dX0_guestStep_226 (by decide) ?_
      refine lv_iand hx hb dX0_guestStep_228 ?_
      refine va_put (D := (dC, dI)) (ci := 0) (v := .int (v_7 &&& 63)) (ty := .int) (C := RX0) (T := TX0) (N := 12) hx hb hts inw_X0_guestStep tyX0 tyX0_ok nmX0 hown hK hP hD hS 0 rfl rfl 4 (by decide) (hts (.fieldLink RX0 22 "Migrator" "programCounter" "I") (by decide +kernel)) (fun _ h9 => h9) rfl (by decide +kernel) rfl rfl (Nat.le_of_ble_eq_true rfl) dX0_guestStep_229 (fun H locs hP hD hS => ?_)
      have hP : va_P (dC, dI) vwCl [(h0, .inr (0, [.ref q1, .ref q2, .ref q3, .ref q4, .int (v_7 &&& 63), .int sc, .int ph, .int rd, .int th, .int lm, .int dy, .int wt])), (q1, .inl (cA, 64, .inl S)), (q2, .inl (cA, 64, .inl D)), (q3, .inl (cA, 4, .inl R)), (q4, .inl (cA, 8, .inl K))] H := hP
      have hD : va_D A [(h0, .inr (0, [.ref q1, .ref q2, .ref q3, .ref q4, .int (v_7 &&& 63), .int sc, .int ph, .int rd, .int th, .int lm, .int dy, .int wt])), (q1, .inl (cA, 64, .inl S)), (q2, .inl (cA, 64, .inl D)), (q3, .inl (cA, 4, .inl R)), (q4, .inl (cA, 8, .inl K))] := hD
      have z_24 : (S, D, R, K, v_7 &&& 63, sc, ph, rd, th, lm, dy, wt) = mg_step (S, D, R, K, pc, sc, ph, rd, th, lm, dy, wt) := by
        subst ev_5
        subst ev_6
        subst ev_7
        subst ev_8
        subst w_3
        show _ = mg_go (mg_rw S D ph pc &&& 7) (mg_rw S D ph pc) (S, D, R, K, pc, sc, ph, rd, th, lm, dy, wt)
        rw [o_9]
        show _ = (S, D, R, K, (if R (mg_a (mg_rw S D ph pc)).toNatClampNeg = 0 then pc + 1 else mg_k (mg_rw S D ph pc)) &&& 63, sc, ph, rd, th, lm, dy, wt)
        rw [if_neg c_22]
      exact W.vret hx hb hr (fun t ht hW => ⟨⟨(S, D, R, K, v_7 &&& 63, sc, ph, rd, th, lm, dy, wt), rfl, z_24, by rw [ht]; exact hP, va_K.moved hW.alike hK, hD⟩, hS.F ht⟩) hS.2.2 dX0_guestStep_232
  · refine lv_tableOut (tgt := 213) hx hb dX0_guestStep_42 (by rw [o_9]; decide) (by decide) ?_
    refine lv_aload_n hx hb dX0_guestStep_213 rfl (lv_at hl 5 rfl) ?_
    refine lv_aload_n hx hb dX0_guestStep_214 rfl (lv_at hl 5 rfl) ?_
    refine va_get (D := (dC, dI)) (ci := 0) (v := .ref q3) (C := RX0) (T := TX0) (N := 12) hx hb hts inw_X0_guestStep hown hK hP 0 rfl rfl 2 (by decide) (hts (.fieldLink RX0 16 "Migrator" "registers" "[I") (by decide +kernel)) (fun _ h9 => h9) rfl dX0_guestStep_215 ?_
    refine lv_iload_n hx hb dX0_guestStep_218 rfl (lv_at hl 3 rfl) ?_
    refine va_iald hx hb hK hP 3 0 rfl rfl (by rw [ev_5]; exact in_3 _) dX0_guestStep_219 ?_
    have hPc := hP.sub (ws' := [(h0, .inr (0, [.ref q1, .ref q2, .ref q3, .ref q4, .int pc, .int sc, .int ph, .int rd, .int th, .int lm, .int dy, .int wt])), (q1, .inl (cA, 64, .inl S)), (q2, .inl (cA, 64, .inl D)), (q3, .inl (cA, 4, .inl R)), (q4, .inl (cA, 8, .inl K))]) [0, 1, 2, 3, 4] rfl
    have hDc := hD.sub (ws' := [(h0, .inr (0, [.ref q1, .ref q2, .ref q3, .ref q4, .int pc, .int sc, .int ph, .int rd, .int th, .int lm, .int dy, .int wt])), (q1, .inl (cA, 64, .inl S)), (q2, .inl (cA, 64, .inl D)), (q3, .inl (cA, 4, .inl R)), (q4, .inl (cA, 8, .inl K))]) [0, 1, 2, 3, 4] (by decide) rfl
    have hKc := hK.sub (tys' := [(cA, .int)]) [0] rfl
    have hFc := va_free (wc := [(h0, .inr (0, [.ref q1, .ref q2, .ref q3, .ref q4, .int pc, .int sc, .int ph, .int rd, .int th, .int lm, .int dy, .int wt])), (q1, .inl (cA, 64, .inl S)), (q2, .inl (cA, 64, .inl D)), (q3, .inl (cA, 4, .inl R)), (q4, .inl (cA, 8, .inl K))]) hD hS hA [0, 1, 2, 3, 4] rfl
    refine va_callv (va_runV (As := [.int (R v_5.toNatClampNeg)]) (rest := []) ⟨hx, hb, hml, hown, hts⟩ (c_X0_show l dC dI h0 q1 q2 q3 q4 cA S D R K pc sc ph rd th lm dy wt (R v_5.toNatClampNeg) H.size) (cwV 1 hts gX0_guestStep_X0_show rfl rfl rfl (by decide +kernel) ⟨Nat.le_of_ble_eq_true rfl, Nat.le_of_ble_eq_true rfl⟩) ⟨fun a U g mk q => by obtain ⟨q0, q1, qP, qK, qD⟩ := q; exact ⟨q0, q1, qP, va_K.moved (u := U) (U := U.calling g mk a) (Vm.Alike.refl U.vm) qK, qD⟩, va_recv hKc hPc (ci := 0) (q0 := 0) rfl rfl, fun U hU hW => ⟨rfl, by rw [hU], by rw [hU]; exact hPc, va_K.moved hW.alike hKc, hDc.weaken (fun _ _ _ _ => trivial)⟩⟩ rfl rfl hl.1 rfl (lv_room (Nat.le_of_ble_eq_true rfl)) dX0_guestStep_220 ⟨(Nat.zero_le _), (Nat.zero_le _)⟩) hS (fun q _ h => hFc q h) hFc (fun u_25 t H1 locs ht hvm w_26 hB hz1 hk1 hS => ?_)
    subst w_26
    obtain ⟨hP1, hK1, hD1⟩ := hB
    rw [ht] at hP1
    obtain ⟨hP, hD⟩ := va_join (wr := []) (w1 := [(h0, .inr (0, [.ref q1, .ref q2, .ref q3, .ref q4, .int pc, .int (sc + 1), .int ph, .int rd, .int th, .int lm, .int dy, .int wt])), (q1, .inl (cA, 64, .inl S)), (q2, .inl (cA, 64, .inl D)), (q3, .inl (cA, 4, .inl R)), (q4, .inl (cA, 8, .inl (upd K (sc &&& 7).toNatClampNeg (R v_5.toNatClampNeg))))]) hP hD [0, 1, 2, 3, 4] [] rfl rfl (by decide) (by decide) hk1 hFc hP1 hD1
    clear hPc hDc hFc hP1 hD1 hk1 hK1
    generalize H1 = H at hP hS ⊢
    have hP : va_P (dC, dI) vwCl [(h0, .inr (0, [.ref q1, .ref q2, .ref q3, .ref q4, .int pc, .int (sc + 1), .int ph, .int rd, .int th, .int lm, .int dy, .int wt])), (q1, .inl (cA, 64, .inl S)), (q2, .inl (cA, 64, .inl D)), (q3, .inl (cA, 4, .inl R)), (q4, .inl (cA, 8, .inl (upd K (sc &&& 7).toNatClampNeg (R v_5.toNatClampNeg))))] H := hP
    have hD : va_D A [(h0, .inr (0, [.ref q1, .ref q2, .ref q3, .ref q4, .int pc, .int (sc + 1), .int ph, .int rd, .int th, .int lm, .int dy, .int wt])), (q1, .inl (cA, 64, .inl S)), (q2, .inl (cA, 64, .inl D)), (q3, .inl (cA, 4, .inl R)), (q4, .inl (cA, 8, .inl (upd K (sc &&& 7).toNatClampNeg (R v_5.toNatClampNeg))))] := hD
    refine lv_aload_n hx hb dX0_guestStep_223 rfl (lv_at hl 5 rfl) ?_
    refine lv_iload hx hb dX0_guestStep_224 (lv_at hl 0 rfl) ?_
    refine lv_bipush (v := 63) hx hb dX0_guestStep_226 (by decide) ?_
    refine lv_iand hx hb dX0_guestStep_228 ?_
    refine va_put (D := (dC, dI)) (ci := 0) (v := .int (v_8 &&& 63)) (ty := .int) (C := RX0) (T := TX0) (N := 12) hx hb hts inw_X0_guestStep tyX0 tyX0_ok nmX0 hown hK hP hD hS 0 rfl rfl 4 (by decide) (hts (.fieldLink RX0 22 "Migrator" "programCounter" "I") (by decide +kernel)) (fun _ h9 => h9) rfl (by decide +kernel) rfl rfl (Nat.le_of_ble_eq_true rfl) dX0_guestStep_229 (fun H locs hP hD hS => ?_)
    have hP : va_P (dC, dI) vwCl [(h0, .inr (0, [.ref q1, .ref q2, .ref q3, .ref q4, .int (v_8 &&& 63), .int (sc + 1), .int ph, .int rd, .int th, .int lm, .int dy, .int wt])), (q1, .inl (cA, 64, .inl S)), (q2, .inl (cA, 64, .inl D)), (q3, .inl (cA, 4, .inl R)), (q4, .inl (cA, 8, .inl (upd K (sc &&& 7).toNatClampNeg (R v_5.toNatClampNeg))))] H := hP
    have hD : va_D A [(h0, .inr (0, [.ref q1, .ref q2, .ref q3, .ref q4, .int (v_8 &&& 63), .int (sc + 1), .int ph, .int rd, .int th, .int lm, .int dy, .int wt])), (q1, .inl (cA, 64, .inl S)), (q2, .inl (cA, 64, .inl D)), (q3, .inl (cA, 4, .inl R)), (q4, .inl (cA, 8, .inl (upd K (sc &&& 7).toNatClampNeg (R v_5.toNatClampNeg))))] := hD
    have z_27 : (S, D, R, upd K (sc &&& 7).toNatClampNeg (R v_5.toNatClampNeg), v_8 &&& 63, sc + 1, ph, rd, th, lm, dy, wt) = mg_step (S, D, R, K, pc, sc, ph, rd, th, lm, dy, wt) := by
      subst ev_5
      subst ev_6
      subst ev_7
      subst ev_8
      subst w_3
      show _ = mg_go (mg_rw S D ph pc &&& 7) (mg_rw S D ph pc) (S, D, R, K, pc, sc, ph, rd, th, lm, dy, wt)
      rw [o_9]
      rfl
    exact W.vret hx hb hr (fun t ht hW => ⟨⟨(S, D, R, upd K (sc &&& 7).toNatClampNeg (R v_5.toNatClampNeg), v_8 &&& 63, sc + 1, ph, rd, th, lm, dy, wt), rfl, z_27, by rw [ht]; exact hP, va_K.moved hW.alike hK, hD⟩, hS.F ht⟩) hS.2.2 dX0_guestStep_232
