theorem mr_wr_01 {F : Nat → Int32} (hF : ∀ j, F j = 0 ∨ F j = 1) (G : Nat → Int64) (sn : Int64) (i : Nat) : ∀ j, mr_wr G sn i F j = 0 ∨ mr_wr G sn i F j = 1 := by
  intro j
  unfold mr_wr
  by_cases h : j < i
  · rw [if_pos h]
    by_cases h2 : sn < G j
    · rw [if_pos h2]; exact Or.inr rfl
    · rw [if_neg h2]; exact Or.inl rfl
  · rw [if_neg h]; exact hF j
theorem mr_dt_1 {G : Nat → Int64} {F : Nat → Int32} {ph : Int32} {sn : Int64} {i : Nat} (hp : ph = 1) (hi : i < 8) : (mr_ip (nI i) ∧ mr_dt G F ph sn (nI i)) ↔ sn < G i := by
  unfold mr_ip mr_dt
  rw [nI_clamp (by omega)]
  constructor
  · rintro ⟨-, h | h⟩
    · exact h.2
    · exact absurd hp h.2.1
  · intro h
    exact ⟨⟨nI_pos (by omega), (show ¬ nI 7 < nI i from nI_nlt (by omega) (by omega))⟩, Or.inl ⟨hp, h⟩⟩
theorem inw_X1_run : ∀ w ∈ wsX10, w ∈ wsX1_run := fun _ h => List.mem_cons_of_mem _ (List.mem_append_right _ h)
set_option maxHeartbeats 4000000 in
set_option maxRecDepth 100000 in
theorem c_X1_run (l : Launch) (dC : Nat → ClassId) (dI : Nat → Nat → Nat) (h0 q1 q2 q3 q4 q5 q6 q7 q8 : Nat) (cA cJ cZ : ClassId) (M N C R : Nat → Int32) (G : Nat → Int64) (E F T : Nat → Int32) (pc ph rd th lm sh : Int32) (tm sn : Int64) (n : Int32) (hpc : vp_in pc 64) (sz : Nat) : Met l yX1_run wsX1_run ({ frames := 1, cells := 0, slots := 0, locals := 27 }) (va_Pc [.ref h0, .int n] (fun U => U.heap.size = sz ∧ va_P (dC, dI) vwCl (mr_W h0 q1 q2 q3 q4 q5 q6 q7 q8 cA cJ cZ (M, N, C, R, G, E, F, T, pc, ph, rd, th, lm, sh, tm, sn)) U.heap ∧ va_K (dC, dI) vwCl [(cA, .int), (cJ, .long), (cZ, .boolean)] U ∧ va_D (fun _ => True) (mr_W h0 q1 q2 q3 q4 q5 q6 q7 q8 cA cJ cZ (M, N, C, R, G, E, F, T, pc, ph, rd, th, lm, sh, tm, sn)))) (va_Qi (fun (r : Int32) (u : mrS) => (r = n ∧ mr_rn ph n ∧ u = mr_it n.toNatClampNeg (M, N, C, R, G, E, F, T, pc, ph, rd, th, lm, sh, tm, sn)) ∨ (r = 0 ∧ ¬ mr_rn ph n ∧ u = (M, N, C, R, G, E, F, T, pc, ph, rd, th, lm, sh, tm, sn))) (at_mr dC dI h0 q1 q2 q3 q4 q5 q6 q7 q8 cA cJ cZ (va_A (mr_W h0 q1 q2 q3 q4 q5 q6 q7 q8 cA cJ cZ (M, N, C, R, G, E, F, T, pc, ph, rd, th, lm, sh, tm, sn)) sz)) (va_A (mr_W h0 q1 q2 q3 q4 q5 q6 q7 q8 cA cJ cZ (M, N, C, R, G, E, F, T, pc, ph, rd, th, lm, sh, tm, sn)) sz)) 0 0 (va_A (mr_W h0 q1 q2 q3 q4 q5 q6 q7 q8 cA cJ cZ (M, N, C, R, G, E, F, T, pc, ph, rd, th, lm, sh, tm, sn)) sz) := by
  refine Met.ofW (cc := cX1_run) (maxL := 3) (ret := (some .int)) (by decide) rfl ?_
  intro p e s m args below meth c s₁ B hml hv
  obtain ⟨rfl, hsz, hP, hK, hD0⟩ := hv
  have hx := B.exec
  have hb := B.bytes
  have hr := B.returns
  have hts := atoms_spec (ws := wsX1_run) B.pre
  have hown : s.vm.findClass RX1 = some m.cls := findClass_of_methodNamed B.named
  have hlocks := B.notSynchronized
  subst hsz
  have hD := hD0.self (sz := s.heap.size)
  generalize hAe : va_A (mr_W h0 q1 q2 q3 q4 q5 q6 q7 q8 cA cJ cZ (M, N, C, R, G, E, F, T, pc, ph, rd, th, lm, sh, tm, sn)) s.heap.size = A at hD ⊢
  have hA : ∀ q : Nat, s.heap.size ≤ q → A q := fun q h => by rw [← hAe]; exact Or.inr h
  have hS : va_S A s.heap s.heap [] := va_S.rf
  have hP : va_P (dC, dI) vwCl [(h0, .inr (1, [.ref q1, .ref q2, .ref q3, .ref q4, .ref q5, .ref q6, .ref q7, .ref q8, .int pc, .int ph, .int rd, .int th, .int lm, .int sh, .long tm, .long sn])), (q1, .inl (cA, 64, .inl M)), (q2, .inl (cA, 64, .inl N)), (q3, .inl (cA, 64, .inl C)), (q4, .inl (cA, 4, .inl R)), (q5, .inl (cJ, 8, .inr (.inl G))), (q6, .inl (cZ, 8, .inl E)), (q7, .inl (cZ, 8, .inl F)), (q8, .inl (cA, 8, .inl T))] s.heap := hP
  have hD : va_D A [(h0, .inr (1, [.ref q1, .ref q2, .ref q3, .ref q4, .ref q5, .ref q6, .ref q7, .ref q8, .int pc, .int ph, .int rd, .int th, .int lm, .int sh, .long tm, .long sn])), (q1, .inl (cA, 64, .inl M)), (q2, .inl (cA, 64, .inl N)), (q3, .inl (cA, 64, .inl C)), (q4, .inl (cA, 4, .inl R)), (q5, .inl (cJ, 8, .inr (.inl G))), (q6, .inl (cZ, 8, .inl E)), (q7, .inl (cZ, 8, .inl F)), (q8, .inl (cA, 8, .inl T))] := hD
  have hl := lv_entry ([.ref h0, .int n]) (n := 3) (Nat.le_of_ble_eq_true rfl)
  rw [lg_entry_eq]
  generalize (lg_sl ([.ref h0, .int n]) ++ List.replicate (3 - (lg_sl ([.ref h0, .int n])).length) Slot.unset).toArray = ls at hl ⊢
  have hl : lv_has ls 3 [(0, .ref h0), (1, .int n)] := hl
  refine lv_iload_n hx hb dX1_run_0 rfl (lv_at hl 1 rfl) ?_
  refine lv_if_lt (tgt := 19) hx hb dX1_run_1 (by decide) (fun c_1 => ?_) (fun c_1 => ?_)
  · refine lv_iconst (v := 0) hx hb dX1_run_19 (by decide) ?_
    exact W.iret (v := 0) hx hb hr (fun t ht hW => ⟨⟨0, (M, N, C, R, G, E, F, T, pc, ph, rd, th, lm, sh, tm, sn), rfl, Or.inr ⟨rfl, fun h => h.1 c_1, rfl⟩, by rw [ht]; exact hP, va_K.moved hW.alike hK, hD⟩, hS.F ht⟩) hS.2.2 dX1_run_20
  · refine lv_iload_n hx hb dX1_run_4 rfl (lv_at hl 1 rfl) ?_
    refine lv_sipush (v := 1000) hx hb dX1_run_5 (by decide) ?_
    refine lv_icmp_gt (tgt := 19) hx hb dX1_run_8 (by decide) (fun c_2 => ?_) (fun c_2 => ?_)
    · refine lv_iconst (v := 0) hx hb dX1_run_19 (by decide) ?_
      exact W.iret (v := 0) hx hb hr (fun t ht hW => ⟨⟨0, (M, N, C, R, G, E, F, T, pc, ph, rd, th, lm, sh, tm, sn), rfl, Or.inr ⟨rfl, fun h => h.2.1 c_2, rfl⟩, by rw [ht]; exact hP, va_K.moved hW.alike hK, hD⟩, hS.F ht⟩) hS.2.2 dX1_run_20
    · refine lv_aload_n hx hb dX1_run_11 rfl (lv_at hl 0 rfl) ?_
      refine va_get (D := (dC, dI)) (ci := 1) (v := .int ph) (C := RX1) (T := TX1) (N := 16) hx hb hts inw_X1_run hown hK hP 0 rfl rfl 9 (by decide) (hts (.fieldLink RX1 36 "MigratorModel" "phase" "I") (by decide +kernel)) (fun _ h9 => h9) rfl dX1_run_12 ?_
      refine lv_iconst (v := 2) hx hb dX1_run_15 (by decide) ?_
      refine lv_icmp_ne (tgt := 21) hx hb dX1_run_16 (by decide) (fun c_3 => ?_) (fun c_3 => ?_)
      · refine lv_iconst (v := 0) hx hb dX1_run_21 (by decide) ?_
        refine lv_istore_n (lv' := [(2, .int 0), (0, .ref h0), (1, .int n)]) hx hb dX1_run_22 rfl hl (by decide) rfl (fun ls hl => ?_)
        obtain ⟨Nn, hNn, eNn⟩ := nI_of c_1
        have loop : ∀ (Q0 : State → Prop), (∀ (Mx : Nat → Int32) (Nx : Nat → Int32) (Cx : Nat → Int32) (Rx : Nat → Int32) (Gx : Nat → Int64) (Ex : Nat → Int32) (Fx : Nat → Int32) (Tx : Nat → Int32) (pcx : Int32) (phx : Int32) (rdx : Int32) (thx : Int32) (lmx : Int32) (shx : Int32) (tmx : Int64) (snx : Int64) (H : Heap) (locs : List Loc) (ls : Array Slot), (Mx, Nx, Cx, Rx, Gx, Ex, Fx, Tx, pcx, phx, rdx, thx, lmx, shx, tmx, snx) = mr_it Nn (M, N, C, R, G, E, F, T, pc, ph, rd, th, lm, sh, tm, sn) → va_P (dC, dI) vwCl [(h0, .inr (1, [.ref q1, .ref q2, .ref q3, .ref q4, .ref q5, .ref q6, .ref q7, .ref q8, .int pcx, .int phx, .int rdx, .int thx, .int lmx, .int shx, .long tmx, .long snx])), (q1, .inl (cA, 64, .inl Mx)), (q2, .inl (cA, 64, .inl Nx)), (q3, .inl (cA, 64, .inl Cx)), (q4, .inl (cA, 4, .inl Rx)), (q5, .inl (cJ, 8, .inr (.inl Gx))), (q6, .inl (cZ, 8, .inl Ex)), (q7, .inl (cZ, 8, .inl Fx)), (q8, .inl (cA, 8, .inl Tx))] H → va_D A [(h0, .inr (1, [.ref q1, .ref q2, .ref q3, .ref q4, .ref q5, .ref q6, .ref q7, .ref q8, .int pcx, .int phx, .int rdx, .int thx, .int lmx, .int shx, .long tmx, .long snx])), (q1, .inl (cA, 64, .inl Mx)), (q2, .inl (cA, 64, .inl Nx)), (q3, .inl (cA, 64, .inl Cx)), (q4, .inl (cA, 4, .inl Rx)), (q5, .inl (cJ, 8, .inr (.inl Gx))), (q6, .inl (cZ, 8, .inl Ex)), (q7, .inl (cZ, 8, .inl Fx)), (q8, .inl (cA, 8, .inl Tx))] → va_S A s.heap H locs → lv_has ls 3 [(2, .int (nI Nn)), (0, .ref h0), (1, .int n)] → W p l e (headSpec wsX1_run { frames := 1, cells := 0, slots := 0, locals := 27 }).room s m ([.ref h0, .int n] : List Value).toArray below meth c H locs 0 0 Q0 (F0 m 38 ls [])) → ∀ (kx ix : Nat) (Mx : Nat → Int32) (Nx : Nat → Int32) (Cx : Nat → Int32) (Rx : Nat → Int32) (Gx : Nat → Int64) (Ex : Nat → Int32) (Fx : Nat → Int32) (Tx : Nat → Int32) (pcx : Int32) (phx : Int32) (rdx : Int32) (thx : Int32) (lmx : Int32) (shx : Int32) (tmx : Int64) (snx : Int64) (H : Heap) (locs : List Loc) (ls : Array Slot), ix + kx = Nn → (Mx, Nx, Cx, Rx, Gx, Ex, Fx, Tx, pcx, phx, rdx, thx, lmx, shx, tmx, snx) = mr_it ix (M, N, C, R, G, E, F, T, pc, ph, rd, th, lm, sh, tm, sn) → va_P (dC, dI) vwCl [(h0, .inr (1, [.ref q1, .ref q2, .ref q3, .ref q4, .ref q5, .ref q6, .ref q7, .ref q8, .int pcx, .int phx, .int rdx, .int thx, .int lmx, .int shx, .long tmx, .long snx])), (q1, .inl (cA, 64, .inl Mx)), (q2, .inl (cA, 64, .inl Nx)), (q3, .inl (cA, 64, .inl Cx)), (q4, .inl (cA, 4, .inl Rx)), (q5, .inl (cJ, 8, .inr (.inl Gx))), (q6, .inl (cZ, 8, .inl Ex)), (q7, .inl (cZ, 8, .inl Fx)), (q8, .inl (cA, 8, .inl Tx))] H → va_D A [(h0, .inr (1, [.ref q1, .ref q2, .ref q3, .ref q4, .ref q5, .ref q6, .ref q7, .ref q8, .int pcx, .int phx, .int rdx, .int thx, .int lmx, .int shx, .long tmx, .long snx])), (q1, .inl (cA, 64, .inl Mx)), (q2, .inl (cA, 64, .inl Nx)), (q3, .inl (cA, 64, .inl Cx)), (q4, .inl (cA, 4, .inl Rx)), (q5, .inl (cJ, 8, .inr (.inl Gx))), (q6, .inl (cZ, 8, .inl Ex)), (q7, .inl (cZ, 8, .inl Fx)), (q8, .inl (cA, 8, .inl Tx))] → va_S A s.heap H locs → lv_has ls 3 [(2, .int (nI ix)), (0, .ref h0), (1, .int n)] → W p l e (headSpec wsX1_run { frames := 1, cells := 0, slots := 0, locals := 27 }).room s m ([.ref h0, .int n] : List Value).toArray below meth c H locs 0 0 Q0 (F0 m 23 ls []) := by
          intro Q0 hQ kx
          induction kx with
          | zero =>
            intro ix Mx Nx Cx Rx Gx Ex Fx Tx pcx phx rdx thx lmx shx tmx snx H locs ls hk hi hP hD hS hl
            have hz : ix = Nn := by omega
            subst hz
            refine lv_iload_n hx hb dX1_run_23 rfl (lv_at hl 0 rfl) ?_
            refine lv_iload_n hx hb dX1_run_24 rfl (lv_at hl 2 rfl) ?_
            refine lv_icmp_ge (tgt := 38) hx hb dX1_run_25 (by decide) (fun c_4 => ?_) (fun c_4 => ?_)
            · exact hQ Mx Nx Cx Rx Gx Ex Fx Tx pcx phx rdx thx lmx shx tmx snx H locs ls hi hP hD hS hl
            · exact absurd (by rw [eNn]; exact nI_le (Nat.le_refl _) hNn) c_4
          | succ kx ih =>
            intro ix Mx Nx Cx Rx Gx Ex Fx Tx pcx phx rdx thx lmx shx tmx snx H locs ls hk hi hP hD hS hl
            have hpx : vp_in pcx 64 := by
              have hq := mr_it_pc ix (M, N, C, R, G, E, F, T, pc, ph, rd, th, lm, sh, tm, sn) hpc
              rw [← hi] at hq
              exact hq
            refine lv_iload_n hx hb dX1_run_23 rfl (lv_at hl 0 rfl) ?_
            refine lv_iload_n hx hb dX1_run_24 rfl (lv_at hl 2 rfl) ?_
            refine lv_icmp_ge (tgt := 38) hx hb dX1_run_25 (by decide) (fun c_104 => ?_) (fun c_104 => ?_)
            · exact absurd (by rw [eNn] at c_104; exact c_104) (nI_ge (show ix < Nn by omega) hNn)
            · refine lv_aload_n hx hb dX1_run_28 rfl (lv_at hl 1 rfl) ?_
              have hPc := hP.sub (ws' := [(h0, .inr (1, [.ref q1, .ref q2, .ref q3, .ref q4, .ref q5, .ref q6, .ref q7, .ref q8, .int pcx, .int phx, .int rdx, .int thx, .int lmx, .int shx, .long tmx, .long snx])), (q1, .inl (cA, 64, .inl Mx)), (q2, .inl (cA, 64, .inl Nx)), (q3, .inl (cA, 64, .inl Cx)), (q4, .inl (cA, 4, .inl Rx)), (q5, .inl (cJ, 8, .inr (.inl Gx))), (q6, .inl (cZ, 8, .inl Ex)), (q7, .inl (cZ, 8, .inl Fx)), (q8, .inl (cA, 8, .inl Tx))]) [0, 1, 2, 3, 4, 5, 6, 7, 8] rfl
              have hDc := hD.sub (ws' := [(h0, .inr (1, [.ref q1, .ref q2, .ref q3, .ref q4, .ref q5, .ref q6, .ref q7, .ref q8, .int pcx, .int phx, .int rdx, .int thx, .int lmx, .int shx, .long tmx, .long snx])), (q1, .inl (cA, 64, .inl Mx)), (q2, .inl (cA, 64, .inl Nx)), (q3, .inl (cA, 64, .inl Cx)), (q4, .inl (cA, 4, .inl Rx)), (q5, .inl (cJ, 8, .inr (.inl Gx))), (q6, .inl (cZ, 8, .inl Ex)), (q7, .inl (cZ, 8, .inl Fx)), (q8, .inl (cA, 8, .inl Tx))]) [0, 1, 2, 3, 4, 5, 6, 7, 8] (by decide) rfl
              have hKc := hK.sub (tys' := [(cA, .int), (cJ, .long), (cZ, .boolean)]) [0, 1, 2] rfl
              have hFc := va_free (wc := [(h0, .inr (1, [.ref q1, .ref q2, .ref q3, .ref q4, .ref q5, .ref q6, .ref q7, .ref q8, .int pcx, .int phx, .int rdx, .int thx, .int lmx, .int shx, .long tmx, .long snx])), (q1, .inl (cA, 64, .inl Mx)), (q2, .inl (cA, 64, .inl Nx)), (q3, .inl (cA, 64, .inl Cx)), (q4, .inl (cA, 4, .inl Rx)), (q5, .inl (cJ, 8, .inr (.inl Gx))), (q6, .inl (cZ, 8, .inl Ex)), (q7, .inl (cZ, 8, .inl Fx)), (q8, .inl (cA, 8, .inl Tx))]) hD hS hA [0, 1, 2, 3, 4, 5, 6, 7, 8] rfl
              refine va_callv (va_runV (As := []) (rest := []) ⟨hx, hb, hml, hown, hts⟩ (c_X1_step l dC dI h0 q1 q2 q3 q4 q5 q6 q7 q8 cA cJ cZ Mx Nx Cx Rx Gx Ex Fx Tx pcx phx rdx thx lmx shx tmx snx hpx H.size) (cwV 0 hts gX1_run_X1_step rfl rfl rfl (by decide +kernel) ⟨Nat.le_of_ble_eq_true rfl, Nat.le_of_ble_eq_true rfl⟩) ⟨fun a U g mk q => by obtain ⟨q0, q1, qP, qK, qD⟩ := q; exact ⟨q0, q1, qP, va_K.moved (u := U) (U := U.calling g mk a) (Vm.Alike.refl U.vm) qK, qD⟩, va_recv hKc hPc (ci := 1) (q0 := 0) rfl rfl, fun U hU hW => ⟨rfl, by rw [hU], by rw [hU]; exact hPc, va_K.moved hW.alike hKc, hDc.weaken (fun _ _ _ _ => trivial)⟩⟩ rfl rfl hl.1 rfl (lv_room (Nat.le_of_ble_eq_true rfl)) dX1_run_29 ⟨(Nat.zero_le _), (Nat.zero_le _)⟩) hS (fun q _ h => hFc q h) hFc (fun u_105 t H1 locs ht hvm w_106 hB hz1 hk1 hS => ?_)
              obtain ⟨M_107, N_108, C_109, R_110, G_111, E_112, F_113, T_114, pc_115, ph_116, rd_117, th_118, lm_119, sh_120, tm_121, sn_122⟩ := u_105
              obtain ⟨hP1, hK1, hD1⟩ := hB
              rw [ht] at hP1
              obtain ⟨hP, hD⟩ := va_join (wr := []) (w1 := [(h0, .inr (1, [.ref q1, .ref q2, .ref q3, .ref q4, .ref q5, .ref q6, .ref q7, .ref q8, .int pc_115, .int ph_116, .int rd_117, .int th_118, .int lm_119, .int sh_120, .long tm_121, .long sn_122])), (q1, .inl (cA, 64, .inl M_107)), (q2, .inl (cA, 64, .inl N_108)), (q3, .inl (cA, 64, .inl C_109)), (q4, .inl (cA, 4, .inl R_110)), (q5, .inl (cJ, 8, .inr (.inl G_111))), (q6, .inl (cZ, 8, .inl E_112)), (q7, .inl (cZ, 8, .inl F_113)), (q8, .inl (cA, 8, .inl T_114))]) hP hD [0, 1, 2, 3, 4, 5, 6, 7, 8] [] rfl rfl (by decide) (by decide) hk1 hFc hP1 hD1
              clear hPc hDc hFc hP1 hD1 hk1 hK1
              generalize H1 = H at hP hS ⊢
              have hP : va_P (dC, dI) vwCl [(h0, .inr (1, [.ref q1, .ref q2, .ref q3, .ref q4, .ref q5, .ref q6, .ref q7, .ref q8, .int pc_115, .int ph_116, .int rd_117, .int th_118, .int lm_119, .int sh_120, .long tm_121, .long sn_122])), (q1, .inl (cA, 64, .inl M_107)), (q2, .inl (cA, 64, .inl N_108)), (q3, .inl (cA, 64, .inl C_109)), (q4, .inl (cA, 4, .inl R_110)), (q5, .inl (cJ, 8, .inr (.inl G_111))), (q6, .inl (cZ, 8, .inl E_112)), (q7, .inl (cZ, 8, .inl F_113)), (q8, .inl (cA, 8, .inl T_114))] H := hP
              have hD : va_D A [(h0, .inr (1, [.ref q1, .ref q2, .ref q3, .ref q4, .ref q5, .ref q6, .ref q7, .ref q8, .int pc_115, .int ph_116, .int rd_117, .int th_118, .int lm_119, .int sh_120, .long tm_121, .long sn_122])), (q1, .inl (cA, 64, .inl M_107)), (q2, .inl (cA, 64, .inl N_108)), (q3, .inl (cA, 64, .inl C_109)), (q4, .inl (cA, 4, .inl R_110)), (q5, .inl (cJ, 8, .inr (.inl G_111))), (q6, .inl (cZ, 8, .inl E_112)), (q7, .inl (cZ, 8, .inl F_113)), (q8, .inl (cA, 8, .inl T_114))] := hD
              refine lv_iinc (v := (nI ix) + 1) (lv' := [(2, .int ((nI ix) + 1)), (0, .ref h0), (1, .int n)]) hx hb dX1_run_32 hl (k := 0) rfl rfl (by decide) rfl (fun ls hl => ?_)
              refine lv_goto (tgt := 23) hx hb dX1_run_35 (by decide) ?_
              exact ih (ix + 1) M_107 N_108 C_109 R_110 G_111 E_112 F_113 T_114 pc_115 ph_116 rd_117 th_118 lm_119 sh_120 tm_121 sn_122 H locs ls (by omega) (w_106.trans (by rw [hi]; rfl)) hP hD hS (by rw [← nI_1]; exact hl)
        refine loop _ (fun Mx Nx Cx Rx Gx Ex Fx Tx pcx phx rdx thx lmx shx tmx snx H locs ls hi hP hD hS hl => ?_) Nn 0 M N C R G E F T pc ph rd th lm sh tm sn _ _ _ (by omega) rfl hP hD hS hl
        refine lv_iload_n hx hb dX1_run_38 rfl (lv_at hl 2 rfl) ?_
        exact W.iret (v := n) hx hb hr (fun t ht hW => ⟨⟨n, (Mx, Nx, Cx, Rx, Gx, Ex, Fx, Tx, pcx, phx, rdx, thx, lmx, shx, tmx, snx), rfl, Or.inl ⟨rfl, ⟨c_1, c_2, c_3⟩, by rw [eNn, nI_clamp hNn]; exact hi⟩, by rw [ht]; exact hP, va_K.moved hW.alike hK, hD⟩, hS.F ht⟩) hS.2.2 dX1_run_39
      · refine lv_iconst (v := 0) hx hb dX1_run_19 (by decide) ?_
        exact W.iret (v := 0) hx hb hr (fun t ht hW => ⟨⟨0, (M, N, C, R, G, E, F, T, pc, ph, rd, th, lm, sh, tm, sn), rfl, Or.inr ⟨rfl, fun h => h.2.2 c_3, rfl⟩, by rw [ht]; exact hP, va_K.moved hW.alike hK, hD⟩, hS.F ht⟩) hS.2.2 dX1_run_20
theorem inw_X1_copy : ∀ w ∈ wsX10, w ∈ wsX1_copy := fun _ h => List.mem_cons_of_mem _ (List.mem_append_right _ h)
set_option maxHeartbeats 4000000 in
set_option maxRecDepth 100000 in
theorem c_X1_copy (l : Launch) (dC : Nat → ClassId) (dI : Nat → Nat → Nat) (h0 q1 q2 q3 q4 q5 q6 q7 q8 : Nat) (cA cJ cZ : ClassId) (M N C R : Nat → Int32) (G : Nat → Int64) (E F T : Nat → Int32) (pc ph rd th lm sh : Int32) (tm sn : Int64) (hph : ph = 0 ∨ ph = 1 ∨ ph = 2 ∨ ph = 3) (hF : ∀ j, F j = 0 ∨ F j = 1) (sz : Nat) : Met l yX1_copy wsX1_copy ({ frames := 1, cells := 0, slots := 0, locals := 21 }) (va_Pc [.ref h0] (fun U => U.heap.size = sz ∧ va_P (dC, dI) vwCl (mr_W h0 q1 q2 q3 q4 q5 q6 q7 q8 cA cJ cZ (M, N, C, R, G, E, F, T, pc, ph, rd, th, lm, sh, tm, sn)) U.heap ∧ va_K (dC, dI) vwCl [(cA, .int), (cJ, .long), (cZ, .boolean)] U ∧ va_D (fun _ => True) (mr_W h0 q1 q2 q3 q4 q5 q6 q7 q8 cA cJ cZ (M, N, C, R, G, E, F, T, pc, ph, rd, th, lm, sh, tm, sn)))) (va_Qi (fun (r : Int32) (u : mrS) => mr_cyP M N C R G E F T pc ph rd th lm sh tm sn r u) (at_mr dC dI h0 q1 q2 q3 q4 q5 q6 q7 q8 cA cJ cZ (va_A (mr_W h0 q1 q2 q3 q4 q5 q6 q7 q8 cA cJ cZ (M, N, C, R, G, E, F, T, pc, ph, rd, th, lm, sh, tm, sn)) sz)) (va_A (mr_W h0 q1 q2 q3 q4 q5 q6 q7 q8 cA cJ cZ (M, N, C, R, G, E, F, T, pc, ph, rd, th, lm, sh, tm, sn)) sz)) 0 0 (va_A (mr_W h0 q1 q2 q3 q4 q5 q6 q7 q8 cA cJ cZ (M, N, C, R, G, E, F, T, pc, ph, rd, th, lm, sh, tm, sn)) sz) := by
  refine Met.ofW (cc := cX1_copy) (maxL := 3) (ret := (some .int)) (by decide) rfl ?_
  intro p e s m args below meth c s₁ B hml hv
  obtain ⟨rfl, hsz, hP, hK, hD0⟩ := hv
  have hx := B.exec
  have hb := B.bytes
  have hr := B.returns
  have hts := atoms_spec (ws := wsX1_copy) B.pre
  have hown : s.vm.findClass RX1 = some m.cls := findClass_of_methodNamed B.named
  have hlocks := B.notSynchronized
  subst hsz
  have hD := hD0.self (sz := s.heap.size)
  generalize hAe : va_A (mr_W h0 q1 q2 q3 q4 q5 q6 q7 q8 cA cJ cZ (M, N, C, R, G, E, F, T, pc, ph, rd, th, lm, sh, tm, sn)) s.heap.size = A at hD ⊢
  have hA : ∀ q : Nat, s.heap.size ≤ q → A q := fun q h => by rw [← hAe]; exact Or.inr h
  have hS : va_S A s.heap s.heap [] := va_S.rf
  have hP : va_P (dC, dI) vwCl [(h0, .inr (1, [.ref q1, .ref q2, .ref q3, .ref q4, .ref q5, .ref q6, .ref q7, .ref q8, .int pc, .int ph, .int rd, .int th, .int lm, .int sh, .long tm, .long sn])), (q1, .inl (cA, 64, .inl M)), (q2, .inl (cA, 64, .inl N)), (q3, .inl (cA, 64, .inl C)), (q4, .inl (cA, 4, .inl R)), (q5, .inl (cJ, 8, .inr (.inl G))), (q6, .inl (cZ, 8, .inl E)), (q7, .inl (cZ, 8, .inl F)), (q8, .inl (cA, 8, .inl T))] s.heap := hP
  have hD : va_D A [(h0, .inr (1, [.ref q1, .ref q2, .ref q3, .ref q4, .ref q5, .ref q6, .ref q7, .ref q8, .int pc, .int ph, .int rd, .int th, .int lm, .int sh, .long tm, .long sn])), (q1, .inl (cA, 64, .inl M)), (q2, .inl (cA, 64, .inl N)), (q3, .inl (cA, 64, .inl C)), (q4, .inl (cA, 4, .inl R)), (q5, .inl (cJ, 8, .inr (.inl G))), (q6, .inl (cZ, 8, .inl E)), (q7, .inl (cZ, 8, .inl F)), (q8, .inl (cA, 8, .inl T))] := hD
  have hl := lv_entry ([.ref h0]) (n := 3) (Nat.le_of_ble_eq_true rfl)
  rw [lg_entry_eq]
  generalize (lg_sl ([.ref h0]) ++ List.replicate (3 - (lg_sl ([.ref h0])).length) Slot.unset).toArray = ls at hl ⊢
  have hl : lv_has ls 3 [(0, .ref h0)] := hl
  refine lv_aload_n hx hb dX1_copy_0 rfl (lv_at hl 0 rfl) ?_
  refine va_get (D := (dC, dI)) (ci := 1) (v := .int ph) (C := RX1) (T := TX1) (N := 16) hx hb hts inw_X1_copy hown hK hP 0 rfl rfl 9 (by decide) (hts (.fieldLink RX1 36 "MigratorModel" "phase" "I") (by decide +kernel)) (fun _ h9 => h9) rfl dX1_copy_1 ?_
  refine lv_if_eq (tgt := 15) hx hb dX1_copy_4 (by decide) (fun c_1 => ?_) (fun c_1 => ?_)
  · refine lv_iconst (v := (-1)) hx hb dX1_copy_15 (by decide) ?_
    exact W.iret (v := (-1)) hx hb hr (fun t ht hW => ⟨⟨(-1), (M, N, C, R, G, E, F, T, pc, ph, rd, th, lm, sh, tm, sn), rfl, Or.inl ⟨Or.inl c_1, rfl, rfl⟩, by rw [ht]; exact hP, va_K.moved hW.alike hK, hD⟩, hS.F ht⟩) hS.2.2 dX1_copy_16
  · refine lv_aload_n hx hb dX1_copy_7 rfl (lv_at hl 0 rfl) ?_
    refine va_get (D := (dC, dI)) (ci := 1) (v := .int ph) (C := RX1) (T := TX1) (N := 16) hx hb hts inw_X1_copy hown hK hP 0 rfl rfl 9 (by decide) (hts (.fieldLink RX1 36 "MigratorModel" "phase" "I") (by decide +kernel)) (fun _ h9 => h9) rfl dX1_copy_8 ?_
    refine lv_iconst (v := 3) hx hb dX1_copy_11 (by decide) ?_
    refine lv_icmp_ne (tgt := 17) hx hb dX1_copy_12 (by decide) (fun c_2 => ?_) (fun c_2 => ?_)
    · refine lv_iconst (v := 0) hx hb dX1_copy_17 (by decide) ?_
      refine lv_istore_n (lv' := [(1, .int 0), (0, .ref h0)]) hx hb dX1_copy_18 rfl hl (by decide) rfl (fun ls hl => ?_)
      have loop : (∀  (H : Heap) (locs : List Loc) (ls : Array Slot), (∀ k, k < 8 → E k = 0) → va_P (dC, dI) vwCl [(h0, .inr (1, [.ref q1, .ref q2, .ref q3, .ref q4, .ref q5, .ref q6, .ref q7, .ref q8, .int pc, .int ph, .int rd, .int th, .int lm, .int sh, .long tm, .long sn])), (q1, .inl (cA, 64, .inl M)), (q2, .inl (cA, 64, .inl N)), (q3, .inl (cA, 64, .inl C)), (q4, .inl (cA, 4, .inl R)), (q5, .inl (cJ, 8, .inr (.inl G))), (q6, .inl (cZ, 8, .inl E)), (q7, .inl (cZ, 8, .inl F)), (q8, .inl (cA, 8, .inl T))] H → va_D A [(h0, .inr (1, [.ref q1, .ref q2, .ref q3, .ref q4, .ref q5, .ref q6, .ref q7, .ref q8, .int pc, .int ph, .int rd, .int th, .int lm, .int sh, .long tm, .long sn])), (q1, .inl (cA, 64, .inl M)), (q2, .inl (cA, 64, .inl N)), (q3, .inl (cA, 64, .inl C)), (q4, .inl (cA, 4, .inl R)), (q5, .inl (cJ, 8, .inr (.inl G))), (q6, .inl (cZ, 8, .inl E)), (q7, .inl (cZ, 8, .inl F)), (q8, .inl (cA, 8, .inl T))] → va_S A s.heap H locs → lv_has ls 3 [(1, .int (nI 8)), (0, .ref h0)] → W p l e (headSpec wsX1_copy { frames := 1, cells := 0, slots := 0, locals := 21 }).room s m ([.ref h0] : List Value).toArray below meth c H locs 0 0 (MQ below (va_Qi (fun (r : Int32) (u : mrS) => mr_cyP M N C R G E F T pc ph rd th lm sh tm sn r u) (at_mr dC dI h0 q1 q2 q3 q4 q5 q6 q7 q8 cA cJ cZ A) A) ([.ref h0] : List Value).toArray s 0 0 A) (F0 m 85 ls [])) → ∀ (kx ix : Nat)  (H : Heap) (locs : List Loc) (ls : Array Slot), ix + kx = 8 → (∀ k, k < ix → E k = 0) → va_P (dC, dI) vwCl [(h0, .inr (1, [.ref q1, .ref q2, .ref q3, .ref q4, .ref q5, .ref q6, .ref q7, .ref q8, .int pc, .int ph, .int rd, .int th, .int lm, .int sh, .long tm, .long sn])), (q1, .inl (cA, 64, .inl M)), (q2, .inl (cA, 64, .inl N)), (q3, .inl (cA, 64, .inl C)), (q4, .inl (cA, 4, .inl R)), (q5, .inl (cJ, 8, .inr (.inl G))), (q6, .inl (cZ, 8, .inl E)), (q7, .inl (cZ, 8, .inl F)), (q8, .inl (cA, 8, .inl T))] H → va_D A [(h0, .inr (1, [.ref q1, .ref q2, .ref q3, .ref q4, .ref q5, .ref q6, .ref q7, .ref q8, .int pc, .int ph, .int rd, .int th, .int lm, .int sh, .long tm, .long sn])), (q1, .inl (cA, 64, .inl M)), (q2, .inl (cA, 64, .inl N)), (q3, .inl (cA, 64, .inl C)), (q4, .inl (cA, 4, .inl R)), (q5, .inl (cJ, 8, .inr (.inl G))), (q6, .inl (cZ, 8, .inl E)), (q7, .inl (cZ, 8, .inl F)), (q8, .inl (cA, 8, .inl T))] → va_S A s.heap H locs → lv_has ls 3 [(1, .int (nI ix)), (0, .ref h0)] → W p l e (headSpec wsX1_copy { frames := 1, cells := 0, slots := 0, locals := 21 }).room s m ([.ref h0] : List Value).toArray below meth c H locs 0 0 (MQ below (va_Qi (fun (r : Int32) (u : mrS) => mr_cyP M N C R G E F T pc ph rd th lm sh tm sn r u) (at_mr dC dI h0 q1 q2 q3 q4 q5 q6 q7 q8 cA cJ cZ A) A) ([.ref h0] : List Value).toArray s 0 0 A) (F0 m 19 ls []) := by
        intro hQ kx
        induction kx with
        | zero =>
          intro ix  H locs ls hk hi0 hP hD hS hl
          have hz : ix = 8 := by omega
          subst hz
          refine lv_iload_n hx hb dX1_copy_19 rfl (lv_at hl 0 rfl) ?_
          refine lv_bipush (v := 8) hx hb dX1_copy_20 (by decide) ?_
          refine lv_icmp_ge (tgt := 85) hx hb dX1_copy_22 (by decide) (fun c_103 => ?_) (fun c_103 => ?_)
          · exact hQ  H locs ls hi0 hP hD hS hl
          · exact absurd (by decide) c_103
        | succ kx ih =>
          intro ix  H locs ls hk hi0 hP hD hS hl
          have hix : ix < 8 := by omega
          refine lv_iload_n hx hb dX1_copy_19 rfl (lv_at hl 0 rfl) ?_
          refine lv_bipush (v := 8) hx hb dX1_copy_20 (by decide) ?_
          refine lv_icmp_ge (tgt := 85) hx hb dX1_copy_22 (by decide) (fun c_204 => ?_) (fun c_204 => ?_)
          · exact absurd c_204 (nI_ge hix (by decide))
          · refine lv_aload_n hx hb dX1_copy_25 rfl (lv_at hl 1 rfl) ?_
            refine va_get (D := (dC, dI)) (ci := 1) (v := .ref q6) (C := RX1) (T := TX1) (N := 16) hx hb hts inw_X1_copy hown hK hP 0 rfl rfl 5 (by decide) (hts (.fieldLink RX1 26 "MigratorModel" "want" "[Z") (by decide +kernel)) (fun _ h9 => h9) rfl dX1_copy_26 ?_
            refine lv_iload_n hx hb dX1_copy_29 rfl (lv_at hl 0 rfl) ?_
            refine va_zald hx hb hK hP 6 2 rfl rfl (vp_in_nI hix (by decide)) dX1_copy_30 ?_
            refine lv_if_eq (tgt := 79) hx hb dX1_copy_31 (by decide) (fun c_205 => ?_) (fun c_205 => ?_)
            · refine lv_iinc (v := (nI ix) + 1) (lv' := [(1, .int ((nI ix) + 1)), (0, .ref h0)]) hx hb dX1_copy_79 hl (k := 0) rfl rfl (by decide) rfl (fun ls hl => ?_)
              refine lv_goto (tgt := 19) hx hb dX1_copy_82 (by decide) ?_
              exact ih (ix + 1)  H locs ls (by omega) (lt_s (p := fun k => E k = 0) hi0 (by rw [← nI_clamp (show ix < 2 ^ 31 by omega)]; exact c_205)) hP hD hS (by rw [← nI_1]; exact lv_sub hl [0, 1] rfl)
            · refine lv_iconst (v := 0) hx hb dX1_copy_34 (by decide) ?_
              refine lv_istore_n (lv' := [(2, .int 0), (1, .int (nI ix)), (0, .ref h0)]) hx hb dX1_copy_35 rfl hl (by decide) rfl (fun ls hl => ?_)
              have loopI : ∀ (Q0 : State → Prop), (∀ (Cx : Nat → Int32) (H : Heap) (locs : List Loc) (ls : Array Slot), Cx = mr_cw M (8 * ix) 8 C → va_P (dC, dI) vwCl [(h0, .inr (1, [.ref q1, .ref q2, .ref q3, .ref q4, .ref q5, .ref q6, .ref q7, .ref q8, .int pc, .int ph, .int rd, .int th, .int lm, .int sh, .long tm, .long sn])), (q1, .inl (cA, 64, .inl M)), (q2, .inl (cA, 64, .inl N)), (q3, .inl (cA, 64, .inl Cx)), (q4, .inl (cA, 4, .inl R)), (q5, .inl (cJ, 8, .inr (.inl G))), (q6, .inl (cZ, 8, .inl E)), (q7, .inl (cZ, 8, .inl F)), (q8, .inl (cA, 8, .inl T))] H → va_D A [(h0, .inr (1, [.ref q1, .ref q2, .ref q3, .ref q4, .ref q5, .ref q6, .ref q7, .ref q8, .int pc, .int ph, .int rd, .int th, .int lm, .int sh, .long tm, .long sn])), (q1, .inl (cA, 64, .inl M)), (q2, .inl (cA, 64, .inl N)), (q3, .inl (cA, 64, .inl Cx)), (q4, .inl (cA, 4, .inl R)), (q5, .inl (cJ, 8, .inr (.inl G))), (q6, .inl (cZ, 8, .inl E)), (q7, .inl (cZ, 8, .inl F)), (q8, .inl (cA, 8, .inl T))] → va_S A s.heap H locs → lv_has ls 3 [(2, .int (nI 8)), (1, .int (nI ix)), (0, .ref h0)] → W p l e (headSpec wsX1_copy { frames := 1, cells := 0, slots := 0, locals := 21 }).room s m ([.ref h0] : List Value).toArray below meth c H locs 0 0 Q0 (F0 m 70 ls [])) → ∀ (lx jx : Nat) (Cx : Nat → Int32) (H : Heap) (locs : List Loc) (ls : Array Slot), jx + lx = 8 → Cx = mr_cw M (8 * ix) jx C → va_P (dC, dI) vwCl [(h0, .inr (1, [.ref q1, .ref q2, .ref q3, .ref q4, .ref q5, .ref q6, .ref q7, .ref q8, .int pc, .int ph, .int rd, .int th, .int lm, .int sh, .long tm, .long sn])), (q1, .inl (cA, 64, .inl M)), (q2, .inl (cA, 64, .inl N)), (q3, .inl (cA, 64, .inl Cx)), (q4, .inl (cA, 4, .inl R)), (q5, .inl (cJ, 8, .inr (.inl G))), (q6, .inl (cZ, 8, .inl E)), (q7, .inl (cZ, 8, .inl F)), (q8, .inl (cA, 8, .inl T))] H → va_D A [(h0, .inr (1, [.ref q1, .ref q2, .ref q3, .ref q4, .ref q5, .ref q6, .ref q7, .ref q8, .int pc, .int ph, .int rd, .int th, .int lm, .int sh, .long tm, .long sn])), (q1, .inl (cA, 64, .inl M)), (q2, .inl (cA, 64, .inl N)), (q3, .inl (cA, 64, .inl Cx)), (q4, .inl (cA, 4, .inl R)), (q5, .inl (cJ, 8, .inr (.inl G))), (q6, .inl (cZ, 8, .inl E)), (q7, .inl (cZ, 8, .inl F)), (q8, .inl (cA, 8, .inl T))] → va_S A s.heap H locs → lv_has ls 3 [(2, .int (nI jx)), (1, .int (nI ix)), (0, .ref h0)] → W p l e (headSpec wsX1_copy { frames := 1, cells := 0, slots := 0, locals := 21 }).room s m ([.ref h0] : List Value).toArray below meth c H locs 0 0 Q0 (F0 m 36 ls []) := by
                intro Q0 hQ lx
                induction lx with
                | zero =>
                  intro jx Cx H locs ls hk hj0 hP hD hS hl
                  have hz : jx = 8 := by omega
                  subst hz
                  refine lv_iload_n hx hb dX1_copy_36 rfl (lv_at hl 0 rfl) ?_
                  refine lv_bipush (v := 8) hx hb dX1_copy_37 (by decide) ?_
                  refine lv_icmp_ge (tgt := 70) hx hb dX1_copy_39 (by decide) (fun c_306 => ?_) (fun c_306 => ?_)
                  · exact hQ Cx H locs ls hj0 hP hD hS hl
                  · exact absurd (by decide) c_306
                | succ lx ih =>
                  intro jx Cx H locs ls hk hj0 hP hD hS hl
                  have hjx : jx < 8 := by omega
                  refine lv_iload_n hx hb dX1_copy_36 rfl (lv_at hl 0 rfl) ?_
                  refine lv_bipush (v := 8) hx hb dX1_copy_37 (by decide) ?_
                  refine lv_icmp_ge (tgt := 70) hx hb dX1_copy_39 (by decide) (fun c_407 => ?_) (fun c_407 => ?_)
                  · exact absurd c_407 (nI_ge hjx (by decide))
                  · refine lv_aload_n hx hb dX1_copy_42 rfl (lv_at hl 2 rfl) ?_
                    refine va_get (D := (dC, dI)) (ci := 1) (v := .ref q3) (C := RX1) (T := TX1) (N := 16) hx hb hts inw_X1_copy hown hK hP 0 rfl rfl 2 (by decide) (hts (.fieldLink RX1 16 "MigratorModel" "copied" "[I") (by decide +kernel)) (fun _ h9 => h9) rfl dX1_copy_43 ?_
                    refine lv_bipush (v := 8) hx hb dX1_copy_46 (by decide) ?_
                    refine lv_iload_n hx hb dX1_copy_48 rfl (lv_at hl 1 rfl) ?_
                    refine lv_imul hx hb dX1_copy_49 ?_
                    refine lv_iload_n hx hb dX1_copy_50 rfl (lv_at hl 0 rfl) ?_
                    refine lv_iadd hx hb dX1_copy_51 ?_
                    refine lv_aload_n hx hb dX1_copy_52 rfl (lv_at hl 2 rfl) ?_
                    refine va_get (D := (dC, dI)) (ci := 1) (v := .ref q1) (C := RX1) (T := TX1) (N := 16) hx hb hts inw_X1_copy hown hK hP 0 rfl rfl 0 (by decide) (hts (.fieldLink RX1 7 "MigratorModel" "real" "[I") (by decide +kernel)) (fun _ h9 => h9) rfl dX1_copy_53 ?_
                    refine lv_bipush (v := 8) hx hb dX1_copy_56 (by decide) ?_
                    refine lv_iload_n hx hb dX1_copy_58 rfl (lv_at hl 1 rfl) ?_
                    refine lv_imul hx hb dX1_copy_59 ?_
                    refine lv_iload_n hx hb dX1_copy_60 rfl (lv_at hl 0 rfl) ?_
                    refine lv_iadd hx hb dX1_copy_61 ?_
                    refine va_iald hx hb hK hP 1 0 rfl rfl (in_ix hix hjx) dX1_copy_62 ?_
                    refine va_iast hx hb hK hP hD hS 3 0 rfl rfl (in_ix hix hjx) dX1_copy_63 (fun H locs hP hD hS => ?_)
                    have hP : va_P (dC, dI) vwCl [(h0, .inr (1, [.ref q1, .ref q2, .ref q3, .ref q4, .ref q5, .ref q6, .ref q7, .ref q8, .int pc, .int ph, .int rd, .int th, .int lm, .int sh, .long tm, .long sn])), (q1, .inl (cA, 64, .inl M)), (q2, .inl (cA, 64, .inl N)), (q3, .inl (cA, 64, .inl (upd Cx ((8 * (nI ix)) + (nI jx)).toNatClampNeg (M ((8 * (nI ix)) + (nI jx)).toNatClampNeg)))), (q4, .inl (cA, 4, .inl R)), (q5, .inl (cJ, 8, .inr (.inl G))), (q6, .inl (cZ, 8, .inl E)), (q7, .inl (cZ, 8, .inl F)), (q8, .inl (cA, 8, .inl T))] H := hP
                    have hD : va_D A [(h0, .inr (1, [.ref q1, .ref q2, .ref q3, .ref q4, .ref q5, .ref q6, .ref q7, .ref q8, .int pc, .int ph, .int rd, .int th, .int lm, .int sh, .long tm, .long sn])), (q1, .inl (cA, 64, .inl M)), (q2, .inl (cA, 64, .inl N)), (q3, .inl (cA, 64, .inl (upd Cx ((8 * (nI ix)) + (nI jx)).toNatClampNeg (M ((8 * (nI ix)) + (nI jx)).toNatClampNeg)))), (q4, .inl (cA, 4, .inl R)), (q5, .inl (cJ, 8, .inr (.inl G))), (q6, .inl (cZ, 8, .inl E)), (q7, .inl (cZ, 8, .inl F)), (q8, .inl (cA, 8, .inl T))] := hD
                    refine lv_iinc (v := (nI jx) + 1) (lv' := [(2, .int ((nI jx) + 1)), (1, .int (nI ix)), (0, .ref h0)]) hx hb dX1_copy_64 hl (k := 0) rfl rfl (by decide) rfl (fun ls hl => ?_)
                    refine lv_goto (tgt := 36) hx hb dX1_copy_67 (by decide) ?_
                    exact ih (jx + 1) _ H locs ls (by omega) (by rw [hj0, cl_ix hix hjx]; exact mr_cw_s M (8 * ix) jx C) hP hD hS (by rw [← nI_1]; exact lv_sub hl [0, 1, 2] rfl)
              refine loopI _ (fun Cx H locs ls hj0 hP hD hS hl => ?_) 8 0 C _ _ _ (by omega) (mr_cw_0 M (8 * ix) C).symm hP hD hS (lv_sub hl [0, 1, 2] rfl)
              refine lv_aload_n hx hb dX1_copy_70 rfl (lv_at hl 2 rfl) ?_
              refine va_get (D := (dC, dI)) (ci := 1) (v := .ref q6) (C := RX1) (T := TX1) (N := 16) hx hb hts inw_X1_copy hown hK hP 0 rfl rfl 5 (by decide) (hts (.fieldLink RX1 26 "MigratorModel" "want" "[Z") (by decide +kernel)) (fun _ h9 => h9) rfl dX1_copy_71 ?_
              refine lv_iload_n hx hb dX1_copy_74 rfl (lv_at hl 1 rfl) ?_
              refine lv_iconst (v := 0) hx hb dX1_copy_75 (by decide) ?_
              refine va_zast hx hb hK hP hD hS 6 2 rfl rfl (vp_in_nI hix (by decide)) dX1_copy_76 (fun H locs hP hD hS => ?_)
              have hP : va_P (dC, dI) vwCl [(h0, .inr (1, [.ref q1, .ref q2, .ref q3, .ref q4, .ref q5, .ref q6, .ref q7, .ref q8, .int pc, .int ph, .int rd, .int th, .int lm, .int sh, .long tm, .long sn])), (q1, .inl (cA, 64, .inl M)), (q2, .inl (cA, 64, .inl N)), (q3, .inl (cA, 64, .inl Cx)), (q4, .inl (cA, 4, .inl R)), (q5, .inl (cJ, 8, .inr (.inl G))), (q6, .inl (cZ, 8, .inl (upd E (nI ix).toNatClampNeg (vp_nar .boolean 0)))), (q7, .inl (cZ, 8, .inl F)), (q8, .inl (cA, 8, .inl T))] H := hP
              have hD : va_D A [(h0, .inr (1, [.ref q1, .ref q2, .ref q3, .ref q4, .ref q5, .ref q6, .ref q7, .ref q8, .int pc, .int ph, .int rd, .int th, .int lm, .int sh, .long tm, .long sn])), (q1, .inl (cA, 64, .inl M)), (q2, .inl (cA, 64, .inl N)), (q3, .inl (cA, 64, .inl Cx)), (q4, .inl (cA, 4, .inl R)), (q5, .inl (cJ, 8, .inr (.inl G))), (q6, .inl (cZ, 8, .inl (upd E (nI ix).toNatClampNeg (vp_nar .boolean 0)))), (q7, .inl (cZ, 8, .inl F)), (q8, .inl (cA, 8, .inl T))] := hD
              refine lv_iload_n hx hb dX1_copy_77 rfl (lv_at hl 1 rfl) ?_
              exact W.iret (v := nI ix) hx hb hr (fun t ht hW => ⟨⟨nI ix, (M, N, Cx, R, G, upd E (nI ix).toNatClampNeg (vp_nar .boolean 0), F, T, pc, ph, rd, th, lm, sh, tm, sn), rfl, Or.inr (Or.inl ⟨c_1, c_2, ix, hix, (by rw [← nI_clamp (show ix < 2 ^ 31 by omega)]; exact c_205), hi0, rfl, by rw [hj0, nI_clamp (by omega)]; rfl⟩), by rw [ht]; exact hP, va_K.moved hW.alike hK, hD⟩, hS.F ht⟩) hS.2.2 dX1_copy_78
      refine loop (fun  H locs ls hi0 hP hD hS hl => ?_) 8 0  _ _ _ (by omega) (fun k h => absurd h (Nat.not_lt_zero k)) hP hD hS (lv_sub hl [0, 1] rfl)
      refine lv_aload_n hx hb dX1_copy_85 rfl (lv_at hl 1 rfl) ?_
      refine va_get (D := (dC, dI)) (ci := 1) (v := .int ph) (C := RX1) (T := TX1) (N := 16) hx hb hts inw_X1_copy hown hK hP 0 rfl rfl 9 (by decide) (hts (.fieldLink RX1 36 "MigratorModel" "phase" "I") (by decide +kernel)) (fun _ h9 => h9) rfl dX1_copy_86 ?_
      refine lv_iconst (v := 2) hx hb dX1_copy_89 (by decide) ?_
      refine lv_icmp_ne (tgt := 127) hx hb dX1_copy_90 (by decide) (fun c_608 => ?_) (fun c_608 => ?_)
      · refine lv_iconst (v := 0) hx hb dX1_copy_127 (by decide) ?_
        refine lv_istore_n (lv' := [(1, .int 0), (0, .ref h0)]) hx hb dX1_copy_128 rfl hl (by decide) rfl (fun ls hl => ?_)
        refine lv_iconst (v := 0) hx hb dX1_copy_129 (by decide) ?_
        refine lv_istore_n (lv' := [(2, .int 0), (1, .int 0), (0, .ref h0)]) hx hb dX1_copy_130 rfl hl (by decide) rfl (fun ls hl => ?_)
        have hp1 : ph = 1 := hph.elim (fun h => absurd h c_1) (fun h => h.elim id (fun h => h.elim (fun h => absurd h c_608) (fun h => absurd h c_2)))
        have loopB : ∀ (Q0 : State → Prop), (∀ (Ex : Nat → Int32) (Fx : Nat → Int32) (cx : Int32) (H : Heap) (locs : List Loc) (ls : Array Slot), Ex = mr_wr G sn 8 E → Fx = mr_wr G sn 8 F → cx = nI (mr_ct G sn 8) → va_P (dC, dI) vwCl [(h0, .inr (1, [.ref q1, .ref q2, .ref q3, .ref q4, .ref q5, .ref q6, .ref q7, .ref q8, .int pc, .int ph, .int rd, .int th, .int lm, .int sh, .long tm, .long sn])), (q1, .inl (cA, 64, .inl M)), (q2, .inl (cA, 64, .inl N)), (q3, .inl (cA, 64, .inl C)), (q4, .inl (cA, 4, .inl R)), (q5, .inl (cJ, 8, .inr (.inl G))), (q6, .inl (cZ, 8, .inl Ex)), (q7, .inl (cZ, 8, .inl Fx)), (q8, .inl (cA, 8, .inl T))] H → va_D A [(h0, .inr (1, [.ref q1, .ref q2, .ref q3, .ref q4, .ref q5, .ref q6, .ref q7, .ref q8, .int pc, .int ph, .int rd, .int th, .int lm, .int sh, .long tm, .long sn])), (q1, .inl (cA, 64, .inl M)), (q2, .inl (cA, 64, .inl N)), (q3, .inl (cA, 64, .inl C)), (q4, .inl (cA, 4, .inl R)), (q5, .inl (cJ, 8, .inr (.inl G))), (q6, .inl (cZ, 8, .inl Ex)), (q7, .inl (cZ, 8, .inl Fx)), (q8, .inl (cA, 8, .inl T))] → va_S A s.heap H locs → lv_has ls 3 [(2, .int (nI 8)), (1, .int cx), (0, .ref h0)] → W p l e (headSpec wsX1_copy { frames := 1, cells := 0, slots := 0, locals := 21 }).room s m ([.ref h0] : List Value).toArray below meth c H locs 0 0 Q0 (F0 m 179 ls [])) → ∀ (lx jx : Nat) (Ex : Nat → Int32) (Fx : Nat → Int32) (cx : Int32) (H : Heap) (locs : List Loc) (ls : Array Slot), jx + lx = 8 → Ex = mr_wr G sn jx E → Fx = mr_wr G sn jx F → cx = nI (mr_ct G sn jx) → va_P (dC, dI) vwCl [(h0, .inr (1, [.ref q1, .ref q2, .ref q3, .ref q4, .ref q5, .ref q6, .ref q7, .ref q8, .int pc, .int ph, .int rd, .int th, .int lm, .int sh, .long tm, .long sn])), (q1, .inl (cA, 64, .inl M)), (q2, .inl (cA, 64, .inl N)), (q3, .inl (cA, 64, .inl C)), (q4, .inl (cA, 4, .inl R)), (q5, .inl (cJ, 8, .inr (.inl G))), (q6, .inl (cZ, 8, .inl Ex)), (q7, .inl (cZ, 8, .inl Fx)), (q8, .inl (cA, 8, .inl T))] H → va_D A [(h0, .inr (1, [.ref q1, .ref q2, .ref q3, .ref q4, .ref q5, .ref q6, .ref q7, .ref q8, .int pc, .int ph, .int rd, .int th, .int lm, .int sh, .long tm, .long sn])), (q1, .inl (cA, 64, .inl M)), (q2, .inl (cA, 64, .inl N)), (q3, .inl (cA, 64, .inl C)), (q4, .inl (cA, 4, .inl R)), (q5, .inl (cJ, 8, .inr (.inl G))), (q6, .inl (cZ, 8, .inl Ex)), (q7, .inl (cZ, 8, .inl Fx)), (q8, .inl (cA, 8, .inl T))] → va_S A s.heap H locs → lv_has ls 3 [(2, .int (nI jx)), (1, .int cx), (0, .ref h0)] → W p l e (headSpec wsX1_copy { frames := 1, cells := 0, slots := 0, locals := 21 }).room s m ([.ref h0] : List Value).toArray below meth c H locs 0 0 Q0 (F0 m 131 ls []) := by
          intro Q0 hQ lx
          induction lx with
          | zero =>
            intro jx Ex Fx cx H locs ls hk hj0 hj1 hj2 hP hD hS hl
            have hz : jx = 8 := by omega
            subst hz
            refine lv_iload_n hx hb dX1_copy_131 rfl (lv_at hl 0 rfl) ?_
            refine lv_bipush (v := 8) hx hb dX1_copy_132 (by decide) ?_
            refine lv_icmp_ge (tgt := 179) hx hb dX1_copy_134 (by decide) (fun c_709 => ?_) (fun c_709 => ?_)
            · exact hQ Ex Fx cx H locs ls hj0 hj1 hj2 hP hD hS hl
            · exact absurd (by decide) c_709
          | succ lx ih =>
            intro jx Ex Fx cx H locs ls hk hj0 hj1 hj2 hP hD hS hl
            have hjx : jx < 8 := by omega
            refine lv_iload_n hx hb dX1_copy_131 rfl (lv_at hl 0 rfl) ?_
            refine lv_bipush (v := 8) hx hb dX1_copy_132 (by decide) ?_
            refine lv_icmp_ge (tgt := 179) hx hb dX1_copy_134 (by decide) (fun c_810 => ?_) (fun c_810 => ?_)
            · exact absurd c_810 (nI_ge hjx (by decide))
            · refine lv_aload_n hx hb dX1_copy_137 rfl (lv_at hl 2 rfl) ?_
              refine va_get (D := (dC, dI)) (ci := 1) (v := .ref q6) (C := RX1) (T := TX1) (N := 16) hx hb hts inw_X1_copy hown hK hP 0 rfl rfl 5 (by decide) (hts (.fieldLink RX1 26 "MigratorModel" "want" "[Z") (by decide +kernel)) (fun _ h9 => h9) rfl dX1_copy_138 ?_
              refine lv_iload_n hx hb dX1_copy_141 rfl (lv_at hl 0 rfl) ?_
              refine lv_aload_n hx hb dX1_copy_142 rfl (lv_at hl 2 rfl) ?_
              refine lv_iload_n hx hb dX1_copy_143 rfl (lv_at hl 0 rfl) ?_
              have hPc := hP.sub (ws' := [(h0, .inr (1, [.ref q1, .ref q2, .ref q3, .ref q4, .ref q5, .ref q6, .ref q7, .ref q8, .int pc, .int ph, .int rd, .int th, .int lm, .int sh, .long tm, .long sn])), (q1, .inl (cA, 64, .inl M)), (q2, .inl (cA, 64, .inl N)), (q3, .inl (cA, 64, .inl C)), (q4, .inl (cA, 4, .inl R)), (q5, .inl (cJ, 8, .inr (.inl G))), (q6, .inl (cZ, 8, .inl Ex)), (q7, .inl (cZ, 8, .inl Fx)), (q8, .inl (cA, 8, .inl T))]) [0, 1, 2, 3, 4, 5, 6, 7, 8] rfl
              have hDc := hD.sub (ws' := [(h0, .inr (1, [.ref q1, .ref q2, .ref q3, .ref q4, .ref q5, .ref q6, .ref q7, .ref q8, .int pc, .int ph, .int rd, .int th, .int lm, .int sh, .long tm, .long sn])), (q1, .inl (cA, 64, .inl M)), (q2, .inl (cA, 64, .inl N)), (q3, .inl (cA, 64, .inl C)), (q4, .inl (cA, 4, .inl R)), (q5, .inl (cJ, 8, .inr (.inl G))), (q6, .inl (cZ, 8, .inl Ex)), (q7, .inl (cZ, 8, .inl Fx)), (q8, .inl (cA, 8, .inl T))]) [0, 1, 2, 3, 4, 5, 6, 7, 8] (by decide) rfl
              have hKc := hK.sub (tys' := [(cA, .int), (cJ, .long), (cZ, .boolean)]) [0, 1, 2] rfl
              have hFc := va_free (wc := [(h0, .inr (1, [.ref q1, .ref q2, .ref q3, .ref q4, .ref q5, .ref q6, .ref q7, .ref q8, .int pc, .int ph, .int rd, .int th, .int lm, .int sh, .long tm, .long sn])), (q1, .inl (cA, 64, .inl M)), (q2, .inl (cA, 64, .inl N)), (q3, .inl (cA, 64, .inl C)), (q4, .inl (cA, 4, .inl R)), (q5, .inl (cJ, 8, .inr (.inl G))), (q6, .inl (cZ, 8, .inl Ex)), (q7, .inl (cZ, 8, .inl Fx)), (q8, .inl (cA, 8, .inl T))]) hD hS hA [0, 1, 2, 3, 4, 5, 6, 7, 8] rfl
              refine va_calli (va_runV (As := [.int (nI jx)]) (rest := [.int (nI jx), .ref q6]) ⟨hx, hb, hml, hown, hts⟩ (c_X1_dirty l dC dI h0 q1 q2 q3 q4 q5 q6 q7 q8 cA cJ cZ M N C R G Ex Fx T pc ph rd th lm sh tm sn (nI jx) (by rw [hj1]; exact mr_wr_01 hF G sn jx) H.size) (cwV 1 hts gX1_copy_X1_dirty rfl rfl rfl (by decide +kernel) ⟨Nat.le_of_ble_eq_true rfl, Nat.le_of_ble_eq_true rfl⟩) ⟨fun a U g mk q => by obtain ⟨q0, q1, qP, qK, qD⟩ := q; exact ⟨q0, q1, qP, va_K.moved (u := U) (U := U.calling g mk a) (Vm.Alike.refl U.vm) qK, qD⟩, va_recv hKc hPc (ci := 1) (q0 := 0) rfl rfl, fun U hU hW => ⟨rfl, by rw [hU], by rw [hU]; exact hPc, va_K.moved hW.alike hKc, hDc.weaken (fun _ _ _ _ => trivial)⟩⟩ rfl rfl hl.1 rfl (lv_room (Nat.le_of_ble_eq_true rfl)) dX1_copy_144 ⟨(Nat.zero_le _), (Nat.zero_le _)⟩) hS (fun q _ h => hFc q h) hFc (fun r_811 u_812 t H1 locs ht hvm w_813 hB hz1 hk1 hS => ?_)
              obtain ⟨w_813, e_814⟩ := w_813
              subst e_814
              obtain ⟨hP1, hK1, hD1⟩ := hB
              rw [ht] at hP1
              obtain ⟨hP, hD⟩ := va_join (wr := []) (w1 := [(h0, .inr (1, [.ref q1, .ref q2, .ref q3, .ref q4, .ref q5, .ref q6, .ref q7, .ref q8, .int pc, .int ph, .int rd, .int th, .int lm, .int sh, .long tm, .long sn])), (q1, .inl (cA, 64, .inl M)), (q2, .inl (cA, 64, .inl N)), (q3, .inl (cA, 64, .inl C)), (q4, .inl (cA, 4, .inl R)), (q5, .inl (cJ, 8, .inr (.inl G))), (q6, .inl (cZ, 8, .inl Ex)), (q7, .inl (cZ, 8, .inl Fx)), (q8, .inl (cA, 8, .inl T))]) hP hD [0, 1, 2, 3, 4, 5, 6, 7, 8] [] rfl rfl (by decide) (by decide) hk1 hFc hP1 hD1
              clear hPc hDc hFc hP1 hD1 hk1 hK1
              generalize H1 = H at hP hS ⊢
              have hP : va_P (dC, dI) vwCl [(h0, .inr (1, [.ref q1, .ref q2, .ref q3, .ref q4, .ref q5, .ref q6, .ref q7, .ref q8, .int pc, .int ph, .int rd, .int th, .int lm, .int sh, .long tm, .long sn])), (q1, .inl (cA, 64, .inl M)), (q2, .inl (cA, 64, .inl N)), (q3, .inl (cA, 64, .inl C)), (q4, .inl (cA, 4, .inl R)), (q5, .inl (cJ, 8, .inr (.inl G))), (q6, .inl (cZ, 8, .inl Ex)), (q7, .inl (cZ, 8, .inl Fx)), (q8, .inl (cA, 8, .inl T))] H := hP
              have hD : va_D A [(h0, .inr (1, [.ref q1, .ref q2, .ref q3, .ref q4, .ref q5, .ref q6, .ref q7, .ref q8, .int pc, .int ph, .int rd, .int th, .int lm, .int sh, .long tm, .long sn])), (q1, .inl (cA, 64, .inl M)), (q2, .inl (cA, 64, .inl N)), (q3, .inl (cA, 64, .inl C)), (q4, .inl (cA, 4, .inl R)), (q5, .inl (cJ, 8, .inr (.inl G))), (q6, .inl (cZ, 8, .inl Ex)), (q7, .inl (cZ, 8, .inl Fx)), (q8, .inl (cA, 8, .inl T))] := hD
              rcases w_813 with ⟨rfl, a_815⟩ | ⟨rfl, a_815⟩
              · have b_816 : sn < G jx := (mr_dt_1 hp1 hjx).mp a_815
                refine va_zast hx hb hK hP hD hS 6 2 rfl rfl (vp_in_nI hjx (by decide)) dX1_copy_147 (fun H locs hP hD hS => ?_)
                have hP : va_P (dC, dI) vwCl [(h0, .inr (1, [.ref q1, .ref q2, .ref q3, .ref q4, .ref q5, .ref q6, .ref q7, .ref q8, .int pc, .int ph, .int rd, .int th, .int lm, .int sh, .long tm, .long sn])), (q1, .inl (cA, 64, .inl M)), (q2, .inl (cA, 64, .inl N)), (q3, .inl (cA, 64, .inl C)), (q4, .inl (cA, 4, .inl R)), (q5, .inl (cJ, 8, .inr (.inl G))), (q6, .inl (cZ, 8, .inl (upd Ex (nI jx).toNatClampNeg (vp_nar .boolean 1)))), (q7, .inl (cZ, 8, .inl Fx)), (q8, .inl (cA, 8, .inl T))] H := hP
                have hD : va_D A [(h0, .inr (1, [.ref q1, .ref q2, .ref q3, .ref q4, .ref q5, .ref q6, .ref q7, .ref q8, .int pc, .int ph, .int rd, .int th, .int lm, .int sh, .long tm, .long sn])), (q1, .inl (cA, 64, .inl M)), (q2, .inl (cA, 64, .inl N)), (q3, .inl (cA, 64, .inl C)), (q4, .inl (cA, 4, .inl R)), (q5, .inl (cJ, 8, .inr (.inl G))), (q6, .inl (cZ, 8, .inl (upd Ex (nI jx).toNatClampNeg (vp_nar .boolean 1)))), (q7, .inl (cZ, 8, .inl Fx)), (q8, .inl (cA, 8, .inl T))] := hD
                refine lv_aload_n hx hb dX1_copy_148 rfl (lv_at hl 2 rfl) ?_
                refine va_get (D := (dC, dI)) (ci := 1) (v := .ref q7) (C := RX1) (T := TX1) (N := 16) hx hb hts inw_X1_copy hown hK hP 0 rfl rfl 6 (by decide) (hts (.fieldLink RX1 30 "MigratorModel" "left" "[Z") (by decide +kernel)) (fun _ h9 => h9) rfl dX1_copy_149 ?_
                refine lv_iload_n hx hb dX1_copy_152 rfl (lv_at hl 0 rfl) ?_
                refine lv_aload_n hx hb dX1_copy_153 rfl (lv_at hl 2 rfl) ?_
                refine va_get (D := (dC, dI)) (ci := 1) (v := .ref q6) (C := RX1) (T := TX1) (N := 16) hx hb hts inw_X1_copy hown hK hP 0 rfl rfl 5 (by decide) (hts (.fieldLink RX1 26 "MigratorModel" "want" "[Z") (by decide +kernel)) (fun _ h9 => h9) rfl dX1_copy_154 ?_
                refine lv_iload_n hx hb dX1_copy_157 rfl (lv_at hl 0 rfl) ?_
                refine va_zald hx hb hK hP 6 2 rfl rfl (vp_in_nI hjx (by decide)) dX1_copy_158 ?_
                refine va_zast hx hb hK hP hD hS 7 2 rfl rfl (vp_in_nI hjx (by decide)) dX1_copy_159 (fun H locs hP hD hS => ?_)
                have hP : va_P (dC, dI) vwCl [(h0, .inr (1, [.ref q1, .ref q2, .ref q3, .ref q4, .ref q5, .ref q6, .ref q7, .ref q8, .int pc, .int ph, .int rd, .int th, .int lm, .int sh, .long tm, .long sn])), (q1, .inl (cA, 64, .inl M)), (q2, .inl (cA, 64, .inl N)), (q3, .inl (cA, 64, .inl C)), (q4, .inl (cA, 4, .inl R)), (q5, .inl (cJ, 8, .inr (.inl G))), (q6, .inl (cZ, 8, .inl (upd Ex (nI jx).toNatClampNeg (vp_nar .boolean 1)))), (q7, .inl (cZ, 8, .inl (upd Fx (nI jx).toNatClampNeg (vp_nar .boolean ((upd Ex (nI jx).toNatClampNeg (vp_nar .boolean 1)) (nI jx).toNatClampNeg))))), (q8, .inl (cA, 8, .inl T))] H := hP
                have hD : va_D A [(h0, .inr (1, [.ref q1, .ref q2, .ref q3, .ref q4, .ref q5, .ref q6, .ref q7, .ref q8, .int pc, .int ph, .int rd, .int th, .int lm, .int sh, .long tm, .long sn])), (q1, .inl (cA, 64, .inl M)), (q2, .inl (cA, 64, .inl N)), (q3, .inl (cA, 64, .inl C)), (q4, .inl (cA, 4, .inl R)), (q5, .inl (cJ, 8, .inr (.inl G))), (q6, .inl (cZ, 8, .inl (upd Ex (nI jx).toNatClampNeg (vp_nar .boolean 1)))), (q7, .inl (cZ, 8, .inl (upd Fx (nI jx).toNatClampNeg (vp_nar .boolean ((upd Ex (nI jx).toNatClampNeg (vp_nar .boolean 1)) (nI jx).toNatClampNeg))))), (q8, .inl (cA, 8, .inl T))] := hD
                refine lv_aload_n hx hb dX1_copy_160 rfl (lv_at hl 2 rfl) ?_
                refine va_get (D := (dC, dI)) (ci := 1) (v := .ref q6) (C := RX1) (T := TX1) (N := 16) hx hb hts inw_X1_copy hown hK hP 0 rfl rfl 5 (by decide) (hts (.fieldLink RX1 26 "MigratorModel" "want" "[Z") (by decide +kernel)) (fun _ h9 => h9) rfl dX1_copy_161 ?_
                refine lv_iload_n hx hb dX1_copy_164 rfl (lv_at hl 0 rfl) ?_
                refine va_zald hx hb hK hP 6 2 rfl rfl (vp_in_nI hjx (by decide)) dX1_copy_165 ?_
                refine lv_if_eq (tgt := 173) hx hb dX1_copy_166 (by decide) (fun c_817 => ?_) (fun c_817 => ?_)
                · exact absurd (pk_us.symm.trans c_817) (by decide)
                · refine lv_iload_n hx hb dX1_copy_169 rfl (lv_at hl 1 rfl) ?_
                  refine lv_iconst (v := 1) hx hb dX1_copy_170 (by decide) ?_
                  refine lv_iadd hx hb dX1_copy_171 ?_
                  refine lv_topi (fun v_818 ev_818 => ?_)
                  refine lv_istore_n (lv' := [(1, .int v_818), (2, .int (nI jx)), (0, .ref h0)]) hx hb dX1_copy_172 rfl hl (by decide) rfl (fun ls hl => ?_)
                  refine lv_iinc (v := (nI jx) + 1) (lv' := [(2, .int ((nI jx) + 1)), (1, .int v_818), (0, .ref h0)]) hx hb dX1_copy_173 hl (k := 1) rfl rfl (by decide) rfl (fun ls hl => ?_)
                  refine lv_goto (tgt := 131) hx hb dX1_copy_176 (by decide) ?_
                  exact ih (jx + 1) _ _ v_818 H locs ls (by omega) (by rw [hj0, nI_clamp (by omega)]; exact mr_wr_s G sn jx E _ (by rw [if_pos b_816]; decide)) (by rw [pk_us, hj1, nI_clamp (by omega)]; exact mr_wr_s G sn jx F _ (by rw [if_pos b_816]; decide)) (by rw [ev_818, hj2, show mr_ct G sn (jx + 1) = mr_ct G sn jx + (if sn < G jx then 1 else 0) from rfl, if_pos b_816]; exact nI_1 _) hP hD hS (by rw [← nI_1]; exact lv_sub hl [0, 1, 2] rfl)
              · have b_819 : ¬ sn < G jx := fun q => a_815 ((mr_dt_1 hp1 hjx).mpr q)
                refine va_zast hx hb hK hP hD hS 6 2 rfl rfl (vp_in_nI hjx (by decide)) dX1_copy_147 (fun H locs hP hD hS => ?_)
                have hP : va_P (dC, dI) vwCl [(h0, .inr (1, [.ref q1, .ref q2, .ref q3, .ref q4, .ref q5, .ref q6, .ref q7, .ref q8, .int pc, .int ph, .int rd, .int th, .int lm, .int sh, .long tm, .long sn])), (q1, .inl (cA, 64, .inl M)), (q2, .inl (cA, 64, .inl N)), (q3, .inl (cA, 64, .inl C)), (q4, .inl (cA, 4, .inl R)), (q5, .inl (cJ, 8, .inr (.inl G))), (q6, .inl (cZ, 8, .inl (upd Ex (nI jx).toNatClampNeg (vp_nar .boolean 0)))), (q7, .inl (cZ, 8, .inl Fx)), (q8, .inl (cA, 8, .inl T))] H := hP
                have hD : va_D A [(h0, .inr (1, [.ref q1, .ref q2, .ref q3, .ref q4, .ref q5, .ref q6, .ref q7, .ref q8, .int pc, .int ph, .int rd, .int th, .int lm, .int sh, .long tm, .long sn])), (q1, .inl (cA, 64, .inl M)), (q2, .inl (cA, 64, .inl N)), (q3, .inl (cA, 64, .inl C)), (q4, .inl (cA, 4, .inl R)), (q5, .inl (cJ, 8, .inr (.inl G))), (q6, .inl (cZ, 8, .inl (upd Ex (nI jx).toNatClampNeg (vp_nar .boolean 0)))), (q7, .inl (cZ, 8, .inl Fx)), (q8, .inl (cA, 8, .inl T))] := hD
                refine lv_aload_n hx hb dX1_copy_148 rfl (lv_at hl 2 rfl) ?_
                refine va_get (D := (dC, dI)) (ci := 1) (v := .ref q7) (C := RX1) (T := TX1) (N := 16) hx hb hts inw_X1_copy hown hK hP 0 rfl rfl 6 (by decide) (hts (.fieldLink RX1 30 "MigratorModel" "left" "[Z") (by decide +kernel)) (fun _ h9 => h9) rfl dX1_copy_149 ?_
                refine lv_iload_n hx hb dX1_copy_152 rfl (lv_at hl 0 rfl) ?_
                refine lv_aload_n hx hb dX1_copy_153 rfl (lv_at hl 2 rfl) ?_
                refine va_get (D := (dC, dI)) (ci := 1) (v := .ref q6) (C := RX1) (T := TX1) (N := 16) hx hb hts inw_X1_copy hown hK hP 0 rfl rfl 5 (by decide) (hts (.fieldLink RX1 26 "MigratorModel" "want" "[Z") (by decide +kernel)) (fun _ h9 => h9) rfl dX1_copy_154 ?_
                refine lv_iload_n hx hb dX1_copy_157 rfl (lv_at hl 0 rfl) ?_
                refine va_zald hx hb hK hP 6 2 rfl rfl (vp_in_nI hjx (by decide)) dX1_copy_158 ?_
                refine va_zast hx hb hK hP hD hS 7 2 rfl rfl (vp_in_nI hjx (by decide)) dX1_copy_159 (fun H locs hP hD hS => ?_)
                have hP : va_P (dC, dI) vwCl [(h0, .inr (1, [.ref q1, .ref q2, .ref q3, .ref q4, .ref q5, .ref q6, .ref q7, .ref q8, .int pc, .int ph, .int rd, .int th, .int lm, .int sh, .long tm, .long sn])), (q1, .inl (cA, 64, .inl M)), (q2, .inl (cA, 64, .inl N)), (q3, .inl (cA, 64, .inl C)), (q4, .inl (cA, 4, .inl R)), (q5, .inl (cJ, 8, .inr (.inl G))), (q6, .inl (cZ, 8, .inl (upd Ex (nI jx).toNatClampNeg (vp_nar .boolean 0)))), (q7, .inl (cZ, 8, .inl (upd Fx (nI jx).toNatClampNeg (vp_nar .boolean ((upd Ex (nI jx).toNatClampNeg (vp_nar .boolean 0)) (nI jx).toNatClampNeg))))), (q8, .inl (cA, 8, .inl T))] H := hP
                have hD : va_D A [(h0, .inr (1, [.ref q1, .ref q2, .ref q3, .ref q4, .ref q5, .ref q6, .ref q7, .ref q8, .int pc, .int ph, .int rd, .int th, .int lm, .int sh, .long tm, .long sn])), (q1, .inl (cA, 64, .inl M)), (q2, .inl (cA, 64, .inl N)), (q3, .inl (cA, 64, .inl C)), (q4, .inl (cA, 4, .inl R)), (q5, .inl (cJ, 8, .inr (.inl G))), (q6, .inl (cZ, 8, .inl (upd Ex (nI jx).toNatClampNeg (vp_nar .boolean 0)))), (q7, .inl (cZ, 8, .inl (upd Fx (nI jx).toNatClampNeg (vp_nar .boolean ((upd Ex (nI jx).toNatClampNeg (vp_nar .boolean 0)) (nI jx).toNatClampNeg))))), (q8, .inl (cA, 8, .inl T))] := hD
                refine lv_aload_n hx hb dX1_copy_160 rfl (lv_at hl 2 rfl) ?_
                refine va_get (D := (dC, dI)) (ci := 1) (v := .ref q6) (C := RX1) (T := TX1) (N := 16) hx hb hts inw_X1_copy hown hK hP 0 rfl rfl 5 (by decide) (hts (.fieldLink RX1 26 "MigratorModel" "want" "[Z") (by decide +kernel)) (fun _ h9 => h9) rfl dX1_copy_161 ?_
                refine lv_iload_n hx hb dX1_copy_164 rfl (lv_at hl 0 rfl) ?_
                refine va_zald hx hb hK hP 6 2 rfl rfl (vp_in_nI hjx (by decide)) dX1_copy_165 ?_
                refine lv_if_eq (tgt := 173) hx hb dX1_copy_166 (by decide) (fun c_820 => ?_) (fun c_820 => ?_)
                · refine lv_iinc (v := (nI jx) + 1) (lv' := [(2, .int ((nI jx) + 1)), (1, .int cx), (0, .ref h0)]) hx hb dX1_copy_173 hl (k := 0) rfl rfl (by decide) rfl (fun ls hl => ?_)
                  refine lv_goto (tgt := 131) hx hb dX1_copy_176 (by decide) ?_
                  exact ih (jx + 1) _ _ cx H locs ls (by omega) (by rw [hj0, nI_clamp (by omega)]; exact mr_wr_s G sn jx E _ (by rw [if_neg b_819]; decide)) (by rw [pk_us, hj1, nI_clamp (by omega)]; exact mr_wr_s G sn jx F _ (by rw [if_neg b_819]; decide)) (by rw [hj2, show mr_ct G sn (jx + 1) = mr_ct G sn jx + (if sn < G jx then 1 else 0) from rfl, if_neg b_819]; rfl) hP hD hS (by rw [← nI_1]; exact lv_sub hl [0, 1, 2] rfl)
                · exact absurd (pk_us.trans (by decide)) c_820
        refine loopB _ (fun Ex Fx cx H locs ls hj0 hj1 hj2 hP hD hS hl => ?_) 8 0 E F _ _ _ _ (by omega) (mr_wr_0 G sn E).symm (mr_wr_0 G sn F).symm rfl hP hD hS (lv_sub hl [0, 1, 2] rfl)
        refine lv_iload_n hx hb dX1_copy_179 rfl (lv_at hl 1 rfl) ?_
        refine lv_aload_n hx hb dX1_copy_180 rfl (lv_at hl 2 rfl) ?_
        refine va_get (D := (dC, dI)) (ci := 1) (v := .int th) (C := RX1) (T := TX1) (N := 16) hx hb hts inw_X1_copy hown hK hP 0 rfl rfl 11 (by decide) (hts (.fieldLink RX1 40 "MigratorModel" "threshold" "I") (by decide +kernel)) (fun _ h9 => h9) rfl dX1_copy_181 ?_
        refine lv_icmp_le (tgt := 198) hx hb dX1_copy_184 (by decide) (fun c_921 => ?_) (fun c_921 => ?_)
        · refine lv_aload_n hx hb dX1_copy_198 rfl (lv_at hl 2 rfl) ?_
          refine lv_iconst (v := 2) hx hb dX1_copy_199 (by decide) ?_
          refine va_put (D := (dC, dI)) (ci := 1) (v := .int 2) (ty := .int) (C := RX1) (T := TX1) (N := 16) hx hb hts inw_X1_copy tyX1 tyX1_ok nmX1 hown hK hP hD hS 0 rfl rfl 9 (by decide) (hts (.fieldLink RX1 36 "MigratorModel" "phase" "I") (by decide +kernel)) (fun _ h9 => h9) rfl (by decide +kernel) rfl rfl (Nat.le_of_ble_eq_true rfl) dX1_copy_200 (fun H locs hP hD hS => ?_)
          have hP : va_P (dC, dI) vwCl [(h0, .inr (1, [.ref q1, .ref q2, .ref q3, .ref q4, .ref q5, .ref q6, .ref q7, .ref q8, .int pc, .int 2, .int rd, .int th, .int lm, .int sh, .long tm, .long sn])), (q1, .inl (cA, 64, .inl M)), (q2, .inl (cA, 64, .inl N)), (q3, .inl (cA, 64, .inl C)), (q4, .inl (cA, 4, .inl R)), (q5, .inl (cJ, 8, .inr (.inl G))), (q6, .inl (cZ, 8, .inl Ex)), (q7, .inl (cZ, 8, .inl Fx)), (q8, .inl (cA, 8, .inl T))] H := hP
          have hD : va_D A [(h0, .inr (1, [.ref q1, .ref q2, .ref q3, .ref q4, .ref q5, .ref q6, .ref q7, .ref q8, .int pc, .int 2, .int rd, .int th, .int lm, .int sh, .long tm, .long sn])), (q1, .inl (cA, 64, .inl M)), (q2, .inl (cA, 64, .inl N)), (q3, .inl (cA, 64, .inl C)), (q4, .inl (cA, 4, .inl R)), (q5, .inl (cJ, 8, .inr (.inl G))), (q6, .inl (cZ, 8, .inl Ex)), (q7, .inl (cZ, 8, .inl Fx)), (q8, .inl (cA, 8, .inl T))] := hD
          refine lv_bipush (v := 33) hx hb dX1_copy_203 (by decide) ?_
          exact W.iret (v := 33) hx hb hr (fun t ht hW => ⟨⟨33, (M, N, C, R, G, Ex, Fx, T, pc, 2, rd, th, lm, sh, tm, sn), rfl, Or.inr (Or.inr (Or.inr ⟨hp1, hi0, Or.inl ⟨rfl, Or.inl (by rw [← hj2]; exact c_921), by rw [hj0, hj1]⟩⟩)), by rw [ht]; exact hP, va_K.moved hW.alike hK, hD⟩, hS.F ht⟩) hS.2.2 dX1_copy_205
        · refine lv_aload_n hx hb dX1_copy_187 rfl (lv_at hl 2 rfl) ?_
          refine va_get (D := (dC, dI)) (ci := 1) (v := .int rd) (C := RX1) (T := TX1) (N := 16) hx hb hts inw_X1_copy hown hK hP 0 rfl rfl 10 (by decide) (hts (.fieldLink RX1 46 "MigratorModel" "round" "I") (by decide +kernel)) (fun _ h9 => h9) rfl dX1_copy_188 ?_
          refine lv_aload_n hx hb dX1_copy_191 rfl (lv_at hl 2 rfl) ?_
          refine va_get (D := (dC, dI)) (ci := 1) (v := .int lm) (C := RX1) (T := TX1) (N := 16) hx hb hts inw_X1_copy hown hK hP 0 rfl rfl 12 (by decide) (hts (.fieldLink RX1 43 "MigratorModel" "limit" "I") (by decide +kernel)) (fun _ h9 => h9) rfl dX1_copy_192 ?_
          refine lv_icmp_ne (tgt := 206) hx hb dX1_copy_195 (by decide) (fun c_922 => ?_) (fun c_922 => ?_)
          · refine lv_aload_n hx hb dX1_copy_206 rfl (lv_at hl 2 rfl) ?_
            refine lv_aload_n hx hb dX1_copy_207 rfl (lv_at hl 2 rfl) ?_
            refine va_get (D := (dC, dI)) (ci := 1) (v := .int rd) (C := RX1) (T := TX1) (N := 16) hx hb hts inw_X1_copy hown hK hP 0 rfl rfl 10 (by decide) (hts (.fieldLink RX1 46 "MigratorModel" "round" "I") (by decide +kernel)) (fun _ h9 => h9) rfl dX1_copy_208 ?_
            refine lv_iconst (v := 1) hx hb dX1_copy_211 (by decide) ?_
            refine lv_iadd hx hb dX1_copy_212 ?_
            refine va_put (D := (dC, dI)) (ci := 1) (v := .int (rd + 1)) (ty := .int) (C := RX1) (T := TX1) (N := 16) hx hb hts inw_X1_copy tyX1 tyX1_ok nmX1 hown hK hP hD hS 0 rfl rfl 10 (by decide) (hts (.fieldLink RX1 46 "MigratorModel" "round" "I") (by decide +kernel)) (fun _ h9 => h9) rfl (by decide +kernel) rfl rfl (Nat.le_of_ble_eq_true rfl) dX1_copy_213 (fun H locs hP hD hS => ?_)
            have hP : va_P (dC, dI) vwCl [(h0, .inr (1, [.ref q1, .ref q2, .ref q3, .ref q4, .ref q5, .ref q6, .ref q7, .ref q8, .int pc, .int ph, .int (rd + 1), .int th, .int lm, .int sh, .long tm, .long sn])), (q1, .inl (cA, 64, .inl M)), (q2, .inl (cA, 64, .inl N)), (q3, .inl (cA, 64, .inl C)), (q4, .inl (cA, 4, .inl R)), (q5, .inl (cJ, 8, .inr (.inl G))), (q6, .inl (cZ, 8, .inl Ex)), (q7, .inl (cZ, 8, .inl Fx)), (q8, .inl (cA, 8, .inl T))] H := hP
            have hD : va_D A [(h0, .inr (1, [.ref q1, .ref q2, .ref q3, .ref q4, .ref q5, .ref q6, .ref q7, .ref q8, .int pc, .int ph, .int (rd + 1), .int th, .int lm, .int sh, .long tm, .long sn])), (q1, .inl (cA, 64, .inl M)), (q2, .inl (cA, 64, .inl N)), (q3, .inl (cA, 64, .inl C)), (q4, .inl (cA, 4, .inl R)), (q5, .inl (cJ, 8, .inr (.inl G))), (q6, .inl (cZ, 8, .inl Ex)), (q7, .inl (cZ, 8, .inl Fx)), (q8, .inl (cA, 8, .inl T))] := hD
            refine lv_aload_n hx hb dX1_copy_216 rfl (lv_at hl 2 rfl) ?_
            refine lv_aload_n hx hb dX1_copy_217 rfl (lv_at hl 2 rfl) ?_
            refine va_get (D := (dC, dI)) (ci := 1) (v := .long tm) (C := RX1) (T := TX1) (N := 16) hx hb hts inw_X1_copy hown hK hP 0 rfl rfl 14 (by decide) (hts (.fieldLink RX1 49 "MigratorModel" "time" "J") (by decide +kernel)) (fun _ h9 => h9) rfl dX1_copy_218 ?_
            refine va_put (D := (dC, dI)) (ci := 1) (v := .long tm) (ty := .long) (C := RX1) (T := TX1) (N := 16) hx hb hts inw_X1_copy tyX1 tyX1_ok nmX1 hown hK hP hD hS 0 rfl rfl 15 (by decide) (hts (.fieldLink RX1 53 "MigratorModel" "since" "J") (by decide +kernel)) (fun _ h9 => h9) rfl (by decide +kernel) rfl rfl (Nat.le_of_ble_eq_true rfl) dX1_copy_221 (fun H locs hP hD hS => ?_)
            have hP : va_P (dC, dI) vwCl [(h0, .inr (1, [.ref q1, .ref q2, .ref q3, .ref q4, .ref q5, .ref q6, .ref q7, .ref q8, .int pc, .int ph, .int (rd + 1), .int th, .int lm, .int sh, .long tm, .long tm])), (q1, .inl (cA, 64, .inl M)), (q2, .inl (cA, 64, .inl N)), (q3, .inl (cA, 64, .inl C)), (q4, .inl (cA, 4, .inl R)), (q5, .inl (cJ, 8, .inr (.inl G))), (q6, .inl (cZ, 8, .inl Ex)), (q7, .inl (cZ, 8, .inl Fx)), (q8, .inl (cA, 8, .inl T))] H := hP
            have hD : va_D A [(h0, .inr (1, [.ref q1, .ref q2, .ref q3, .ref q4, .ref q5, .ref q6, .ref q7, .ref q8, .int pc, .int ph, .int (rd + 1), .int th, .int lm, .int sh, .long tm, .long tm])), (q1, .inl (cA, 64, .inl M)), (q2, .inl (cA, 64, .inl N)), (q3, .inl (cA, 64, .inl C)), (q4, .inl (cA, 4, .inl R)), (q5, .inl (cJ, 8, .inr (.inl G))), (q6, .inl (cZ, 8, .inl Ex)), (q7, .inl (cZ, 8, .inl Fx)), (q8, .inl (cA, 8, .inl T))] := hD
            refine lv_bipush (v := 32) hx hb dX1_copy_224 (by decide) ?_
            exact W.iret (v := 32) hx hb hr (fun t ht hW => ⟨⟨32, (M, N, C, R, G, Ex, Fx, T, pc, ph, rd + 1, th, lm, sh, tm, tm), rfl, Or.inr (Or.inr (Or.inr ⟨hp1, hi0, Or.inr ⟨rfl, (by rw [← hj2]; exact c_921), c_922, by rw [hj0, hj1]⟩⟩)), by rw [ht]; exact hP, va_K.moved hW.alike hK, hD⟩, hS.F ht⟩) hS.2.2 dX1_copy_226
          · refine lv_aload_n hx hb dX1_copy_198 rfl (lv_at hl 2 rfl) ?_
            refine lv_iconst (v := 2) hx hb dX1_copy_199 (by decide) ?_
            refine va_put (D := (dC, dI)) (ci := 1) (v := .int 2) (ty := .int) (C := RX1) (T := TX1) (N := 16) hx hb hts inw_X1_copy tyX1 tyX1_ok nmX1 hown hK hP hD hS 0 rfl rfl 9 (by decide) (hts (.fieldLink RX1 36 "MigratorModel" "phase" "I") (by decide +kernel)) (fun _ h9 => h9) rfl (by decide +kernel) rfl rfl (Nat.le_of_ble_eq_true rfl) dX1_copy_200 (fun H locs hP hD hS => ?_)
            have hP : va_P (dC, dI) vwCl [(h0, .inr (1, [.ref q1, .ref q2, .ref q3, .ref q4, .ref q5, .ref q6, .ref q7, .ref q8, .int pc, .int 2, .int rd, .int th, .int lm, .int sh, .long tm, .long sn])), (q1, .inl (cA, 64, .inl M)), (q2, .inl (cA, 64, .inl N)), (q3, .inl (cA, 64, .inl C)), (q4, .inl (cA, 4, .inl R)), (q5, .inl (cJ, 8, .inr (.inl G))), (q6, .inl (cZ, 8, .inl Ex)), (q7, .inl (cZ, 8, .inl Fx)), (q8, .inl (cA, 8, .inl T))] H := hP
            have hD : va_D A [(h0, .inr (1, [.ref q1, .ref q2, .ref q3, .ref q4, .ref q5, .ref q6, .ref q7, .ref q8, .int pc, .int 2, .int rd, .int th, .int lm, .int sh, .long tm, .long sn])), (q1, .inl (cA, 64, .inl M)), (q2, .inl (cA, 64, .inl N)), (q3, .inl (cA, 64, .inl C)), (q4, .inl (cA, 4, .inl R)), (q5, .inl (cJ, 8, .inr (.inl G))), (q6, .inl (cZ, 8, .inl Ex)), (q7, .inl (cZ, 8, .inl Fx)), (q8, .inl (cA, 8, .inl T))] := hD
            refine lv_bipush (v := 33) hx hb dX1_copy_203 (by decide) ?_
            exact W.iret (v := 33) hx hb hr (fun t ht hW => ⟨⟨33, (M, N, C, R, G, Ex, Fx, T, pc, 2, rd, th, lm, sh, tm, sn), rfl, Or.inr (Or.inr (Or.inr ⟨hp1, hi0, Or.inl ⟨rfl, Or.inr c_922, by rw [hj0, hj1]⟩⟩)), by rw [ht]; exact hP, va_K.moved hW.alike hK, hD⟩, hS.F ht⟩) hS.2.2 dX1_copy_205
      · refine lv_aload_n hx hb dX1_copy_93 rfl (lv_at hl 1 rfl) ?_
        refine lv_iconst (v := 3) hx hb dX1_copy_94 (by decide) ?_
        refine va_put (D := (dC, dI)) (ci := 1) (v := .int 3) (ty := .int) (C := RX1) (T := TX1) (N := 16) hx hb hts inw_X1_copy tyX1 tyX1_ok nmX1 hown hK hP hD hS 0 rfl rfl 9 (by decide) (hts (.fieldLink RX1 36 "MigratorModel" "phase" "I") (by decide +kernel)) (fun _ h9 => h9) rfl (by decide +kernel) rfl rfl (Nat.le_of_ble_eq_true rfl) dX1_copy_95 (fun H locs hP hD hS => ?_)
        have hP : va_P (dC, dI) vwCl [(h0, .inr (1, [.ref q1, .ref q2, .ref q3, .ref q4, .ref q5, .ref q6, .ref q7, .ref q8, .int pc, .int 3, .int rd, .int th, .int lm, .int sh, .long tm, .long sn])), (q1, .inl (cA, 64, .inl M)), (q2, .inl (cA, 64, .inl N)), (q3, .inl (cA, 64, .inl C)), (q4, .inl (cA, 4, .inl R)), (q5, .inl (cJ, 8, .inr (.inl G))), (q6, .inl (cZ, 8, .inl E)), (q7, .inl (cZ, 8, .inl F)), (q8, .inl (cA, 8, .inl T))] H := hP
        have hD : va_D A [(h0, .inr (1, [.ref q1, .ref q2, .ref q3, .ref q4, .ref q5, .ref q6, .ref q7, .ref q8, .int pc, .int 3, .int rd, .int th, .int lm, .int sh, .long tm, .long sn])), (q1, .inl (cA, 64, .inl M)), (q2, .inl (cA, 64, .inl N)), (q3, .inl (cA, 64, .inl C)), (q4, .inl (cA, 4, .inl R)), (q5, .inl (cJ, 8, .inr (.inl G))), (q6, .inl (cZ, 8, .inl E)), (q7, .inl (cZ, 8, .inl F)), (q8, .inl (cA, 8, .inl T))] := hD
        refine lv_iconst (v := 0) hx hb dX1_copy_98 (by decide) ?_
        refine lv_istore_n (lv' := [(1, .int 0), (0, .ref h0)]) hx hb dX1_copy_99 rfl hl (by decide) rfl (fun ls hl => ?_)
        have loopC : ∀ (Q0 : State → Prop), (∀ (Nx : Nat → Int32) (H : Heap) (locs : List Loc) (ls : Array Slot), Nx = mr_cw M 0 64 N → va_P (dC, dI) vwCl [(h0, .inr (1, [.ref q1, .ref q2, .ref q3, .ref q4, .ref q5, .ref q6, .ref q7, .ref q8, .int pc, .int 3, .int rd, .int th, .int lm, .int sh, .long tm, .long sn])), (q1, .inl (cA, 64, .inl M)), (q2, .inl (cA, 64, .inl Nx)), (q3, .inl (cA, 64, .inl C)), (q4, .inl (cA, 4, .inl R)), (q5, .inl (cJ, 8, .inr (.inl G))), (q6, .inl (cZ, 8, .inl E)), (q7, .inl (cZ, 8, .inl F)), (q8, .inl (cA, 8, .inl T))] H → va_D A [(h0, .inr (1, [.ref q1, .ref q2, .ref q3, .ref q4, .ref q5, .ref q6, .ref q7, .ref q8, .int pc, .int 3, .int rd, .int th, .int lm, .int sh, .long tm, .long sn])), (q1, .inl (cA, 64, .inl M)), (q2, .inl (cA, 64, .inl Nx)), (q3, .inl (cA, 64, .inl C)), (q4, .inl (cA, 4, .inl R)), (q5, .inl (cJ, 8, .inr (.inl G))), (q6, .inl (cZ, 8, .inl E)), (q7, .inl (cZ, 8, .inl F)), (q8, .inl (cA, 8, .inl T))] → va_S A s.heap H locs → lv_has ls 3 [(1, .int (nI 64)), (0, .ref h0)] → W p l e (headSpec wsX1_copy { frames := 1, cells := 0, slots := 0, locals := 21 }).room s m ([.ref h0] : List Value).toArray below meth c H locs 0 0 Q0 (F0 m 124 ls [])) → ∀ (lx jx : Nat) (Nx : Nat → Int32) (H : Heap) (locs : List Loc) (ls : Array Slot), jx + lx = 64 → Nx = mr_cw M 0 jx N → va_P (dC, dI) vwCl [(h0, .inr (1, [.ref q1, .ref q2, .ref q3, .ref q4, .ref q5, .ref q6, .ref q7, .ref q8, .int pc, .int 3, .int rd, .int th, .int lm, .int sh, .long tm, .long sn])), (q1, .inl (cA, 64, .inl M)), (q2, .inl (cA, 64, .inl Nx)), (q3, .inl (cA, 64, .inl C)), (q4, .inl (cA, 4, .inl R)), (q5, .inl (cJ, 8, .inr (.inl G))), (q6, .inl (cZ, 8, .inl E)), (q7, .inl (cZ, 8, .inl F)), (q8, .inl (cA, 8, .inl T))] H → va_D A [(h0, .inr (1, [.ref q1, .ref q2, .ref q3, .ref q4, .ref q5, .ref q6, .ref q7, .ref q8, .int pc, .int 3, .int rd, .int th, .int lm, .int sh, .long tm, .long sn])), (q1, .inl (cA, 64, .inl M)), (q2, .inl (cA, 64, .inl Nx)), (q3, .inl (cA, 64, .inl C)), (q4, .inl (cA, 4, .inl R)), (q5, .inl (cJ, 8, .inr (.inl G))), (q6, .inl (cZ, 8, .inl E)), (q7, .inl (cZ, 8, .inl F)), (q8, .inl (cA, 8, .inl T))] → va_S A s.heap H locs → lv_has ls 3 [(1, .int (nI jx)), (0, .ref h0)] → W p l e (headSpec wsX1_copy { frames := 1, cells := 0, slots := 0, locals := 21 }).room s m ([.ref h0] : List Value).toArray below meth c H locs 0 0 Q0 (F0 m 100 ls []) := by
          intro Q0 hQ lx
          induction lx with
          | zero =>
            intro jx Nx H locs ls hk hj0 hP hD hS hl
            have hz : jx = 64 := by omega
            subst hz
            refine lv_iload_n hx hb dX1_copy_100 rfl (lv_at hl 0 rfl) ?_
            refine lv_bipush (v := 64) hx hb dX1_copy_101 (by decide) ?_
            refine lv_icmp_ge (tgt := 124) hx hb dX1_copy_103 (by decide) (fun c_1021 => ?_) (fun c_1021 => ?_)
            · exact hQ Nx H locs ls hj0 hP hD hS hl
            · exact absurd (by decide) c_1021
          | succ lx ih =>
            intro jx Nx H locs ls hk hj0 hP hD hS hl
            have hjx : jx < 64 := by omega
            refine lv_iload_n hx hb dX1_copy_100 rfl (lv_at hl 0 rfl) ?_
            refine lv_bipush (v := 64) hx hb dX1_copy_101 (by decide) ?_
            refine lv_icmp_ge (tgt := 124) hx hb dX1_copy_103 (by decide) (fun c_1122 => ?_) (fun c_1122 => ?_)
            · exact absurd c_1122 (nI_ge hjx (by decide))
            · refine lv_aload_n hx hb dX1_copy_106 rfl (lv_at hl 1 rfl) ?_
              refine va_get (D := (dC, dI)) (ci := 1) (v := .ref q2) (C := RX1) (T := TX1) (N := 16) hx hb hts inw_X1_copy hown hK hP 0 rfl rfl 1 (by decide) (hts (.fieldLink RX1 13 "MigratorModel" "kept" "[I") (by decide +kernel)) (fun _ h9 => h9) rfl dX1_copy_107 ?_
              refine lv_iload_n hx hb dX1_copy_110 rfl (lv_at hl 0 rfl) ?_
              refine lv_aload_n hx hb dX1_copy_111 rfl (lv_at hl 1 rfl) ?_
              refine va_get (D := (dC, dI)) (ci := 1) (v := .ref q1) (C := RX1) (T := TX1) (N := 16) hx hb hts inw_X1_copy hown hK hP 0 rfl rfl 0 (by decide) (hts (.fieldLink RX1 7 "MigratorModel" "real" "[I") (by decide +kernel)) (fun _ h9 => h9) rfl dX1_copy_112 ?_
              refine lv_iload_n hx hb dX1_copy_115 rfl (lv_at hl 0 rfl) ?_
              refine va_iald hx hb hK hP 1 0 rfl rfl (vp_in_nI hjx (by decide)) dX1_copy_116 ?_
              refine va_iast hx hb hK hP hD hS 2 0 rfl rfl (vp_in_nI hjx (by decide)) dX1_copy_117 (fun H locs hP hD hS => ?_)
              have hP : va_P (dC, dI) vwCl [(h0, .inr (1, [.ref q1, .ref q2, .ref q3, .ref q4, .ref q5, .ref q6, .ref q7, .ref q8, .int pc, .int 3, .int rd, .int th, .int lm, .int sh, .long tm, .long sn])), (q1, .inl (cA, 64, .inl M)), (q2, .inl (cA, 64, .inl (upd Nx (nI jx).toNatClampNeg (M (nI jx).toNatClampNeg)))), (q3, .inl (cA, 64, .inl C)), (q4, .inl (cA, 4, .inl R)), (q5, .inl (cJ, 8, .inr (.inl G))), (q6, .inl (cZ, 8, .inl E)), (q7, .inl (cZ, 8, .inl F)), (q8, .inl (cA, 8, .inl T))] H := hP
              have hD : va_D A [(h0, .inr (1, [.ref q1, .ref q2, .ref q3, .ref q4, .ref q5, .ref q6, .ref q7, .ref q8, .int pc, .int 3, .int rd, .int th, .int lm, .int sh, .long tm, .long sn])), (q1, .inl (cA, 64, .inl M)), (q2, .inl (cA, 64, .inl (upd Nx (nI jx).toNatClampNeg (M (nI jx).toNatClampNeg)))), (q3, .inl (cA, 64, .inl C)), (q4, .inl (cA, 4, .inl R)), (q5, .inl (cJ, 8, .inr (.inl G))), (q6, .inl (cZ, 8, .inl E)), (q7, .inl (cZ, 8, .inl F)), (q8, .inl (cA, 8, .inl T))] := hD
              refine lv_iinc (v := (nI jx) + 1) (lv' := [(1, .int ((nI jx) + 1)), (0, .ref h0)]) hx hb dX1_copy_118 hl (k := 0) rfl rfl (by decide) rfl (fun ls hl => ?_)
              refine lv_goto (tgt := 100) hx hb dX1_copy_121 (by decide) ?_
              exact ih (jx + 1) _ H locs ls (by omega) (by have h := mr_cw_s M 0 jx N; rw [Nat.zero_add] at h; rw [hj0, nI_clamp (by omega)]; exact h) hP hD hS (by rw [← nI_1]; exact lv_sub hl [0, 1] rfl)
        refine loopC _ (fun Nx H locs ls hj0 hP hD hS hl => ?_) 64 0 N _ _ _ (by omega) (mr_cw_0 M 0 N).symm hP hD hS (lv_sub hl [0, 1] rfl)
        refine lv_bipush (v := 34) hx hb dX1_copy_124 (by decide) ?_
        exact W.iret (v := 34) hx hb hr (fun t ht hW => ⟨⟨34, (M, Nx, C, R, G, E, F, T, pc, 3, rd, th, lm, sh, tm, sn), rfl, Or.inr (Or.inr (Or.inl ⟨c_608, hi0, rfl, by rw [hj0]⟩)), by rw [ht]; exact hP, va_K.moved hW.alike hK, hD⟩, hS.F ht⟩) hS.2.2 dX1_copy_126
    · refine lv_iconst (v := (-1)) hx hb dX1_copy_15 (by decide) ?_
      exact W.iret (v := (-1)) hx hb hr (fun t ht hW => ⟨⟨(-1), (M, N, C, R, G, E, F, T, pc, ph, rd, th, lm, sh, tm, sn), rfl, Or.inl ⟨Or.inr c_2, rfl, rfl⟩, by rw [ht]; exact hP, va_K.moved hW.alike hK, hD⟩, hS.F ht⟩) hS.2.2 dX1_copy_16
