theorem inw_X0_run : ∀ w ∈ wsX00, w ∈ wsX0_run := fun _ h => List.mem_cons_of_mem _ (List.mem_append_right _ h)
set_option maxHeartbeats 4000000 in
set_option maxRecDepth 100000 in
theorem c_X0_run (l : Launch) (dC : Nat → ClassId) (dI : Nat → Nat → Nat) (h0 q1 q2 q3 q4 : Nat) (cA : ClassId) (S D R K : Nat → Int32) (pc sc ph rd th lm dy wt : Int32) (n : Int32) (sz : Nat) : Met l yX0_run wsX0_run ({ frames := 2, cells := 0, slots := 0, locals := 48 }) (va_Pc [.ref h0, .int n] (fun U => U.heap.size = sz ∧ va_P (dC, dI) vwCl (mg_W h0 q1 q2 q3 q4 cA (S, D, R, K, pc, sc, ph, rd, th, lm, dy, wt)) U.heap ∧ va_K (dC, dI) vwCl [(cA, .int)] U ∧ va_D (fun _ => True) (mg_W h0 q1 q2 q3 q4 cA (S, D, R, K, pc, sc, ph, rd, th, lm, dy, wt)))) (va_Qi (fun (r : Int32) (u : mgS) => (r = n ∧ mg_rn ph n ∧ u = mg_it n.toNatClampNeg (S, D, R, K, pc, sc, ph, rd, th, lm, dy, wt)) ∨ (r = 0 ∧ ¬ mg_rn ph n ∧ u = (S, D, R, K, pc, sc, ph, rd, th, lm, dy, wt))) (at_mg dC dI h0 q1 q2 q3 q4 cA (va_A (mg_W h0 q1 q2 q3 q4 cA (S, D, R, K, pc, sc, ph, rd, th, lm, dy, wt)) sz)) (va_A (mg_W h0 q1 q2 q3 q4 cA (S, D, R, K, pc, sc, ph, rd, th, lm, dy, wt)) sz)) 0 0 (va_A (mg_W h0 q1 q2 q3 q4 cA (S, D, R, K, pc, sc, ph, rd, th, lm, dy, wt)) sz) := by
  refine Met.ofW (cc := cX0_run) (maxL := 3) (ret := (some .int)) (by decide) rfl ?_
  intro p e s m args below meth c s₁ B hml hv
  obtain ⟨rfl, hsz, hP, hK, hD0⟩ := hv
  have hx := B.exec
  have hb := B.bytes
  have hr := B.returns
  have hts := atoms_spec (ws := wsX0_run) B.pre
  have hown : s.vm.findClass RX0 = some m.cls := findClass_of_methodNamed B.named
  have hlocks := B.notSynchronized
  subst hsz
  have hD := hD0.self (sz := s.heap.size)
  generalize hAe : va_A (mg_W h0 q1 q2 q3 q4 cA (S, D, R, K, pc, sc, ph, rd, th, lm, dy, wt)) s.heap.size = A at hD ⊢
  have hA : ∀ q : Nat, s.heap.size ≤ q → A q := fun q h => by rw [← hAe]; exact Or.inr h
  have hS : va_S A s.heap s.heap [] := va_S.rf
  have hP : va_P (dC, dI) vwCl [(h0, .inr (0, [.ref q1, .ref q2, .ref q3, .ref q4, .int pc, .int sc, .int ph, .int rd, .int th, .int lm, .int dy, .int wt])), (q1, .inl (cA, 64, .inl S)), (q2, .inl (cA, 64, .inl D)), (q3, .inl (cA, 4, .inl R)), (q4, .inl (cA, 8, .inl K))] s.heap := hP
  have hD : va_D A [(h0, .inr (0, [.ref q1, .ref q2, .ref q3, .ref q4, .int pc, .int sc, .int ph, .int rd, .int th, .int lm, .int dy, .int wt])), (q1, .inl (cA, 64, .inl S)), (q2, .inl (cA, 64, .inl D)), (q3, .inl (cA, 4, .inl R)), (q4, .inl (cA, 8, .inl K))] := hD
  have hl := lv_entry ([.ref h0, .int n]) (n := 3) (Nat.le_of_ble_eq_true rfl)
  rw [lg_entry_eq]
  generalize (lg_sl ([.ref h0, .int n]) ++ List.replicate (3 - (lg_sl ([.ref h0, .int n])).length) Slot.unset).toArray = ls at hl ⊢
  have hl : lv_has ls 3 [(0, .ref h0), (1, .int n)] := hl
  refine lv_aload_n hx hb dX0_run_0 rfl (lv_at hl 0 rfl) ?_
  refine va_get (D := (dC, dI)) (ci := 0) (v := .int ph) (C := RX0) (T := TX0) (N := 12) hx hb hts inw_X0_run hown hK hP 0 rfl rfl 6 (by decide) (hts (.fieldLink RX0 29 "Migrator" "phaseNow" "I") (by decide +kernel)) (fun _ h9 => h9) rfl dX0_run_1 ?_
  refine lv_iconst (v := 2) hx hb dX0_run_4 (by decide) ?_
  refine lv_icmp_eq (tgt := 19) hx hb dX0_run_5 (by decide) (fun c_1 => ?_) (fun c_1 => ?_)
  · refine lv_iconst (v := 0) hx hb dX0_run_19 (by decide) ?_
    exact W.iret (v := 0) hx hb hr (fun t ht hW => ⟨⟨0, (S, D, R, K, pc, sc, ph, rd, th, lm, dy, wt), rfl, Or.inr ⟨rfl, fun h => h.1 c_1, rfl⟩, by rw [ht]; exact hP, va_K.moved hW.alike hK, hD⟩, hS.F ht⟩) hS.2.2 dX0_run_20
  · refine lv_iload_n hx hb dX0_run_8 rfl (lv_at hl 1 rfl) ?_
    refine lv_if_lt (tgt := 19) hx hb dX0_run_9 (by decide) (fun c_2 => ?_) (fun c_2 => ?_)
    · refine lv_iconst (v := 0) hx hb dX0_run_19 (by decide) ?_
      exact W.iret (v := 0) hx hb hr (fun t ht hW => ⟨⟨0, (S, D, R, K, pc, sc, ph, rd, th, lm, dy, wt), rfl, Or.inr ⟨rfl, fun h => h.2.1 c_2, rfl⟩, by rw [ht]; exact hP, va_K.moved hW.alike hK, hD⟩, hS.F ht⟩) hS.2.2 dX0_run_20
    · refine lv_iload_n hx hb dX0_run_12 rfl (lv_at hl 1 rfl) ?_
      refine lv_sipush (v := 1000) hx hb dX0_run_13 (by decide) ?_
      refine lv_icmp_le (tgt := 21) hx hb dX0_run_16 (by decide) (fun c_3 => ?_) (fun c_3 => ?_)
      · refine lv_iconst (v := 0) hx hb dX0_run_21 (by decide) ?_
        refine lv_istore_n (lv' := [(2, .int 0), (0, .ref h0), (1, .int n)]) hx hb dX0_run_22 rfl hl (by decide) rfl (fun ls hl => ?_)
        obtain ⟨Nn, hNn, eNn⟩ := nI_of c_2
        have loop : ∀ (Q0 : State → Prop), (∀ (Sx : Nat → Int32) (Dx : Nat → Int32) (Rx : Nat → Int32) (Kx : Nat → Int32) (pcx : Int32) (scx : Int32) (phx : Int32) (rdx : Int32) (thx : Int32) (lmx : Int32) (dyx : Int32) (wtx : Int32) (H : Heap) (locs : List Loc) (ls : Array Slot), (Sx, Dx, Rx, Kx, pcx, scx, phx, rdx, thx, lmx, dyx, wtx) = mg_it Nn (S, D, R, K, pc, sc, ph, rd, th, lm, dy, wt) → va_P (dC, dI) vwCl [(h0, .inr (0, [.ref q1, .ref q2, .ref q3, .ref q4, .int pcx, .int scx, .int phx, .int rdx, .int thx, .int lmx, .int dyx, .int wtx])), (q1, .inl (cA, 64, .inl Sx)), (q2, .inl (cA, 64, .inl Dx)), (q3, .inl (cA, 4, .inl Rx)), (q4, .inl (cA, 8, .inl Kx))] H → va_D A [(h0, .inr (0, [.ref q1, .ref q2, .ref q3, .ref q4, .int pcx, .int scx, .int phx, .int rdx, .int thx, .int lmx, .int dyx, .int wtx])), (q1, .inl (cA, 64, .inl Sx)), (q2, .inl (cA, 64, .inl Dx)), (q3, .inl (cA, 4, .inl Rx)), (q4, .inl (cA, 8, .inl Kx))] → va_S A s.heap H locs → lv_has ls 3 [(2, .int (nI Nn)), (0, .ref h0), (1, .int n)] → W p l e (headSpec wsX0_run { frames := 2, cells := 0, slots := 0, locals := 48 }).room s m ([.ref h0, .int n] : List Value).toArray below meth c H locs 0 0 Q0 (F0 m 38 ls [])) → ∀ (kx ix : Nat) (Sx : Nat → Int32) (Dx : Nat → Int32) (Rx : Nat → Int32) (Kx : Nat → Int32) (pcx : Int32) (scx : Int32) (phx : Int32) (rdx : Int32) (thx : Int32) (lmx : Int32) (dyx : Int32) (wtx : Int32) (H : Heap) (locs : List Loc) (ls : Array Slot), ix + kx = Nn → (Sx, Dx, Rx, Kx, pcx, scx, phx, rdx, thx, lmx, dyx, wtx) = mg_it ix (S, D, R, K, pc, sc, ph, rd, th, lm, dy, wt) → va_P (dC, dI) vwCl [(h0, .inr (0, [.ref q1, .ref q2, .ref q3, .ref q4, .int pcx, .int scx, .int phx, .int rdx, .int thx, .int lmx, .int dyx, .int wtx])), (q1, .inl (cA, 64, .inl Sx)), (q2, .inl (cA, 64, .inl Dx)), (q3, .inl (cA, 4, .inl Rx)), (q4, .inl (cA, 8, .inl Kx))] H → va_D A [(h0, .inr (0, [.ref q1, .ref q2, .ref q3, .ref q4, .int pcx, .int scx, .int phx, .int rdx, .int thx, .int lmx, .int dyx, .int wtx])), (q1, .inl (cA, 64, .inl Sx)), (q2, .inl (cA, 64, .inl Dx)), (q3, .inl (cA, 4, .inl Rx)), (q4, .inl (cA, 8, .inl Kx))] → va_S A s.heap H locs → lv_has ls 3 [(2, .int (nI ix)), (0, .ref h0), (1, .int n)] → W p l e (headSpec wsX0_run { frames := 2, cells := 0, slots := 0, locals := 48 }).room s m ([.ref h0, .int n] : List Value).toArray below meth c H locs 0 0 Q0 (F0 m 23 ls []) := by
          intro Q0 hQ kx
          induction kx with
          | zero =>
            intro ix Sx Dx Rx Kx pcx scx phx rdx thx lmx dyx wtx H locs ls hk hi hP hD hS hl
            have hz : ix = Nn := by omega
            subst hz
            refine lv_iload_n hx hb dX0_run_23 rfl (lv_at hl 0 rfl) ?_
            refine lv_iload_n hx hb dX0_run_24 rfl (lv_at hl 2 rfl) ?_
            refine lv_icmp_ge (tgt := 38) hx hb dX0_run_25 (by decide) (fun c_4 => ?_) (fun c_4 => ?_)
            · exact hQ Sx Dx Rx Kx pcx scx phx rdx thx lmx dyx wtx H locs ls hi hP hD hS hl
            · exact absurd (by rw [eNn]; exact nI_le (Nat.le_refl _) hNn) c_4
          | succ kx ih =>
            intro ix Sx Dx Rx Kx pcx scx phx rdx thx lmx dyx wtx H locs ls hk hi hP hD hS hl
            refine lv_iload_n hx hb dX0_run_23 rfl (lv_at hl 0 rfl) ?_
            refine lv_iload_n hx hb dX0_run_24 rfl (lv_at hl 2 rfl) ?_
            refine lv_icmp_ge (tgt := 38) hx hb dX0_run_25 (by decide) (fun c_104 => ?_) (fun c_104 => ?_)
            · exact absurd (by rw [eNn] at c_104; exact c_104) (nI_ge (show ix < Nn by omega) hNn)
            · refine lv_aload_n hx hb dX0_run_28 rfl (lv_at hl 1 rfl) ?_
              have hPc := hP.sub (ws' := [(h0, .inr (0, [.ref q1, .ref q2, .ref q3, .ref q4, .int pcx, .int scx, .int phx, .int rdx, .int thx, .int lmx, .int dyx, .int wtx])), (q1, .inl (cA, 64, .inl Sx)), (q2, .inl (cA, 64, .inl Dx)), (q3, .inl (cA, 4, .inl Rx)), (q4, .inl (cA, 8, .inl Kx))]) [0, 1, 2, 3, 4] rfl
              have hDc := hD.sub (ws' := [(h0, .inr (0, [.ref q1, .ref q2, .ref q3, .ref q4, .int pcx, .int scx, .int phx, .int rdx, .int thx, .int lmx, .int dyx, .int wtx])), (q1, .inl (cA, 64, .inl Sx)), (q2, .inl (cA, 64, .inl Dx)), (q3, .inl (cA, 4, .inl Rx)), (q4, .inl (cA, 8, .inl Kx))]) [0, 1, 2, 3, 4] (by decide) rfl
              have hKc := hK.sub (tys' := [(cA, .int)]) [0] rfl
              have hFc := va_free (wc := [(h0, .inr (0, [.ref q1, .ref q2, .ref q3, .ref q4, .int pcx, .int scx, .int phx, .int rdx, .int thx, .int lmx, .int dyx, .int wtx])), (q1, .inl (cA, 64, .inl Sx)), (q2, .inl (cA, 64, .inl Dx)), (q3, .inl (cA, 4, .inl Rx)), (q4, .inl (cA, 8, .inl Kx))]) hD hS hA [0, 1, 2, 3, 4] rfl
              refine va_callv (va_runV (As := []) (rest := []) ⟨hx, hb, hml, hown, hts⟩ (c_X0_guestStep l dC dI h0 q1 q2 q3 q4 cA Sx Dx Rx Kx pcx scx phx rdx thx lmx dyx wtx H.size) (cwV 0 hts gX0_run_X0_guestStep rfl rfl rfl (by decide +kernel) ⟨Nat.le_of_ble_eq_true rfl, Nat.le_of_ble_eq_true rfl⟩) ⟨fun a U g mk q => by obtain ⟨q0, q1, qP, qK, qD⟩ := q; exact ⟨q0, q1, qP, va_K.moved (u := U) (U := U.calling g mk a) (Vm.Alike.refl U.vm) qK, qD⟩, va_recv hKc hPc (ci := 0) (q0 := 0) rfl rfl, fun U hU hW => ⟨rfl, by rw [hU], by rw [hU]; exact hPc, va_K.moved hW.alike hKc, hDc.weaken (fun _ _ _ _ => trivial)⟩⟩ rfl rfl hl.1 rfl (lv_room (Nat.le_of_ble_eq_true rfl)) dX0_run_29 ⟨(Nat.zero_le _), (Nat.zero_le _)⟩) hS (fun q _ h => hFc q h) hFc (fun u_105 t H1 locs ht hvm w_106 hB hz1 hk1 hS => ?_)
              obtain ⟨S_107, D_108, R_109, K_110, pc_111, sc_112, ph_113, rd_114, th_115, lm_116, dy_117, wt_118⟩ := u_105
              obtain ⟨hP1, hK1, hD1⟩ := hB
              rw [ht] at hP1
              obtain ⟨hP, hD⟩ := va_join (wr := []) (w1 := [(h0, .inr (0, [.ref q1, .ref q2, .ref q3, .ref q4, .int pc_111, .int sc_112, .int ph_113, .int rd_114, .int th_115, .int lm_116, .int dy_117, .int wt_118])), (q1, .inl (cA, 64, .inl S_107)), (q2, .inl (cA, 64, .inl D_108)), (q3, .inl (cA, 4, .inl R_109)), (q4, .inl (cA, 8, .inl K_110))]) hP hD [0, 1, 2, 3, 4] [] rfl rfl (by decide) (by decide) hk1 hFc hP1 hD1
              clear hPc hDc hFc hP1 hD1 hk1 hK1
              generalize H1 = H at hP hS ⊢
              have hP : va_P (dC, dI) vwCl [(h0, .inr (0, [.ref q1, .ref q2, .ref q3, .ref q4, .int pc_111, .int sc_112, .int ph_113, .int rd_114, .int th_115, .int lm_116, .int dy_117, .int wt_118])), (q1, .inl (cA, 64, .inl S_107)), (q2, .inl (cA, 64, .inl D_108)), (q3, .inl (cA, 4, .inl R_109)), (q4, .inl (cA, 8, .inl K_110))] H := hP
              have hD : va_D A [(h0, .inr (0, [.ref q1, .ref q2, .ref q3, .ref q4, .int pc_111, .int sc_112, .int ph_113, .int rd_114, .int th_115, .int lm_116, .int dy_117, .int wt_118])), (q1, .inl (cA, 64, .inl S_107)), (q2, .inl (cA, 64, .inl D_108)), (q3, .inl (cA, 4, .inl R_109)), (q4, .inl (cA, 8, .inl K_110))] := hD
              refine lv_iinc (v := (nI ix) + 1) (lv' := [(2, .int ((nI ix) + 1)), (0, .ref h0), (1, .int n)]) hx hb dX0_run_32 hl (k := 0) rfl rfl (by decide) rfl (fun ls hl => ?_)
              refine lv_goto (tgt := 23) hx hb dX0_run_35 (by decide) ?_
              exact ih (ix + 1) S_107 D_108 R_109 K_110 pc_111 sc_112 ph_113 rd_114 th_115 lm_116 dy_117 wt_118 H locs ls (by omega) (w_106.trans (by rw [hi]; rfl)) hP hD hS (by rw [← nI_1]; exact hl)
        refine loop _ (fun Sx Dx Rx Kx pcx scx phx rdx thx lmx dyx wtx H locs ls hi hP hD hS hl => ?_) Nn 0 S D R K pc sc ph rd th lm dy wt _ _ _ (by omega) rfl hP hD hS hl
        refine lv_iload_n hx hb dX0_run_38 rfl (lv_at hl 2 rfl) ?_
        exact W.iret (v := n) hx hb hr (fun t ht hW => ⟨⟨n, (Sx, Dx, Rx, Kx, pcx, scx, phx, rdx, thx, lmx, dyx, wtx), rfl, Or.inl ⟨rfl, ⟨c_1, c_2, c_3⟩, by rw [eNn, nI_clamp hNn]; exact hi⟩, by rw [ht]; exact hP, va_K.moved hW.alike hK, hD⟩, hS.F ht⟩) hS.2.2 dX0_run_39
      · refine lv_iconst (v := 0) hx hb dX0_run_19 (by decide) ?_
        exact W.iret (v := 0) hx hb hr (fun t ht hW => ⟨⟨0, (S, D, R, K, pc, sc, ph, rd, th, lm, dy, wt), rfl, Or.inr ⟨rfl, fun h => c_3 h.2.2, rfl⟩, by rw [ht]; exact hP, va_K.moved hW.alike hK, hD⟩, hS.F ht⟩) hS.2.2 dX0_run_20
