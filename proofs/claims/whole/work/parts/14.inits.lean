abbrev mg_zero : mgS := (fun _ => 0, fun _ => 0, fun _ => 0, fun _ => 0, 0, 0, 0, 0, 0, 0, 0, 0)
abbrev mr_zero : mrS := (fun _ => 0, fun _ => 0, fun _ => 0, fun _ => 0, fun _ => 0, fun _ => 0, fun _ => 0, fun _ => 0, 0, 0, 0, 0, 0, 0, 0, 0)
abbrev mg_W0 (h0 : Nat) : va_W := [(h0, .inr (0, [.null, .null, .null, .null, .int 0, .int 0, .int 0, .int 0, .int 0, .int 0, .int 0, .int 0]))]
abbrev mr_W0 (h0 : Nat) : va_W := [(h0, .inr (1, [.null, .null, .null, .null, .null, .null, .null, .null, .int 0, .int 0, .int 0, .int 0, .int 0, .int 0, .long 0, .long 0]))]
abbrev at_mgN (dC : Nat → ClassId) (dI : Nat → Nat → Nat) (h0 : Nat) (A : Nat → Prop) (_ : Unit) (t : State) : Prop := ∃ (q1 q2 q3 q4 : Nat) (cA : ClassId), at_mg dC dI h0 q1 q2 q3 q4 cA A mg_zero t
abbrev at_mrN (dC : Nat → ClassId) (dI : Nat → Nat → Nat) (h0 : Nat) (A : Nat → Prop) (_ : Unit) (t : State) : Prop := ∃ (q1 q2 q3 q4 q5 q6 q7 q8 : Nat) (cA cJ cZ : ClassId), at_mr dC dI h0 q1 q2 q3 q4 q5 q6 q7 q8 cA cJ cZ A mr_zero t
theorem va_oneI {D : va_G} {cl : List vw_C} {tys : List (ClassId × FieldType)} {s : State} (hK : va_K D cl tys s) (i j : Nat) {a b : ClassId} (hi : tys[i]? = some (a, .int)) (hj : tys[j]? = some (b, .int)) : a = b := Option.some.inj ((hK.2 i _ hi).2.symm.trans (hK.2 j _ hj).2)
theorem va_oneZ {D : va_G} {cl : List vw_C} {tys : List (ClassId × FieldType)} {s : State} (hK : va_K D cl tys s) (i j : Nat) {a b : ClassId} (hi : tys[i]? = some (a, .boolean)) (hj : tys[j]? = some (b, .boolean)) : a = b := Option.some.inj ((hK.2 i _ hi).2.symm.trans (hK.2 j _ hj).2)
theorem inw_X0_init : ∀ w ∈ wsX00, w ∈ wsX0_init := fun _ h => List.mem_cons_of_mem _ (List.mem_append_right _ h)
set_option maxHeartbeats 4000000 in
set_option maxRecDepth 100000 in
theorem c_X0_init (l : Launch) (dC : Nat → ClassId) (dI : Nat → Nat → Nat) (h0 : Nat) (sz : Nat) : Met l yX0_init wsX0_init ({ frames := 1, cells := 4, slots := 140, locals := 12 }) (va_Pc [.ref h0] (fun U => U.heap.size = sz ∧ va_P (dC, dI) vwCl (mg_W0 h0) U.heap ∧ va_K (dC, dI) vwCl [] U ∧ va_D (fun _ => True) (mg_W0 h0))) (va_Qv (fun (_ : Unit) => True) (at_mgN dC dI h0 (va_A (mg_W0 h0) sz)) (va_A (mg_W0 h0) sz)) 4 140 (va_A (mg_W0 h0) sz) := by
  refine Met.ofW (cc := cX0_init) (maxL := 1) (ret := none) (by decide) rfl ?_
  intro p e s m args below meth c s₁ B hml hv
  obtain ⟨rfl, hsz, hP, hK, hD0⟩ := hv
  have hx := B.exec
  have hb := B.bytes
  have hr := B.returns
  have hts := atoms_spec (ws := wsX0_init) B.pre
  have hown : s.vm.findClass RX0 = some m.cls := findClass_of_methodNamed B.named
  have hlocks := B.notSynchronized
  have hin : meth.name = "<init>" := (name_of_methodNamed B.named B.method).1
  subst hsz
  have hD := hD0.self (sz := s.heap.size)
  generalize hAe : va_A (mg_W0 h0) s.heap.size = A at hD ⊢
  have hA : ∀ q : Nat, s.heap.size ≤ q → A q := fun q h => by rw [← hAe]; exact Or.inr h
  have hS : va_S A s.heap s.heap [] := va_S.rf
  have hP : va_P (dC, dI) vwCl [(h0, .inr (0, [.null, .null, .null, .null, .int 0, .int 0, .int 0, .int 0, .int 0, .int 0, .int 0, .int 0]))] s.heap := hP
  have hD : va_D A [(h0, .inr (0, [.null, .null, .null, .null, .int 0, .int 0, .int 0, .int 0, .int 0, .int 0, .int 0, .int 0]))] := hD
  have hl := lv_entry ([.ref h0]) (n := 1) (Nat.le_of_ble_eq_true rfl)
  rw [lg_entry_eq]
  generalize (lg_sl ([.ref h0]) ++ List.replicate (1 - (lg_sl ([.ref h0])).length) Slot.unset).toArray = ls at hl ⊢
  have hl : lv_has ls 1 [(0, .ref h0)] := hl
  refine lv_aload_n hx hb dX0_init_0 rfl (lv_at hl 0 rfl) ?_
  refine W.objInit hx hb hown (hts (.methodLink RX0 1 objectInit) (by decide +kernel)) (hts (.instanceMethod objectInit) (by decide +kernel)) (hts _ (List.mem_cons_of_mem _ (List.mem_append_left _ (List.mem_of_getElem? (i := 2) rfl)))) rfl (by rw [hml]; exact hl.1) rfl dX0_init_1 (Nat.le_of_ble_eq_true rfl) (Nat.le_of_ble_eq_true rfl) ?_
  refine W.eq (g2 := F0 m 4 ls []) rfl ?_
  refine lv_aload_n hx hb dX0_init_4 rfl (lv_at hl 0 rfl) ?_
  refine lv_bipush (v := 64) hx hb dX0_init_5 (by decide) ?_
  have h4 : 64 * componentBytes .int ≤ 536870912 := by decide +kernel
  have h5 : 0 + 1 ≤ 4 := by decide
  have h6 : 0 + 64 ≤ 140 := by decide
  refine va_newa (atype := .int) (ty := .int) (n := 64) (N' := 64) (a0 := (64, .inl (fun _ => 0))) hx hb (hts (.arrayClass .int) (by decide +kernel)) rfl hK hP hD hS hA (fun _ => rfl) (by decide) (by decide) h4 h5 h6 dX0_init_7 (fun q1 cA H hK hP hD hS => ?_)
  have hK : va_K (dC, dI) vwCl [(cA, .int)] s := hK
  have hP : va_P (dC, dI) vwCl [(h0, .inr (0, [.null, .null, .null, .null, .int 0, .int 0, .int 0, .int 0, .int 0, .int 0, .int 0, .int 0])), (q1, .inl (cA, 64, .inl (fun _ => 0)))] H := hP
  have hD : va_D A [(h0, .inr (0, [.null, .null, .null, .null, .int 0, .int 0, .int 0, .int 0, .int 0, .int 0, .int 0, .int 0])), (q1, .inl (cA, 64, .inl (fun _ => 0)))] := hD
  refine W.widen (k := 1) (n := 64) (by omega) (by omega) ?_
  refine va_putF (D := (dC, dI)) (ci := 0) (v := .ref q1) (ty := (.array .int)) (C := RX0) (T := TX0) (N := 12) hx hb hts inw_X0_init tyX0 tyX0_ok nmX0 hown hK hP hD hS 0 rfl rfl 0 (by decide) (hts (.fieldLink RX0 9 "Migrator" "sourceWords" "[I") (by decide +kernel)) (fun _ h9 => h9) rfl hin rfl (by decide +kernel) rfl rfl (Nat.le_of_ble_eq_true rfl) dX0_init_9 (fun H locs hP hD hS => ?_)
  have hP : va_P (dC, dI) vwCl [(h0, .inr (0, [.ref q1, .null, .null, .null, .int 0, .int 0, .int 0, .int 0, .int 0, .int 0, .int 0, .int 0])), (q1, .inl (cA, 64, .inl (fun _ => 0)))] H := hP
  have hD : va_D A [(h0, .inr (0, [.ref q1, .null, .null, .null, .int 0, .int 0, .int 0, .int 0, .int 0, .int 0, .int 0, .int 0])), (q1, .inl (cA, 64, .inl (fun _ => 0)))] := hD
  refine lv_aload_n hx hb dX0_init_12 rfl (lv_at hl 0 rfl) ?_
  refine lv_bipush (v := 64) hx hb dX0_init_13 (by decide) ?_
  have h4 : 64 * componentBytes .int ≤ 536870912 := by decide +kernel
  have h5 : 1 + 1 ≤ 4 := by decide
  have h6 : 64 + 64 ≤ 140 := by decide
  refine va_newa (atype := .int) (ty := .int) (n := 64) (N' := 64) (a0 := (64, .inl (fun _ => 0))) hx hb (hts (.arrayClass .int) (by decide +kernel)) rfl hK hP hD hS hA (fun _ => rfl) (by decide) (by decide) h4 h5 h6 dX0_init_15 (fun q2 cB H hK hP hD hS => ?_)
  have eB := va_oneI hK 0 1 rfl rfl
  subst eB
  have hK := hK.sub (tys' := [(cA, .int)]) [0] rfl
  have hP : va_P (dC, dI) vwCl [(h0, .inr (0, [.ref q1, .null, .null, .null, .int 0, .int 0, .int 0, .int 0, .int 0, .int 0, .int 0, .int 0])), (q1, .inl (cA, 64, .inl (fun _ => 0))), (q2, .inl (cA, 64, .inl (fun _ => 0)))] H := hP
  have hD : va_D A [(h0, .inr (0, [.ref q1, .null, .null, .null, .int 0, .int 0, .int 0, .int 0, .int 0, .int 0, .int 0, .int 0])), (q1, .inl (cA, 64, .inl (fun _ => 0))), (q2, .inl (cA, 64, .inl (fun _ => 0)))] := hD
  refine W.widen (k := 2) (n := 128) (by omega) (by omega) ?_
  refine va_putF (D := (dC, dI)) (ci := 0) (v := .ref q2) (ty := (.array .int)) (C := RX0) (T := TX0) (N := 12) hx hb hts inw_X0_init tyX0 tyX0_ok nmX0 hown hK hP hD hS 0 rfl rfl 1 (by decide) (hts (.fieldLink RX0 13 "Migrator" "destinationWords" "[I") (by decide +kernel)) (fun _ h9 => h9) rfl hin rfl (by decide +kernel) rfl rfl (Nat.le_of_ble_eq_true rfl) dX0_init_17 (fun H locs hP hD hS => ?_)
  have hP : va_P (dC, dI) vwCl [(h0, .inr (0, [.ref q1, .ref q2, .null, .null, .int 0, .int 0, .int 0, .int 0, .int 0, .int 0, .int 0, .int 0])), (q1, .inl (cA, 64, .inl (fun _ => 0))), (q2, .inl (cA, 64, .inl (fun _ => 0)))] H := hP
  have hD : va_D A [(h0, .inr (0, [.ref q1, .ref q2, .null, .null, .int 0, .int 0, .int 0, .int 0, .int 0, .int 0, .int 0, .int 0])), (q1, .inl (cA, 64, .inl (fun _ => 0))), (q2, .inl (cA, 64, .inl (fun _ => 0)))] := hD
  refine lv_aload_n hx hb dX0_init_20 rfl (lv_at hl 0 rfl) ?_
  refine lv_iconst (v := 4) hx hb dX0_init_21 (by decide) ?_
  have h4 : 4 * componentBytes .int ≤ 536870912 := by decide +kernel
  have h5 : 2 + 1 ≤ 4 := by decide
  have h6 : 128 + 4 ≤ 140 := by decide
  refine va_newa (atype := .int) (ty := .int) (n := 4) (N' := 4) (a0 := (4, .inl (fun _ => 0))) hx hb (hts (.arrayClass .int) (by decide +kernel)) rfl hK hP hD hS hA (fun _ => rfl) (by decide) (by decide) h4 h5 h6 dX0_init_22 (fun q3 cB H hK hP hD hS => ?_)
  have eB := va_oneI hK 0 1 rfl rfl
  subst eB
  have hK := hK.sub (tys' := [(cA, .int)]) [0] rfl
  have hP : va_P (dC, dI) vwCl [(h0, .inr (0, [.ref q1, .ref q2, .null, .null, .int 0, .int 0, .int 0, .int 0, .int 0, .int 0, .int 0, .int 0])), (q1, .inl (cA, 64, .inl (fun _ => 0))), (q2, .inl (cA, 64, .inl (fun _ => 0))), (q3, .inl (cA, 4, .inl (fun _ => 0)))] H := hP
  have hD : va_D A [(h0, .inr (0, [.ref q1, .ref q2, .null, .null, .int 0, .int 0, .int 0, .int 0, .int 0, .int 0, .int 0, .int 0])), (q1, .inl (cA, 64, .inl (fun _ => 0))), (q2, .inl (cA, 64, .inl (fun _ => 0))), (q3, .inl (cA, 4, .inl (fun _ => 0)))] := hD
  refine W.widen (k := 3) (n := 132) (by omega) (by omega) ?_
  refine va_putF (D := (dC, dI)) (ci := 0) (v := .ref q3) (ty := (.array .int)) (C := RX0) (T := TX0) (N := 12) hx hb hts inw_X0_init tyX0 tyX0_ok nmX0 hown hK hP hD hS 0 rfl rfl 2 (by decide) (hts (.fieldLink RX0 16 "Migrator" "registers" "[I") (by decide +kernel)) (fun _ h9 => h9) rfl hin rfl (by decide +kernel) rfl rfl (Nat.le_of_ble_eq_true rfl) dX0_init_24 (fun H locs hP hD hS => ?_)
  have hP : va_P (dC, dI) vwCl [(h0, .inr (0, [.ref q1, .ref q2, .ref q3, .null, .int 0, .int 0, .int 0, .int 0, .int 0, .int 0, .int 0, .int 0])), (q1, .inl (cA, 64, .inl (fun _ => 0))), (q2, .inl (cA, 64, .inl (fun _ => 0))), (q3, .inl (cA, 4, .inl (fun _ => 0)))] H := hP
  have hD : va_D A [(h0, .inr (0, [.ref q1, .ref q2, .ref q3, .null, .int 0, .int 0, .int 0, .int 0, .int 0, .int 0, .int 0, .int 0])), (q1, .inl (cA, 64, .inl (fun _ => 0))), (q2, .inl (cA, 64, .inl (fun _ => 0))), (q3, .inl (cA, 4, .inl (fun _ => 0)))] := hD
  refine lv_aload_n hx hb dX0_init_27 rfl (lv_at hl 0 rfl) ?_
  refine lv_bipush (v := 8) hx hb dX0_init_28 (by decide) ?_
  have h4 : 8 * componentBytes .int ≤ 536870912 := by decide +kernel
  have h5 : 3 + 1 ≤ 4 := by decide
  have h6 : 132 + 8 ≤ 140 := by decide
  refine va_newa (atype := .int) (ty := .int) (n := 8) (N' := 8) (a0 := (8, .inl (fun _ => 0))) hx hb (hts (.arrayClass .int) (by decide +kernel)) rfl hK hP hD hS hA (fun _ => rfl) (by decide) (by decide) h4 h5 h6 dX0_init_30 (fun q4 cB H hK hP hD hS => ?_)
  have eB := va_oneI hK 0 1 rfl rfl
  subst eB
  have hK := hK.sub (tys' := [(cA, .int)]) [0] rfl
  have hP : va_P (dC, dI) vwCl [(h0, .inr (0, [.ref q1, .ref q2, .ref q3, .null, .int 0, .int 0, .int 0, .int 0, .int 0, .int 0, .int 0, .int 0])), (q1, .inl (cA, 64, .inl (fun _ => 0))), (q2, .inl (cA, 64, .inl (fun _ => 0))), (q3, .inl (cA, 4, .inl (fun _ => 0))), (q4, .inl (cA, 8, .inl (fun _ => 0)))] H := hP
  have hD : va_D A [(h0, .inr (0, [.ref q1, .ref q2, .ref q3, .null, .int 0, .int 0, .int 0, .int 0, .int 0, .int 0, .int 0, .int 0])), (q1, .inl (cA, 64, .inl (fun _ => 0))), (q2, .inl (cA, 64, .inl (fun _ => 0))), (q3, .inl (cA, 4, .inl (fun _ => 0))), (q4, .inl (cA, 8, .inl (fun _ => 0)))] := hD
  refine W.widen (k := 4) (n := 140) (by omega) (by omega) ?_
  refine va_putF (D := (dC, dI)) (ci := 0) (v := .ref q4) (ty := (.array .int)) (C := RX0) (T := TX0) (N := 12) hx hb hts inw_X0_init tyX0 tyX0_ok nmX0 hown hK hP hD hS 0 rfl rfl 3 (by decide) (hts (.fieldLink RX0 19 "Migrator" "keptShows" "[I") (by decide +kernel)) (fun _ h9 => h9) rfl hin rfl (by decide +kernel) rfl rfl (Nat.le_of_ble_eq_true rfl) dX0_init_32 (fun H locs hP hD hS => ?_)
  have hP : va_P (dC, dI) vwCl [(h0, .inr (0, [.ref q1, .ref q2, .ref q3, .ref q4, .int 0, .int 0, .int 0, .int 0, .int 0, .int 0, .int 0, .int 0])), (q1, .inl (cA, 64, .inl (fun _ => 0))), (q2, .inl (cA, 64, .inl (fun _ => 0))), (q3, .inl (cA, 4, .inl (fun _ => 0))), (q4, .inl (cA, 8, .inl (fun _ => 0)))] H := hP
  have hD : va_D A [(h0, .inr (0, [.ref q1, .ref q2, .ref q3, .ref q4, .int 0, .int 0, .int 0, .int 0, .int 0, .int 0, .int 0, .int 0])), (q1, .inl (cA, 64, .inl (fun _ => 0))), (q2, .inl (cA, 64, .inl (fun _ => 0))), (q3, .inl (cA, 4, .inl (fun _ => 0))), (q4, .inl (cA, 8, .inl (fun _ => 0)))] := hD
  refine lv_aload_n hx hb dX0_init_35 rfl (lv_at hl 0 rfl) ?_
  refine lv_iconst (v := 0) hx hb dX0_init_36 (by decide) ?_
  refine va_put (D := (dC, dI)) (ci := 0) (v := .int 0) (ty := .int) (C := RX0) (T := TX0) (N := 12) hx hb hts inw_X0_init tyX0 tyX0_ok nmX0 hown hK hP hD hS 0 rfl rfl 4 (by decide) (hts (.fieldLink RX0 22 "Migrator" "programCounter" "I") (by decide +kernel)) (fun _ h9 => h9) rfl (by decide +kernel) rfl rfl (Nat.le_of_ble_eq_true rfl) dX0_init_37 (fun H locs hP hD hS => ?_)
  have hP : va_P (dC, dI) vwCl [(h0, .inr (0, [.ref q1, .ref q2, .ref q3, .ref q4, .int 0, .int 0, .int 0, .int 0, .int 0, .int 0, .int 0, .int 0])), (q1, .inl (cA, 64, .inl (fun _ => 0))), (q2, .inl (cA, 64, .inl (fun _ => 0))), (q3, .inl (cA, 4, .inl (fun _ => 0))), (q4, .inl (cA, 8, .inl (fun _ => 0)))] H := hP
  have hD : va_D A [(h0, .inr (0, [.ref q1, .ref q2, .ref q3, .ref q4, .int 0, .int 0, .int 0, .int 0, .int 0, .int 0, .int 0, .int 0])), (q1, .inl (cA, 64, .inl (fun _ => 0))), (q2, .inl (cA, 64, .inl (fun _ => 0))), (q3, .inl (cA, 4, .inl (fun _ => 0))), (q4, .inl (cA, 8, .inl (fun _ => 0)))] := hD
  refine lv_aload_n hx hb dX0_init_40 rfl (lv_at hl 0 rfl) ?_
  refine lv_iconst (v := 0) hx hb dX0_init_41 (by decide) ?_
  refine va_put (D := (dC, dI)) (ci := 0) (v := .int 0) (ty := .int) (C := RX0) (T := TX0) (N := 12) hx hb hts inw_X0_init tyX0 tyX0_ok nmX0 hown hK hP hD hS 0 rfl rfl 5 (by decide) (hts (.fieldLink RX0 26 "Migrator" "showCount" "I") (by decide +kernel)) (fun _ h9 => h9) rfl (by decide +kernel) rfl rfl (Nat.le_of_ble_eq_true rfl) dX0_init_42 (fun H locs hP hD hS => ?_)
  have hP : va_P (dC, dI) vwCl [(h0, .inr (0, [.ref q1, .ref q2, .ref q3, .ref q4, .int 0, .int 0, .int 0, .int 0, .int 0, .int 0, .int 0, .int 0])), (q1, .inl (cA, 64, .inl (fun _ => 0))), (q2, .inl (cA, 64, .inl (fun _ => 0))), (q3, .inl (cA, 4, .inl (fun _ => 0))), (q4, .inl (cA, 8, .inl (fun _ => 0)))] H := hP
  have hD : va_D A [(h0, .inr (0, [.ref q1, .ref q2, .ref q3, .ref q4, .int 0, .int 0, .int 0, .int 0, .int 0, .int 0, .int 0, .int 0])), (q1, .inl (cA, 64, .inl (fun _ => 0))), (q2, .inl (cA, 64, .inl (fun _ => 0))), (q3, .inl (cA, 4, .inl (fun _ => 0))), (q4, .inl (cA, 8, .inl (fun _ => 0)))] := hD
  refine lv_aload_n hx hb dX0_init_45 rfl (lv_at hl 0 rfl) ?_
  refine lv_iconst (v := 0) hx hb dX0_init_46 (by decide) ?_
  refine va_put (D := (dC, dI)) (ci := 0) (v := .int 0) (ty := .int) (C := RX0) (T := TX0) (N := 12) hx hb hts inw_X0_init tyX0 tyX0_ok nmX0 hown hK hP hD hS 0 rfl rfl 6 (by decide) (hts (.fieldLink RX0 29 "Migrator" "phaseNow" "I") (by decide +kernel)) (fun _ h9 => h9) rfl (by decide +kernel) rfl rfl (Nat.le_of_ble_eq_true rfl) dX0_init_47 (fun H locs hP hD hS => ?_)
  have hP : va_P (dC, dI) vwCl [(h0, .inr (0, [.ref q1, .ref q2, .ref q3, .ref q4, .int 0, .int 0, .int 0, .int 0, .int 0, .int 0, .int 0, .int 0])), (q1, .inl (cA, 64, .inl (fun _ => 0))), (q2, .inl (cA, 64, .inl (fun _ => 0))), (q3, .inl (cA, 4, .inl (fun _ => 0))), (q4, .inl (cA, 8, .inl (fun _ => 0)))] H := hP
  have hD : va_D A [(h0, .inr (0, [.ref q1, .ref q2, .ref q3, .ref q4, .int 0, .int 0, .int 0, .int 0, .int 0, .int 0, .int 0, .int 0])), (q1, .inl (cA, 64, .inl (fun _ => 0))), (q2, .inl (cA, 64, .inl (fun _ => 0))), (q3, .inl (cA, 4, .inl (fun _ => 0))), (q4, .inl (cA, 8, .inl (fun _ => 0)))] := hD
  refine lv_aload_n hx hb dX0_init_50 rfl (lv_at hl 0 rfl) ?_
  refine lv_iconst (v := 0) hx hb dX0_init_51 (by decide) ?_
  refine va_put (D := (dC, dI)) (ci := 0) (v := .int 0) (ty := .int) (C := RX0) (T := TX0) (N := 12) hx hb hts inw_X0_init tyX0 tyX0_ok nmX0 hown hK hP hD hS 0 rfl rfl 7 (by decide) (hts (.fieldLink RX0 32 "Migrator" "roundNow" "I") (by decide +kernel)) (fun _ h9 => h9) rfl (by decide +kernel) rfl rfl (Nat.le_of_ble_eq_true rfl) dX0_init_52 (fun H locs hP hD hS => ?_)
  have hP : va_P (dC, dI) vwCl [(h0, .inr (0, [.ref q1, .ref q2, .ref q3, .ref q4, .int 0, .int 0, .int 0, .int 0, .int 0, .int 0, .int 0, .int 0])), (q1, .inl (cA, 64, .inl (fun _ => 0))), (q2, .inl (cA, 64, .inl (fun _ => 0))), (q3, .inl (cA, 4, .inl (fun _ => 0))), (q4, .inl (cA, 8, .inl (fun _ => 0)))] H := hP
  have hD : va_D A [(h0, .inr (0, [.ref q1, .ref q2, .ref q3, .ref q4, .int 0, .int 0, .int 0, .int 0, .int 0, .int 0, .int 0, .int 0])), (q1, .inl (cA, 64, .inl (fun _ => 0))), (q2, .inl (cA, 64, .inl (fun _ => 0))), (q3, .inl (cA, 4, .inl (fun _ => 0))), (q4, .inl (cA, 8, .inl (fun _ => 0)))] := hD
  refine lv_aload_n hx hb dX0_init_55 rfl (lv_at hl 0 rfl) ?_
  refine lv_iconst (v := 0) hx hb dX0_init_56 (by decide) ?_
  refine va_put (D := (dC, dI)) (ci := 0) (v := .int 0) (ty := .int) (C := RX0) (T := TX0) (N := 12) hx hb hts inw_X0_init tyX0 tyX0_ok nmX0 hown hK hP hD hS 0 rfl rfl 8 (by decide) (hts (.fieldLink RX0 35 "Migrator" "dirtyThreshold" "I") (by decide +kernel)) (fun _ h9 => h9) rfl (by decide +kernel) rfl rfl (Nat.le_of_ble_eq_true rfl) dX0_init_57 (fun H locs hP hD hS => ?_)
  have hP : va_P (dC, dI) vwCl [(h0, .inr (0, [.ref q1, .ref q2, .ref q3, .ref q4, .int 0, .int 0, .int 0, .int 0, .int 0, .int 0, .int 0, .int 0])), (q1, .inl (cA, 64, .inl (fun _ => 0))), (q2, .inl (cA, 64, .inl (fun _ => 0))), (q3, .inl (cA, 4, .inl (fun _ => 0))), (q4, .inl (cA, 8, .inl (fun _ => 0)))] H := hP
  have hD : va_D A [(h0, .inr (0, [.ref q1, .ref q2, .ref q3, .ref q4, .int 0, .int 0, .int 0, .int 0, .int 0, .int 0, .int 0, .int 0])), (q1, .inl (cA, 64, .inl (fun _ => 0))), (q2, .inl (cA, 64, .inl (fun _ => 0))), (q3, .inl (cA, 4, .inl (fun _ => 0))), (q4, .inl (cA, 8, .inl (fun _ => 0)))] := hD
  refine lv_aload_n hx hb dX0_init_60 rfl (lv_at hl 0 rfl) ?_
  refine lv_iconst (v := 0) hx hb dX0_init_61 (by decide) ?_
  refine va_put (D := (dC, dI)) (ci := 0) (v := .int 0) (ty := .int) (C := RX0) (T := TX0) (N := 12) hx hb hts inw_X0_init tyX0 tyX0_ok nmX0 hown hK hP hD hS 0 rfl rfl 9 (by decide) (hts (.fieldLink RX0 38 "Migrator" "roundLimit" "I") (by decide +kernel)) (fun _ h9 => h9) rfl (by decide +kernel) rfl rfl (Nat.le_of_ble_eq_true rfl) dX0_init_62 (fun H locs hP hD hS => ?_)
  have hP : va_P (dC, dI) vwCl [(h0, .inr (0, [.ref q1, .ref q2, .ref q3, .ref q4, .int 0, .int 0, .int 0, .int 0, .int 0, .int 0, .int 0, .int 0])), (q1, .inl (cA, 64, .inl (fun _ => 0))), (q2, .inl (cA, 64, .inl (fun _ => 0))), (q3, .inl (cA, 4, .inl (fun _ => 0))), (q4, .inl (cA, 8, .inl (fun _ => 0)))] H := hP
  have hD : va_D A [(h0, .inr (0, [.ref q1, .ref q2, .ref q3, .ref q4, .int 0, .int 0, .int 0, .int 0, .int 0, .int 0, .int 0, .int 0])), (q1, .inl (cA, 64, .inl (fun _ => 0))), (q2, .inl (cA, 64, .inl (fun _ => 0))), (q3, .inl (cA, 4, .inl (fun _ => 0))), (q4, .inl (cA, 8, .inl (fun _ => 0)))] := hD
  refine lv_aload_n hx hb dX0_init_65 rfl (lv_at hl 0 rfl) ?_
  refine lv_iconst (v := 0) hx hb dX0_init_66 (by decide) ?_
  refine va_put (D := (dC, dI)) (ci := 0) (v := .int 0) (ty := .int) (C := RX0) (T := TX0) (N := 12) hx hb hts inw_X0_init tyX0 tyX0_ok nmX0 hown hK hP hD hS 0 rfl rfl 10 (by decide) (hts (.fieldLink RX0 41 "Migrator" "dirtyPages" "I") (by decide +kernel)) (fun _ h9 => h9) rfl (by decide +kernel) rfl rfl (Nat.le_of_ble_eq_true rfl) dX0_init_67 (fun H locs hP hD hS => ?_)
  have hP : va_P (dC, dI) vwCl [(h0, .inr (0, [.ref q1, .ref q2, .ref q3, .ref q4, .int 0, .int 0, .int 0, .int 0, .int 0, .int 0, .int 0, .int 0])), (q1, .inl (cA, 64, .inl (fun _ => 0))), (q2, .inl (cA, 64, .inl (fun _ => 0))), (q3, .inl (cA, 4, .inl (fun _ => 0))), (q4, .inl (cA, 8, .inl (fun _ => 0)))] H := hP
  have hD : va_D A [(h0, .inr (0, [.ref q1, .ref q2, .ref q3, .ref q4, .int 0, .int 0, .int 0, .int 0, .int 0, .int 0, .int 0, .int 0])), (q1, .inl (cA, 64, .inl (fun _ => 0))), (q2, .inl (cA, 64, .inl (fun _ => 0))), (q3, .inl (cA, 4, .inl (fun _ => 0))), (q4, .inl (cA, 8, .inl (fun _ => 0)))] := hD
  refine lv_aload_n hx hb dX0_init_70 rfl (lv_at hl 0 rfl) ?_
  refine lv_iconst (v := 0) hx hb dX0_init_71 (by decide) ?_
  refine va_put (D := (dC, dI)) (ci := 0) (v := .int 0) (ty := .int) (C := RX0) (T := TX0) (N := 12) hx hb hts inw_X0_init tyX0 tyX0_ok nmX0 hown hK hP hD hS 0 rfl rfl 11 (by decide) (hts (.fieldLink RX0 44 "Migrator" "waitingPages" "I") (by decide +kernel)) (fun _ h9 => h9) rfl (by decide +kernel) rfl rfl (Nat.le_of_ble_eq_true rfl) dX0_init_72 (fun H locs hP hD hS => ?_)
  have hP : va_P (dC, dI) vwCl [(h0, .inr (0, [.ref q1, .ref q2, .ref q3, .ref q4, .int 0, .int 0, .int 0, .int 0, .int 0, .int 0, .int 0, .int 0])), (q1, .inl (cA, 64, .inl (fun _ => 0))), (q2, .inl (cA, 64, .inl (fun _ => 0))), (q3, .inl (cA, 4, .inl (fun _ => 0))), (q4, .inl (cA, 8, .inl (fun _ => 0)))] H := hP
  have hD : va_D A [(h0, .inr (0, [.ref q1, .ref q2, .ref q3, .ref q4, .int 0, .int 0, .int 0, .int 0, .int 0, .int 0, .int 0, .int 0])), (q1, .inl (cA, 64, .inl (fun _ => 0))), (q2, .inl (cA, 64, .inl (fun _ => 0))), (q3, .inl (cA, 4, .inl (fun _ => 0))), (q4, .inl (cA, 8, .inl (fun _ => 0)))] := hD
  exact W.vret hx hb hr (fun t ht hW => ⟨⟨(), rfl, trivial, q1, q2, q3, q4, cA, by rw [ht]; exact hP, va_K.moved hW.alike hK, hD⟩, hS.F ht⟩) hS.2.2 dX0_init_75
theorem inw_X1_init : ∀ w ∈ wsX10, w ∈ wsX1_init := fun _ h => List.mem_cons_of_mem _ (List.mem_append_right _ h)
set_option maxHeartbeats 4000000 in
set_option maxRecDepth 100000 in
theorem c_X1_init (l : Launch) (dC : Nat → ClassId) (dI : Nat → Nat → Nat) (h0 : Nat) (sz : Nat) : Met l yX1_init wsX1_init ({ frames := 1, cells := 8, slots := 228, locals := 12 }) (va_Pc [.ref h0] (fun U => U.heap.size = sz ∧ va_P (dC, dI) vwCl (mr_W0 h0) U.heap ∧ va_K (dC, dI) vwCl [] U ∧ va_D (fun _ => True) (mr_W0 h0))) (va_Qv (fun (_ : Unit) => True) (at_mrN dC dI h0 (va_A (mr_W0 h0) sz)) (va_A (mr_W0 h0) sz)) 8 228 (va_A (mr_W0 h0) sz) := by
  refine Met.ofW (cc := cX1_init) (maxL := 1) (ret := none) (by decide) rfl ?_
  intro p e s m args below meth c s₁ B hml hv
  obtain ⟨rfl, hsz, hP, hK, hD0⟩ := hv
  have hx := B.exec
  have hb := B.bytes
  have hr := B.returns
  have hts := atoms_spec (ws := wsX1_init) B.pre
  have hown : s.vm.findClass RX1 = some m.cls := findClass_of_methodNamed B.named
  have hlocks := B.notSynchronized
  have hin : meth.name = "<init>" := (name_of_methodNamed B.named B.method).1
  subst hsz
  have hD := hD0.self (sz := s.heap.size)
  generalize hAe : va_A (mr_W0 h0) s.heap.size = A at hD ⊢
  have hA : ∀ q : Nat, s.heap.size ≤ q → A q := fun q h => by rw [← hAe]; exact Or.inr h
  have hS : va_S A s.heap s.heap [] := va_S.rf
  have hP : va_P (dC, dI) vwCl [(h0, .inr (1, [.null, .null, .null, .null, .null, .null, .null, .null, .int 0, .int 0, .int 0, .int 0, .int 0, .int 0, .long 0, .long 0]))] s.heap := hP
  have hD : va_D A [(h0, .inr (1, [.null, .null, .null, .null, .null, .null, .null, .null, .int 0, .int 0, .int 0, .int 0, .int 0, .int 0, .long 0, .long 0]))] := hD
  have hl := lv_entry ([.ref h0]) (n := 1) (Nat.le_of_ble_eq_true rfl)
  rw [lg_entry_eq]
  generalize (lg_sl ([.ref h0]) ++ List.replicate (1 - (lg_sl ([.ref h0])).length) Slot.unset).toArray = ls at hl ⊢
  have hl : lv_has ls 1 [(0, .ref h0)] := hl
  refine lv_aload_n hx hb dX1_init_0 rfl (lv_at hl 0 rfl) ?_
  refine W.objInit hx hb hown (hts (.methodLink RX1 1 objectInit) (by decide +kernel)) (hts (.instanceMethod objectInit) (by decide +kernel)) (hts _ (List.mem_cons_of_mem _ (List.mem_append_left _ (List.mem_of_getElem? (i := 2) rfl)))) rfl (by rw [hml]; exact hl.1) rfl dX1_init_1 (Nat.le_of_ble_eq_true rfl) (Nat.le_of_ble_eq_true rfl) ?_
  refine W.eq (g2 := F0 m 4 ls []) rfl ?_
  refine lv_aload_n hx hb dX1_init_4 rfl (lv_at hl 0 rfl) ?_
  refine lv_bipush (v := 64) hx hb dX1_init_5 (by decide) ?_
  have h4 : 64 * componentBytes .int ≤ 536870912 := by decide +kernel
  have h5 : 0 + 1 ≤ 8 := by decide
  have h6 : 0 + 64 ≤ 228 := by decide
  refine va_newa (atype := .int) (ty := .int) (n := 64) (N' := 64) (a0 := (64, .inl (fun _ => 0))) hx hb (hts (.arrayClass .int) (by decide +kernel)) rfl hK hP hD hS hA (fun _ => rfl) (by decide) (by decide) h4 h5 h6 dX1_init_7 (fun q1 cA H hK hP hD hS => ?_)
  have hK : va_K (dC, dI) vwCl [(cA, .int)] s := hK
  have hP : va_P (dC, dI) vwCl [(h0, .inr (1, [.null, .null, .null, .null, .null, .null, .null, .null, .int 0, .int 0, .int 0, .int 0, .int 0, .int 0, .long 0, .long 0])), (q1, .inl (cA, 64, .inl (fun _ => 0)))] H := hP
  have hD : va_D A [(h0, .inr (1, [.null, .null, .null, .null, .null, .null, .null, .null, .int 0, .int 0, .int 0, .int 0, .int 0, .int 0, .long 0, .long 0])), (q1, .inl (cA, 64, .inl (fun _ => 0)))] := hD
  refine W.widen (k := 1) (n := 64) (by omega) (by omega) ?_
  refine va_putF (D := (dC, dI)) (ci := 1) (v := .ref q1) (ty := (.array .int)) (C := RX1) (T := TX1) (N := 16) hx hb hts inw_X1_init tyX1 tyX1_ok nmX1 hown hK hP hD hS 0 rfl rfl 0 (by decide) (hts (.fieldLink RX1 7 "MigratorModel" "real" "[I") (by decide +kernel)) (fun _ h9 => h9) rfl hin rfl (by decide +kernel) rfl rfl (Nat.le_of_ble_eq_true rfl) dX1_init_9 (fun H locs hP hD hS => ?_)
  have hP : va_P (dC, dI) vwCl [(h0, .inr (1, [.ref q1, .null, .null, .null, .null, .null, .null, .null, .int 0, .int 0, .int 0, .int 0, .int 0, .int 0, .long 0, .long 0])), (q1, .inl (cA, 64, .inl (fun _ => 0)))] H := hP
  have hD : va_D A [(h0, .inr (1, [.ref q1, .null, .null, .null, .null, .null, .null, .null, .int 0, .int 0, .int 0, .int 0, .int 0, .int 0, .long 0, .long 0])), (q1, .inl (cA, 64, .inl (fun _ => 0)))] := hD
  refine lv_aload_n hx hb dX1_init_12 rfl (lv_at hl 0 rfl) ?_
  refine lv_bipush (v := 64) hx hb dX1_init_13 (by decide) ?_
  have h4 : 64 * componentBytes .int ≤ 536870912 := by decide +kernel
  have h5 : 1 + 1 ≤ 8 := by decide
  have h6 : 64 + 64 ≤ 228 := by decide
  refine va_newa (atype := .int) (ty := .int) (n := 64) (N' := 64) (a0 := (64, .inl (fun _ => 0))) hx hb (hts (.arrayClass .int) (by decide +kernel)) rfl hK hP hD hS hA (fun _ => rfl) (by decide) (by decide) h4 h5 h6 dX1_init_15 (fun q2 cB H hK hP hD hS => ?_)
  have eB := va_oneI hK 0 1 rfl rfl
  subst eB
  have hK := hK.sub (tys' := [(cA, .int)]) [0] rfl
  have hP : va_P (dC, dI) vwCl [(h0, .inr (1, [.ref q1, .null, .null, .null, .null, .null, .null, .null, .int 0, .int 0, .int 0, .int 0, .int 0, .int 0, .long 0, .long 0])), (q1, .inl (cA, 64, .inl (fun _ => 0))), (q2, .inl (cA, 64, .inl (fun _ => 0)))] H := hP
  have hD : va_D A [(h0, .inr (1, [.ref q1, .null, .null, .null, .null, .null, .null, .null, .int 0, .int 0, .int 0, .int 0, .int 0, .int 0, .long 0, .long 0])), (q1, .inl (cA, 64, .inl (fun _ => 0))), (q2, .inl (cA, 64, .inl (fun _ => 0)))] := hD
  refine W.widen (k := 2) (n := 128) (by omega) (by omega) ?_
  refine va_putF (D := (dC, dI)) (ci := 1) (v := .ref q2) (ty := (.array .int)) (C := RX1) (T := TX1) (N := 16) hx hb hts inw_X1_init tyX1 tyX1_ok nmX1 hown hK hP hD hS 0 rfl rfl 1 (by decide) (hts (.fieldLink RX1 13 "MigratorModel" "kept" "[I") (by decide +kernel)) (fun _ h9 => h9) rfl hin rfl (by decide +kernel) rfl rfl (Nat.le_of_ble_eq_true rfl) dX1_init_17 (fun H locs hP hD hS => ?_)
  have hP : va_P (dC, dI) vwCl [(h0, .inr (1, [.ref q1, .ref q2, .null, .null, .null, .null, .null, .null, .int 0, .int 0, .int 0, .int 0, .int 0, .int 0, .long 0, .long 0])), (q1, .inl (cA, 64, .inl (fun _ => 0))), (q2, .inl (cA, 64, .inl (fun _ => 0)))] H := hP
  have hD : va_D A [(h0, .inr (1, [.ref q1, .ref q2, .null, .null, .null, .null, .null, .null, .int 0, .int 0, .int 0, .int 0, .int 0, .int 0, .long 0, .long 0])), (q1, .inl (cA, 64, .inl (fun _ => 0))), (q2, .inl (cA, 64, .inl (fun _ => 0)))] := hD
  refine lv_aload_n hx hb dX1_init_20 rfl (lv_at hl 0 rfl) ?_
  refine lv_bipush (v := 64) hx hb dX1_init_21 (by decide) ?_
  have h4 : 64 * componentBytes .int ≤ 536870912 := by decide +kernel
  have h5 : 2 + 1 ≤ 8 := by decide
  have h6 : 128 + 64 ≤ 228 := by decide
  refine va_newa (atype := .int) (ty := .int) (n := 64) (N' := 64) (a0 := (64, .inl (fun _ => 0))) hx hb (hts (.arrayClass .int) (by decide +kernel)) rfl hK hP hD hS hA (fun _ => rfl) (by decide) (by decide) h4 h5 h6 dX1_init_23 (fun q3 cB H hK hP hD hS => ?_)
  have eB := va_oneI hK 0 1 rfl rfl
  subst eB
  have hK := hK.sub (tys' := [(cA, .int)]) [0] rfl
  have hP : va_P (dC, dI) vwCl [(h0, .inr (1, [.ref q1, .ref q2, .null, .null, .null, .null, .null, .null, .int 0, .int 0, .int 0, .int 0, .int 0, .int 0, .long 0, .long 0])), (q1, .inl (cA, 64, .inl (fun _ => 0))), (q2, .inl (cA, 64, .inl (fun _ => 0))), (q3, .inl (cA, 64, .inl (fun _ => 0)))] H := hP
  have hD : va_D A [(h0, .inr (1, [.ref q1, .ref q2, .null, .null, .null, .null, .null, .null, .int 0, .int 0, .int 0, .int 0, .int 0, .int 0, .long 0, .long 0])), (q1, .inl (cA, 64, .inl (fun _ => 0))), (q2, .inl (cA, 64, .inl (fun _ => 0))), (q3, .inl (cA, 64, .inl (fun _ => 0)))] := hD
  refine W.widen (k := 3) (n := 192) (by omega) (by omega) ?_
  refine va_putF (D := (dC, dI)) (ci := 1) (v := .ref q3) (ty := (.array .int)) (C := RX1) (T := TX1) (N := 16) hx hb hts inw_X1_init tyX1 tyX1_ok nmX1 hown hK hP hD hS 0 rfl rfl 2 (by decide) (hts (.fieldLink RX1 16 "MigratorModel" "copied" "[I") (by decide +kernel)) (fun _ h9 => h9) rfl hin rfl (by decide +kernel) rfl rfl (Nat.le_of_ble_eq_true rfl) dX1_init_25 (fun H locs hP hD hS => ?_)
  have hP : va_P (dC, dI) vwCl [(h0, .inr (1, [.ref q1, .ref q2, .ref q3, .null, .null, .null, .null, .null, .int 0, .int 0, .int 0, .int 0, .int 0, .int 0, .long 0, .long 0])), (q1, .inl (cA, 64, .inl (fun _ => 0))), (q2, .inl (cA, 64, .inl (fun _ => 0))), (q3, .inl (cA, 64, .inl (fun _ => 0)))] H := hP
  have hD : va_D A [(h0, .inr (1, [.ref q1, .ref q2, .ref q3, .null, .null, .null, .null, .null, .int 0, .int 0, .int 0, .int 0, .int 0, .int 0, .long 0, .long 0])), (q1, .inl (cA, 64, .inl (fun _ => 0))), (q2, .inl (cA, 64, .inl (fun _ => 0))), (q3, .inl (cA, 64, .inl (fun _ => 0)))] := hD
  refine lv_aload_n hx hb dX1_init_28 rfl (lv_at hl 0 rfl) ?_
  refine lv_iconst (v := 4) hx hb dX1_init_29 (by decide) ?_
  have h4 : 4 * componentBytes .int ≤ 536870912 := by decide +kernel
  have h5 : 3 + 1 ≤ 8 := by decide
  have h6 : 192 + 4 ≤ 228 := by decide
  refine va_newa (atype := .int) (ty := .int) (n := 4) (N' := 4) (a0 := (4, .inl (fun _ => 0))) hx hb (hts (.arrayClass .int) (by decide +kernel)) rfl hK hP hD hS hA (fun _ => rfl) (by decide) (by decide) h4 h5 h6 dX1_init_30 (fun q4 cB H hK hP hD hS => ?_)
  have eB := va_oneI hK 0 1 rfl rfl
  subst eB
  have hK := hK.sub (tys' := [(cA, .int)]) [0] rfl
  have hP : va_P (dC, dI) vwCl [(h0, .inr (1, [.ref q1, .ref q2, .ref q3, .null, .null, .null, .null, .null, .int 0, .int 0, .int 0, .int 0, .int 0, .int 0, .long 0, .long 0])), (q1, .inl (cA, 64, .inl (fun _ => 0))), (q2, .inl (cA, 64, .inl (fun _ => 0))), (q3, .inl (cA, 64, .inl (fun _ => 0))), (q4, .inl (cA, 4, .inl (fun _ => 0)))] H := hP
  have hD : va_D A [(h0, .inr (1, [.ref q1, .ref q2, .ref q3, .null, .null, .null, .null, .null, .int 0, .int 0, .int 0, .int 0, .int 0, .int 0, .long 0, .long 0])), (q1, .inl (cA, 64, .inl (fun _ => 0))), (q2, .inl (cA, 64, .inl (fun _ => 0))), (q3, .inl (cA, 64, .inl (fun _ => 0))), (q4, .inl (cA, 4, .inl (fun _ => 0)))] := hD
  refine W.widen (k := 4) (n := 196) (by omega) (by omega) ?_
  refine va_putF (D := (dC, dI)) (ci := 1) (v := .ref q4) (ty := (.array .int)) (C := RX1) (T := TX1) (N := 16) hx hb hts inw_X1_init tyX1 tyX1_ok nmX1 hown hK hP hD hS 0 rfl rfl 3 (by decide) (hts (.fieldLink RX1 19 "MigratorModel" "reg" "[I") (by decide +kernel)) (fun _ h9 => h9) rfl hin rfl (by decide +kernel) rfl rfl (Nat.le_of_ble_eq_true rfl) dX1_init_32 (fun H locs hP hD hS => ?_)
  have hP : va_P (dC, dI) vwCl [(h0, .inr (1, [.ref q1, .ref q2, .ref q3, .ref q4, .null, .null, .null, .null, .int 0, .int 0, .int 0, .int 0, .int 0, .int 0, .long 0, .long 0])), (q1, .inl (cA, 64, .inl (fun _ => 0))), (q2, .inl (cA, 64, .inl (fun _ => 0))), (q3, .inl (cA, 64, .inl (fun _ => 0))), (q4, .inl (cA, 4, .inl (fun _ => 0)))] H := hP
  have hD : va_D A [(h0, .inr (1, [.ref q1, .ref q2, .ref q3, .ref q4, .null, .null, .null, .null, .int 0, .int 0, .int 0, .int 0, .int 0, .int 0, .long 0, .long 0])), (q1, .inl (cA, 64, .inl (fun _ => 0))), (q2, .inl (cA, 64, .inl (fun _ => 0))), (q3, .inl (cA, 64, .inl (fun _ => 0))), (q4, .inl (cA, 4, .inl (fun _ => 0)))] := hD
  refine lv_aload_n hx hb dX1_init_35 rfl (lv_at hl 0 rfl) ?_
  refine lv_bipush (v := 8) hx hb dX1_init_36 (by decide) ?_
  have h4 : 8 * componentBytes .long ≤ 536870912 := by decide +kernel
  have h5 : 4 + 1 ≤ 8 := by decide
  have h6 : 196 + 8 ≤ 228 := by decide
  refine va_newa (atype := .long) (ty := .long) (n := 8) (N' := 8) (a0 := (8, .inr (.inl (fun _ => 0)))) hx hb (hts (.arrayClass .long) (by decide +kernel)) rfl hK hP hD hS hA (fun _ => rfl) (by decide) (by decide) h4 h5 h6 dX1_init_38 (fun q5 cJ H hK hP hD hS => ?_)
  have hK : va_K (dC, dI) vwCl [(cA, .int), (cJ, .long)] s := hK
  have hP : va_P (dC, dI) vwCl [(h0, .inr (1, [.ref q1, .ref q2, .ref q3, .ref q4, .null, .null, .null, .null, .int 0, .int 0, .int 0, .int 0, .int 0, .int 0, .long 0, .long 0])), (q1, .inl (cA, 64, .inl (fun _ => 0))), (q2, .inl (cA, 64, .inl (fun _ => 0))), (q3, .inl (cA, 64, .inl (fun _ => 0))), (q4, .inl (cA, 4, .inl (fun _ => 0))), (q5, .inl (cJ, 8, .inr (.inl (fun _ => 0))))] H := hP
  have hD : va_D A [(h0, .inr (1, [.ref q1, .ref q2, .ref q3, .ref q4, .null, .null, .null, .null, .int 0, .int 0, .int 0, .int 0, .int 0, .int 0, .long 0, .long 0])), (q1, .inl (cA, 64, .inl (fun _ => 0))), (q2, .inl (cA, 64, .inl (fun _ => 0))), (q3, .inl (cA, 64, .inl (fun _ => 0))), (q4, .inl (cA, 4, .inl (fun _ => 0))), (q5, .inl (cJ, 8, .inr (.inl (fun _ => 0))))] := hD
  refine W.widen (k := 5) (n := 204) (by omega) (by omega) ?_
  refine va_putF (D := (dC, dI)) (ci := 1) (v := .ref q5) (ty := (.array .long)) (C := RX1) (T := TX1) (N := 16) hx hb hts inw_X1_init tyX1 tyX1_ok nmX1 hown hK hP hD hS 0 rfl rfl 4 (by decide) (hts (.fieldLink RX1 22 "MigratorModel" "written" "[J") (by decide +kernel)) (fun _ h9 => h9) rfl hin rfl (by decide +kernel) rfl rfl (Nat.le_of_ble_eq_true rfl) dX1_init_40 (fun H locs hP hD hS => ?_)
  have hP : va_P (dC, dI) vwCl [(h0, .inr (1, [.ref q1, .ref q2, .ref q3, .ref q4, .ref q5, .null, .null, .null, .int 0, .int 0, .int 0, .int 0, .int 0, .int 0, .long 0, .long 0])), (q1, .inl (cA, 64, .inl (fun _ => 0))), (q2, .inl (cA, 64, .inl (fun _ => 0))), (q3, .inl (cA, 64, .inl (fun _ => 0))), (q4, .inl (cA, 4, .inl (fun _ => 0))), (q5, .inl (cJ, 8, .inr (.inl (fun _ => 0))))] H := hP
  have hD : va_D A [(h0, .inr (1, [.ref q1, .ref q2, .ref q3, .ref q4, .ref q5, .null, .null, .null, .int 0, .int 0, .int 0, .int 0, .int 0, .int 0, .long 0, .long 0])), (q1, .inl (cA, 64, .inl (fun _ => 0))), (q2, .inl (cA, 64, .inl (fun _ => 0))), (q3, .inl (cA, 64, .inl (fun _ => 0))), (q4, .inl (cA, 4, .inl (fun _ => 0))), (q5, .inl (cJ, 8, .inr (.inl (fun _ => 0))))] := hD
  refine lv_aload_n hx hb dX1_init_43 rfl (lv_at hl 0 rfl) ?_
  refine lv_bipush (v := 8) hx hb dX1_init_44 (by decide) ?_
  have h4 : 8 * componentBytes .boolean ≤ 536870912 := by decide +kernel
  have h5 : 5 + 1 ≤ 8 := by decide
  have h6 : 204 + 8 ≤ 228 := by decide
  refine va_newa (atype := .boolean) (ty := .boolean) (n := 8) (N' := 8) (a0 := (8, .inl (fun _ => 0))) hx hb (hts (.arrayClass .boolean) (by decide +kernel)) rfl hK hP hD hS hA (fun _ => rfl) (by decide) (by decide) h4 h5 h6 dX1_init_46 (fun q6 cZ H hK hP hD hS => ?_)
  have hK : va_K (dC, dI) vwCl [(cA, .int), (cJ, .long), (cZ, .boolean)] s := hK
  have hP : va_P (dC, dI) vwCl [(h0, .inr (1, [.ref q1, .ref q2, .ref q3, .ref q4, .ref q5, .null, .null, .null, .int 0, .int 0, .int 0, .int 0, .int 0, .int 0, .long 0, .long 0])), (q1, .inl (cA, 64, .inl (fun _ => 0))), (q2, .inl (cA, 64, .inl (fun _ => 0))), (q3, .inl (cA, 64, .inl (fun _ => 0))), (q4, .inl (cA, 4, .inl (fun _ => 0))), (q5, .inl (cJ, 8, .inr (.inl (fun _ => 0)))), (q6, .inl (cZ, 8, .inl (fun _ => 0)))] H := hP
  have hD : va_D A [(h0, .inr (1, [.ref q1, .ref q2, .ref q3, .ref q4, .ref q5, .null, .null, .null, .int 0, .int 0, .int 0, .int 0, .int 0, .int 0, .long 0, .long 0])), (q1, .inl (cA, 64, .inl (fun _ => 0))), (q2, .inl (cA, 64, .inl (fun _ => 0))), (q3, .inl (cA, 64, .inl (fun _ => 0))), (q4, .inl (cA, 4, .inl (fun _ => 0))), (q5, .inl (cJ, 8, .inr (.inl (fun _ => 0)))), (q6, .inl (cZ, 8, .inl (fun _ => 0)))] := hD
  refine W.widen (k := 6) (n := 212) (by omega) (by omega) ?_
  refine va_putF (D := (dC, dI)) (ci := 1) (v := .ref q6) (ty := (.array .boolean)) (C := RX1) (T := TX1) (N := 16) hx hb hts inw_X1_init tyX1 tyX1_ok nmX1 hown hK hP hD hS 0 rfl rfl 5 (by decide) (hts (.fieldLink RX1 26 "MigratorModel" "want" "[Z") (by decide +kernel)) (fun _ h9 => h9) rfl hin rfl (by decide +kernel) rfl rfl (Nat.le_of_ble_eq_true rfl) dX1_init_48 (fun H locs hP hD hS => ?_)
  have hP : va_P (dC, dI) vwCl [(h0, .inr (1, [.ref q1, .ref q2, .ref q3, .ref q4, .ref q5, .ref q6, .null, .null, .int 0, .int 0, .int 0, .int 0, .int 0, .int 0, .long 0, .long 0])), (q1, .inl (cA, 64, .inl (fun _ => 0))), (q2, .inl (cA, 64, .inl (fun _ => 0))), (q3, .inl (cA, 64, .inl (fun _ => 0))), (q4, .inl (cA, 4, .inl (fun _ => 0))), (q5, .inl (cJ, 8, .inr (.inl (fun _ => 0)))), (q6, .inl (cZ, 8, .inl (fun _ => 0)))] H := hP
  have hD : va_D A [(h0, .inr (1, [.ref q1, .ref q2, .ref q3, .ref q4, .ref q5, .ref q6, .null, .null, .int 0, .int 0, .int 0, .int 0, .int 0, .int 0, .long 0, .long 0])), (q1, .inl (cA, 64, .inl (fun _ => 0))), (q2, .inl (cA, 64, .inl (fun _ => 0))), (q3, .inl (cA, 64, .inl (fun _ => 0))), (q4, .inl (cA, 4, .inl (fun _ => 0))), (q5, .inl (cJ, 8, .inr (.inl (fun _ => 0)))), (q6, .inl (cZ, 8, .inl (fun _ => 0)))] := hD
  refine lv_aload_n hx hb dX1_init_51 rfl (lv_at hl 0 rfl) ?_
  refine lv_bipush (v := 8) hx hb dX1_init_52 (by decide) ?_
  have h4 : 8 * componentBytes .boolean ≤ 536870912 := by decide +kernel
  have h5 : 6 + 1 ≤ 8 := by decide
  have h6 : 212 + 8 ≤ 228 := by decide
  refine va_newa (atype := .boolean) (ty := .boolean) (n := 8) (N' := 8) (a0 := (8, .inl (fun _ => 0))) hx hb (hts (.arrayClass .boolean) (by decide +kernel)) rfl hK hP hD hS hA (fun _ => rfl) (by decide) (by decide) h4 h5 h6 dX1_init_54 (fun q7 cB H hK hP hD hS => ?_)
  have eB := va_oneZ hK 2 3 rfl rfl
  subst eB
  have hK := hK.sub (tys' := [(cA, .int), (cJ, .long), (cZ, .boolean)]) [0, 1, 2] rfl
  have hP : va_P (dC, dI) vwCl [(h0, .inr (1, [.ref q1, .ref q2, .ref q3, .ref q4, .ref q5, .ref q6, .null, .null, .int 0, .int 0, .int 0, .int 0, .int 0, .int 0, .long 0, .long 0])), (q1, .inl (cA, 64, .inl (fun _ => 0))), (q2, .inl (cA, 64, .inl (fun _ => 0))), (q3, .inl (cA, 64, .inl (fun _ => 0))), (q4, .inl (cA, 4, .inl (fun _ => 0))), (q5, .inl (cJ, 8, .inr (.inl (fun _ => 0)))), (q6, .inl (cZ, 8, .inl (fun _ => 0))), (q7, .inl (cZ, 8, .inl (fun _ => 0)))] H := hP
  have hD : va_D A [(h0, .inr (1, [.ref q1, .ref q2, .ref q3, .ref q4, .ref q5, .ref q6, .null, .null, .int 0, .int 0, .int 0, .int 0, .int 0, .int 0, .long 0, .long 0])), (q1, .inl (cA, 64, .inl (fun _ => 0))), (q2, .inl (cA, 64, .inl (fun _ => 0))), (q3, .inl (cA, 64, .inl (fun _ => 0))), (q4, .inl (cA, 4, .inl (fun _ => 0))), (q5, .inl (cJ, 8, .inr (.inl (fun _ => 0)))), (q6, .inl (cZ, 8, .inl (fun _ => 0))), (q7, .inl (cZ, 8, .inl (fun _ => 0)))] := hD
  refine W.widen (k := 7) (n := 220) (by omega) (by omega) ?_
  refine va_putF (D := (dC, dI)) (ci := 1) (v := .ref q7) (ty := (.array .boolean)) (C := RX1) (T := TX1) (N := 16) hx hb hts inw_X1_init tyX1 tyX1_ok nmX1 hown hK hP hD hS 0 rfl rfl 6 (by decide) (hts (.fieldLink RX1 30 "MigratorModel" "left" "[Z") (by decide +kernel)) (fun _ h9 => h9) rfl hin rfl (by decide +kernel) rfl rfl (Nat.le_of_ble_eq_true rfl) dX1_init_56 (fun H locs hP hD hS => ?_)
  have hP : va_P (dC, dI) vwCl [(h0, .inr (1, [.ref q1, .ref q2, .ref q3, .ref q4, .ref q5, .ref q6, .ref q7, .null, .int 0, .int 0, .int 0, .int 0, .int 0, .int 0, .long 0, .long 0])), (q1, .inl (cA, 64, .inl (fun _ => 0))), (q2, .inl (cA, 64, .inl (fun _ => 0))), (q3, .inl (cA, 64, .inl (fun _ => 0))), (q4, .inl (cA, 4, .inl (fun _ => 0))), (q5, .inl (cJ, 8, .inr (.inl (fun _ => 0)))), (q6, .inl (cZ, 8, .inl (fun _ => 0))), (q7, .inl (cZ, 8, .inl (fun _ => 0)))] H := hP
  have hD : va_D A [(h0, .inr (1, [.ref q1, .ref q2, .ref q3, .ref q4, .ref q5, .ref q6, .ref q7, .null, .int 0, .int 0, .int 0, .int 0, .int 0, .int 0, .long 0, .long 0])), (q1, .inl (cA, 64, .inl (fun _ => 0))), (q2, .inl (cA, 64, .inl (fun _ => 0))), (q3, .inl (cA, 64, .inl (fun _ => 0))), (q4, .inl (cA, 4, .inl (fun _ => 0))), (q5, .inl (cJ, 8, .inr (.inl (fun _ => 0)))), (q6, .inl (cZ, 8, .inl (fun _ => 0))), (q7, .inl (cZ, 8, .inl (fun _ => 0)))] := hD
  refine lv_aload_n hx hb dX1_init_59 rfl (lv_at hl 0 rfl) ?_
  refine lv_bipush (v := 8) hx hb dX1_init_60 (by decide) ?_
  have h4 : 8 * componentBytes .int ≤ 536870912 := by decide +kernel
  have h5 : 7 + 1 ≤ 8 := by decide
  have h6 : 220 + 8 ≤ 228 := by decide
  refine va_newa (atype := .int) (ty := .int) (n := 8) (N' := 8) (a0 := (8, .inl (fun _ => 0))) hx hb (hts (.arrayClass .int) (by decide +kernel)) rfl hK hP hD hS hA (fun _ => rfl) (by decide) (by decide) h4 h5 h6 dX1_init_62 (fun q8 cB H hK hP hD hS => ?_)
  have eB := va_oneI hK 0 3 rfl rfl
  subst eB
  have hK := hK.sub (tys' := [(cA, .int), (cJ, .long), (cZ, .boolean)]) [0, 1, 2] rfl
  have hP : va_P (dC, dI) vwCl [(h0, .inr (1, [.ref q1, .ref q2, .ref q3, .ref q4, .ref q5, .ref q6, .ref q7, .null, .int 0, .int 0, .int 0, .int 0, .int 0, .int 0, .long 0, .long 0])), (q1, .inl (cA, 64, .inl (fun _ => 0))), (q2, .inl (cA, 64, .inl (fun _ => 0))), (q3, .inl (cA, 64, .inl (fun _ => 0))), (q4, .inl (cA, 4, .inl (fun _ => 0))), (q5, .inl (cJ, 8, .inr (.inl (fun _ => 0)))), (q6, .inl (cZ, 8, .inl (fun _ => 0))), (q7, .inl (cZ, 8, .inl (fun _ => 0))), (q8, .inl (cA, 8, .inl (fun _ => 0)))] H := hP
  have hD : va_D A [(h0, .inr (1, [.ref q1, .ref q2, .ref q3, .ref q4, .ref q5, .ref q6, .ref q7, .null, .int 0, .int 0, .int 0, .int 0, .int 0, .int 0, .long 0, .long 0])), (q1, .inl (cA, 64, .inl (fun _ => 0))), (q2, .inl (cA, 64, .inl (fun _ => 0))), (q3, .inl (cA, 64, .inl (fun _ => 0))), (q4, .inl (cA, 4, .inl (fun _ => 0))), (q5, .inl (cJ, 8, .inr (.inl (fun _ => 0)))), (q6, .inl (cZ, 8, .inl (fun _ => 0))), (q7, .inl (cZ, 8, .inl (fun _ => 0))), (q8, .inl (cA, 8, .inl (fun _ => 0)))] := hD
  refine W.widen (k := 8) (n := 228) (by omega) (by omega) ?_
  refine va_putF (D := (dC, dI)) (ci := 1) (v := .ref q8) (ty := (.array .int)) (C := RX1) (T := TX1) (N := 16) hx hb hts inw_X1_init tyX1 tyX1_ok nmX1 hown hK hP hD hS 0 rfl rfl 7 (by decide) (hts (.fieldLink RX1 33 "MigratorModel" "told" "[I") (by decide +kernel)) (fun _ h9 => h9) rfl hin rfl (by decide +kernel) rfl rfl (Nat.le_of_ble_eq_true rfl) dX1_init_64 (fun H locs hP hD hS => ?_)
  have hP : va_P (dC, dI) vwCl [(h0, .inr (1, [.ref q1, .ref q2, .ref q3, .ref q4, .ref q5, .ref q6, .ref q7, .ref q8, .int 0, .int 0, .int 0, .int 0, .int 0, .int 0, .long 0, .long 0])), (q1, .inl (cA, 64, .inl (fun _ => 0))), (q2, .inl (cA, 64, .inl (fun _ => 0))), (q3, .inl (cA, 64, .inl (fun _ => 0))), (q4, .inl (cA, 4, .inl (fun _ => 0))), (q5, .inl (cJ, 8, .inr (.inl (fun _ => 0)))), (q6, .inl (cZ, 8, .inl (fun _ => 0))), (q7, .inl (cZ, 8, .inl (fun _ => 0))), (q8, .inl (cA, 8, .inl (fun _ => 0)))] H := hP
  have hD : va_D A [(h0, .inr (1, [.ref q1, .ref q2, .ref q3, .ref q4, .ref q5, .ref q6, .ref q7, .ref q8, .int 0, .int 0, .int 0, .int 0, .int 0, .int 0, .long 0, .long 0])), (q1, .inl (cA, 64, .inl (fun _ => 0))), (q2, .inl (cA, 64, .inl (fun _ => 0))), (q3, .inl (cA, 64, .inl (fun _ => 0))), (q4, .inl (cA, 4, .inl (fun _ => 0))), (q5, .inl (cJ, 8, .inr (.inl (fun _ => 0)))), (q6, .inl (cZ, 8, .inl (fun _ => 0))), (q7, .inl (cZ, 8, .inl (fun _ => 0))), (q8, .inl (cA, 8, .inl (fun _ => 0)))] := hD
  refine lv_aload_n hx hb dX1_init_67 rfl (lv_at hl 0 rfl) ?_
  refine lv_iconst (v := 0) hx hb dX1_init_68 (by decide) ?_
  refine va_put (D := (dC, dI)) (ci := 1) (v := .int 0) (ty := .int) (C := RX1) (T := TX1) (N := 16) hx hb hts inw_X1_init tyX1 tyX1_ok nmX1 hown hK hP hD hS 0 rfl rfl 9 (by decide) (hts (.fieldLink RX1 36 "MigratorModel" "phase" "I") (by decide +kernel)) (fun _ h9 => h9) rfl (by decide +kernel) rfl rfl (Nat.le_of_ble_eq_true rfl) dX1_init_69 (fun H locs hP hD hS => ?_)
  have hP : va_P (dC, dI) vwCl [(h0, .inr (1, [.ref q1, .ref q2, .ref q3, .ref q4, .ref q5, .ref q6, .ref q7, .ref q8, .int 0, .int 0, .int 0, .int 0, .int 0, .int 0, .long 0, .long 0])), (q1, .inl (cA, 64, .inl (fun _ => 0))), (q2, .inl (cA, 64, .inl (fun _ => 0))), (q3, .inl (cA, 64, .inl (fun _ => 0))), (q4, .inl (cA, 4, .inl (fun _ => 0))), (q5, .inl (cJ, 8, .inr (.inl (fun _ => 0)))), (q6, .inl (cZ, 8, .inl (fun _ => 0))), (q7, .inl (cZ, 8, .inl (fun _ => 0))), (q8, .inl (cA, 8, .inl (fun _ => 0)))] H := hP
  have hD : va_D A [(h0, .inr (1, [.ref q1, .ref q2, .ref q3, .ref q4, .ref q5, .ref q6, .ref q7, .ref q8, .int 0, .int 0, .int 0, .int 0, .int 0, .int 0, .long 0, .long 0])), (q1, .inl (cA, 64, .inl (fun _ => 0))), (q2, .inl (cA, 64, .inl (fun _ => 0))), (q3, .inl (cA, 64, .inl (fun _ => 0))), (q4, .inl (cA, 4, .inl (fun _ => 0))), (q5, .inl (cJ, 8, .inr (.inl (fun _ => 0)))), (q6, .inl (cZ, 8, .inl (fun _ => 0))), (q7, .inl (cZ, 8, .inl (fun _ => 0))), (q8, .inl (cA, 8, .inl (fun _ => 0)))] := hD
  exact W.vret hx hb hr (fun t ht hW => ⟨⟨(), rfl, trivial, q1, q2, q3, q4, q5, q6, q7, q8, cA, cJ, cZ, by rw [ht]; exact hP, va_K.moved hW.alike hK, hD⟩, hS.F ht⟩) hS.2.2 dX1_init_72
