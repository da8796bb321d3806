/-! THE CLAIM OUT OF ONE WALK OF THE LAW'S BODY. Your part is whole_start (and what it stands on); all else here is the same for every law, but numbers. -/
def R_law : String := "MigratorLaw"
def lw_P (b : Addr) (xs : List Int32) (args : Array Value) (s : State) : Prop := args = #[.ref b] ∧ s.IntsAt b xs ∧ xs.length ≤ 1536 ∧ (Jvm.Cond.and given_1 narrow_1).before args s = true
def lw_Q (_ : Array Value) (s : State) (o : Outcome) (t : State) : Prop := o = .returned (some (.int 1)) ∧ Framed s o t [] 14 396
def lw_Z (below : List Frame) (a : Array Value) (s : State) : State → Prop := fun t => ∃ o, t.status = .running ∧ Ended t below o ∧ lw_Q a s o t
/-- the law's own end, with 1 on the stack, nothing written that was there before, its room as the claim has it -/
theorem lw_ret {p : Program} {l : Launch} {e : Env} {s : State} {m : MethodId} {below : List Frame} {meth : Method} {c : Code} {b : Nat} (hx : p.tables.exec = Jvm.exec) (hb : c.code = code) (hr : meth.sig.returnType = ret) (hlocks : meth.locks = false) {pc : Nat} {H : Heap} {ls : Array Slot} (hdg : decode code pc = .ok (.ireturn, 1)) : W p l e room_1 s m #[Value.ref b] below meth c H [] 14 396 (lw_Z below #[Value.ref b] s) (F0 m pc ls [.int 1]) := by
  intro T hT X
  obtain ⟨fs, hret, hrun, hended, hW, hframe⟩ := X.leave (v := some (.int 1)) (hlocks := hlocks) (fun h => by rw [hr] at h; cases h)
  have hmeth' : T.vm.method? m = some meth := X.method'
  refine ⟨T.setFrames fs, ?_, .returned (some (.int 1)), hrun, hended, rfl, ⟨_, rfl⟩, hW, hframe⟩
  jvm_step X.here [X.here.top, hx, hb, hdg, hmeth', hr, ret, narrow_b1]
  (try refine ⟨rfl, ?_⟩); (try refine ⟨rfl, ?_⟩)
  first | (intro acts; rw [hret _ acts rfl rfl rfl]) | rw [hret _ _ rfl rfl rfl]
  exact Steps.refl _
/-- what holds at the law's entry: the machine, the code, the tables' words (any of lw_tbl by 'hts w (by decide +kernel)'), the script of L ints xs at the cell b, what the Statement gives of the start (any of its parts by flat_of_before) -/
def lw_At (p : Program) (s : State) (m : MethodId) (meth : Method) (c : Code) (b L : Nat) (xs : Nat → Int32) : Prop :=
  p.tables.exec = Jvm.exec ∧ c.code = code ∧ meth.sig.returnType = ret ∧ c.maxLocals = 4 ∧ s.vm.findClass R_law = some m.cls ∧ (∀ w ∈ lw_tbl, w.before #[Value.ref b] s = true) ∧ va_X b L xs s s.heap ∧ b < s.heap.size ∧ meth.locks = false ∧ (Jvm.Cond.and given_1 narrow_1).before #[Value.ref b] s = true
-- ===== YOUR PART BEGINS =====
theorem op_16 (w : Int32) : w &&& 15 = 0 ∨ w &&& 15 = 1 ∨ w &&& 15 = 2 ∨ w &&& 15 = 3 ∨ w &&& 15 = 4 ∨ w &&& 15 = 5 ∨ w &&& 15 = 6 ∨ w &&& 15 = 7 ∨ w &&& 15 = 8 ∨ w &&& 15 = 9 ∨ w &&& 15 = 10 ∨ w &&& 15 = 11 ∨ w &&& 15 = 12 ∨ w &&& 15 = 13 ∨ w &&& 15 = 14 ∨ w &&& 15 = 15 := by
  obtain ⟨j, hj, e⟩ := pk_andE w (m := 15) 4 (by decide)
  rw [e]
  have h : ∀ j : Fin 16, nI j.val = 0 ∨ nI j.val = 1 ∨ nI j.val = 2 ∨ nI j.val = 3 ∨ nI j.val = 4 ∨ nI j.val = 5 ∨ nI j.val = 6 ∨ nI j.val = 7 ∨ nI j.val = 8 ∨ nI j.val = 9 ∨ nI j.val = 10 ∨ nI j.val = 11 ∨ nI j.val = 12 ∨ nI j.val = 13 ∨ nI j.val = 14 ∨ nI j.val = 15 := by decide +kernel
  exact h ⟨j, hj⟩
theorem lw_lim {L k : Nat} (hL : L ≤ 1536) (hk : k ≤ 2000) : (nI L - 3 < nI k) ↔ L < k + 3 := by
  rw [Int32.lt_iff_toInt_lt, show (3 : Int32) = nI 3 from by decide, pk_sub_toInt (by omega) (by omega), nI_toInt (by omega)]
  omega
theorem mx_F {B : Nat} {S D K : Nat → Int32} {pc sc ph dy wt : Int32} {M N C : Nat → Int32} {G : Nat → Int64} {E F T : Nat → Int32} {tm sn : Int64} (h : mx_I B S D K pc sc ph dy wt M N C G E F T tm sn) : (∀ j, F j = 0 ∨ F j = 1) ∧ (ph = 0 ∨ ph = 1 ∨ ph = 2 ∨ ph = 3) := by
  obtain ⟨-, -, d, w, s, t, g, -, hb, hp⟩ := h
  exact ⟨hb.2.2.2.2.2, mx_ph_4 hp⟩
