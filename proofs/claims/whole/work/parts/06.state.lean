/-! What a state is: the class's (mgS), its cells, the reference's (mrS), its cells. -/
abbrev mgS : Type := (Nat → Int32) × (Nat → Int32) × (Nat → Int32) × (Nat → Int32) × Int32 × Int32 × Int32 × Int32 × Int32 × Int32 × Int32 × Int32
abbrev mg_W (h0 q1 q2 q3 q4 : Nat) (cA : ClassId) (u : mgS) : va_W := match u with
  | (S, D, R, K, pc, sc, ph, rd, th, lm, dy, wt) => [(h0, .inr (0, [.ref q1, .ref q2, .ref q3, .ref q4, .int pc, .int sc, .int ph, .int rd, .int th, .int lm, .int dy, .int wt])), (q1, .inl (cA, 64, .inl S)), (q2, .inl (cA, 64, .inl D)), (q3, .inl (cA, 4, .inl R)), (q4, .inl (cA, 8, .inl K))]
abbrev at_mg (dC : Nat → ClassId) (dI : Nat → Nat → Nat) (h0 q1 q2 q3 q4 : Nat) (cA : ClassId) (A : Nat → Prop) (u : mgS) (t : State) : Prop := va_P (dC, dI) vwCl (mg_W h0 q1 q2 q3 q4 cA u) t.heap ∧ va_K (dC, dI) vwCl [(cA, .int)] t ∧ va_D A (mg_W h0 q1 q2 q3 q4 cA u)
abbrev at_no (dC : Nat → ClassId) (dI : Nat → Nat → Nat) (A : Nat → Prop) (_ : Unit) (t : State) : Prop := va_P (dC, dI) vwCl [] t.heap ∧ va_K (dC, dI) vwCl [] t ∧ va_D A []
abbrev mrS : Type := (Nat → Int32) × (Nat → Int32) × (Nat → Int32) × (Nat → Int32) × (Nat → Int64) × (Nat → Int32) × (Nat → Int32) × (Nat → Int32) × Int32 × Int32 × Int32 × Int32 × Int32 × Int32 × Int64 × Int64
abbrev mr_W (h0 q1 q2 q3 q4 q5 q6 q7 q8 : Nat) (cA cJ cZ : ClassId) (v : mrS) : va_W := match v with
  | (M, N, C, R, G, E, F, T, pc, ph, rd, th, lm, sh, tm, sn) => [(h0, .inr (1, [.ref q1, .ref q2, .ref q3, .ref q4, .ref q5, .ref q6, .ref q7, .ref q8, .int pc, .int ph, .int rd, .int th, .int lm, .int sh, .long tm, .long sn])), (q1, .inl (cA, 64, .inl M)), (q2, .inl (cA, 64, .inl N)), (q3, .inl (cA, 64, .inl C)), (q4, .inl (cA, 4, .inl R)), (q5, .inl (cJ, 8, .inr (.inl G))), (q6, .inl (cZ, 8, .inl E)), (q7, .inl (cZ, 8, .inl F)), (q8, .inl (cA, 8, .inl T))]
abbrev at_mr (dC : Nat → ClassId) (dI : Nat → Nat → Nat) (h0 q1 q2 q3 q4 q5 q6 q7 q8 : Nat) (cA cJ cZ : ClassId) (A : Nat → Prop) (v : mrS) (t : State) : Prop := va_P (dC, dI) vwCl (mr_W h0 q1 q2 q3 q4 q5 q6 q7 q8 cA cJ cZ v) t.heap ∧ va_K (dC, dI) vwCl [(cA, .int), (cJ, .long), (cZ, .boolean)] t ∧ va_D A (mr_W h0 q1 q2 q3 q4 q5 q6 q7 q8 cA cJ cZ v)
/-! Places in range. -/
theorem in_63 (x : Int32) : vp_in (x &&& 63) 64 := pk_andIn x 6 (by decide) (by decide)
theorem in_7 (x : Int32) : vp_in (x &&& 7) 8 := pk_andIn x 3 (by decide) (by decide)
theorem in_3 (x : Int32) : vp_in (x &&& 3) 4 := pk_andIn x 2 (by decide) (by decide)
theorem in_lt {x y : Int32} {n : Nat} (hy : y.toInt = n) (h0 : ¬ x < 0) (h1 : ¬ y ≤ x) : vp_in x n := by
  rw [vp_in_iff]
  rw [Int32.lt_iff_toInt_lt] at h0
  rw [Int32.le_iff_toInt_le] at h1
  have : (0 : Int32).toInt = 0 := by decide
  omega
theorem in_le {x y : Int32} {n : Nat} (hy : y.toInt + 1 = n) (h0 : ¬ x < 0) (h1 : ¬ y < x) : vp_in x n := by
  rw [vp_in_iff]
  rw [Int32.lt_iff_toInt_lt] at h0 h1
  have : (0 : Int32).toInt = 0 := by decide
  omega
theorem op_8 (w : Int32) : w &&& 7 = 0 ∨ w &&& 7 = 1 ∨ w &&& 7 = 2 ∨ w &&& 7 = 3 ∨ w &&& 7 = 4 ∨ w &&& 7 = 5 ∨ w &&& 7 = 6 ∨ w &&& 7 = 7 := by
  obtain ⟨j, hj, e⟩ := pk_andE w (m := 7) 3 (by decide)
  rw [e]
  have h : ∀ j : Fin 8, nI j.val = 0 ∨ nI j.val = 1 ∨ nI j.val = 2 ∨ nI j.val = 3 ∨ nI j.val = 4 ∨ nI j.val = 5 ∨ nI j.val = 6 ∨ nI j.val = 7 := by decide +kernel
  exact h ⟨j, hj⟩
/-! What the class's methods do. -/
def mg_ia (a : Int32) : Prop := ¬ a < 0 ∧ ¬ 64 ≤ a
def mg_ip (a : Int32) : Prop := ¬ a < 0 ∧ ¬ 8 ≤ a
def mg_rw (S D : Nat → Int32) (ph x : Int32) : Int32 := if ph = 3 then D (x &&& 63).toNatClampNeg else S (x &&& 63).toNatClampNeg
def mg_ww (S D : Nat → Int32) (ph dy x v : Int32) : (Nat → Int32) × (Nat → Int32) × Int32 :=
  if ph = 3 then (S, upd D (x &&& 63).toNatClampNeg v, dy)
  else if ph = 1 then (upd S (x &&& 63).toNatClampNeg v, D, dy ||| (1 <<< (((x &&& 63) >>> ((3 : Int32) &&& 31)) &&& 31)))
  else (upd S (x &&& 63).toNatClampNeg v, D, dy)
abbrev mg_a (w : Int32) : Int32 := (w >>> ((3 : Int32) &&& 31)) &&& 3
abbrev mg_b (w : Int32) : Int32 := (w >>> ((5 : Int32) &&& 31)) &&& 3
abbrev mg_k (w : Int32) : Int32 := (w >>> ((7 : Int32) &&& 31)) &&& 127
def mg_go (op : Int32) (w : Int32) (u : mgS) : mgS := match u with
  | (S, D, R, K, pc, sc, ph, rd, th, lm, dy, wt) =>
    if op = 0 then (S, D, R, K, pc &&& 63, sc, ph, rd, th, lm, dy, wt)
    else if op = 1 then (S, D, upd R (mg_a w).toNatClampNeg (mg_k w), K, (pc + 1) &&& 63, sc, ph, rd, th, lm, dy, wt)
    else if op = 2 then (S, D, upd R (mg_a w).toNatClampNeg (mg_rw S D ph (R (mg_b w).toNatClampNeg + mg_k w)), K, (pc + 1) &&& 63, sc, ph, rd, th, lm, dy, wt)
    else if op = 3 then ((mg_ww S D ph dy (R (mg_b w).toNatClampNeg + mg_k w) (R (mg_a w).toNatClampNeg)).1, (mg_ww S D ph dy (R (mg_b w).toNatClampNeg + mg_k w) (R (mg_a w).toNatClampNeg)).2.1, R, K, (pc + 1) &&& 63, sc, ph, rd, th, lm, (mg_ww S D ph dy (R (mg_b w).toNatClampNeg + mg_k w) (R (mg_a w).toNatClampNeg)).2.2, wt)
    else if op = 4 then (S, D, upd R (mg_a w).toNatClampNeg (R (mg_a w).toNatClampNeg + R (mg_b w).toNatClampNeg), K, (pc + 1) &&& 63, sc, ph, rd, th, lm, dy, wt)
    else if op = 5 then (S, D, upd R (mg_a w).toNatClampNeg (R (mg_a w).toNatClampNeg - R (mg_b w).toNatClampNeg), K, (pc + 1) &&& 63, sc, ph, rd, th, lm, dy, wt)
    else if op = 6 then (S, D, R, K, (if R (mg_a w).toNatClampNeg = 0 then pc + 1 else mg_k w) &&& 63, sc, ph, rd, th, lm, dy, wt)
    else (S, D, R, upd K (sc &&& 7).toNatClampNeg (R (mg_a w).toNatClampNeg), (pc + 1) &&& 63, sc + 1, ph, rd, th, lm, dy, wt)
def mg_step (u : mgS) : mgS := mg_go (mg_rw u.1 u.2.1 u.2.2.2.2.2.2.1 u.2.2.2.2.1 &&& 7) (mg_rw u.1 u.2.1 u.2.2.2.2.2.2.1 u.2.2.2.2.1) u
def mg_it : Nat → mgS → mgS
  | 0, u => u
  | n + 1, u => mg_step (mg_it n u)
def mg_cp (S : Nat → Int32) (f : Int32) : Nat → (Nat → Int32) → (Nat → Int32)
  | 0, D => D
  | i + 1, D => upd (mg_cp S f i D) ((f + nI i) &&& 63).toNatClampNeg (S ((f + nI i) &&& 63).toNatClampNeg)
def mg_bt (x y : Int32) : Prop := ¬ (x >>> (y &&& 31)) &&& 1 = 0
def mg_bc (i : Int32) : Int32 :=
  let us (x k : Int32) : Int32 := (x.toUInt32 >>> (k.toUInt32 &&& Int32.toUInt32 31)).toInt32
  let a := i - (us i 1 &&& 1431655765)
  let b := (a &&& 858993459) + (us a 2 &&& 858993459)
  let c := (b + us b 4) &&& 252645135
  let d := c + us c 8
  let f := d + us d 16
  f &&& 63
