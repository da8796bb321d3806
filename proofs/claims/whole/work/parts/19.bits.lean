/-! Bits of a set of eight pages, held in an int. -/
theorem bt_dec : ∀ d : Fin 256, ∀ p : Fin 8, decide ((nI d.val >>> (nI p.val &&& 31)) &&& 1 = 0) = !(d.val.testBit p.val) := by decide +kernel
theorem bt_iff {d p : Nat} (hd : d < 256) (hp : p < 8) : mg_bt (nI d) (nI p) ↔ d.testBit p = true := by
  have h := bt_dec ⟨d, hd⟩ ⟨p, hp⟩
  dsimp only at h
  unfold mg_bt
  cases hb : d.testBit p with
  | true =>
    rw [hb] at h
    exact ⟨fun _ => rfl, fun _ q => absurd (decide_eq_true q) (by rw [h]; decide)⟩
  | false =>
    rw [hb] at h
    exact ⟨fun q => absurd (of_decide_eq_true h) q, fun q => absurd q (by decide)⟩
theorem bt_set : ∀ d : Fin 256, ∀ p : Fin 8, (nI d.val ||| ((1 : Int32) <<< (nI p.val &&& 31)) = nI (d.val ||| 2 ^ p.val)) ∧ d.val ||| 2 ^ p.val < 256 := by decide +kernel
theorem bt_clr : ∀ w : Fin 256, ∀ p : Fin 8, (nI w.val &&& (((1 : Int32) <<< (nI p.val &&& 31)) ^^^ (-1)) = nI (w.val &&& (255 ^^^ 2 ^ p.val))) ∧ w.val &&& (255 ^^^ 2 ^ p.val) < 256 := by decide +kernel
theorem bt_clrT : ∀ w : Fin 256, ∀ p q : Fin 8, (w.val &&& (255 ^^^ 2 ^ p.val)).testBit q.val = (w.val.testBit q.val && decide (q.val ≠ p.val)) := by decide +kernel
theorem bt_setT : ∀ w : Fin 256, ∀ p q : Fin 8, (w.val ||| 2 ^ p.val).testBit q.val = (w.val.testBit q.val || decide (q.val = p.val)) := by decide +kernel
theorem bt_all : ∀ p : Fin 8, (255).testBit p.val = true := by decide +kernel
theorem bt_zero : ∀ w : Fin 256, (w.val.testBit 0 = false ∧ w.val.testBit 1 = false ∧ w.val.testBit 2 = false ∧ w.val.testBit 3 = false ∧ w.val.testBit 4 = false ∧ w.val.testBit 5 = false ∧ w.val.testBit 6 = false ∧ w.val.testBit 7 = false) → w.val = 0 := by decide +kernel
theorem bt_0 {w : Nat} (hw : w < 256) (h : ∀ p, p < 8 → w.testBit p = false) : w = 0 := bt_zero ⟨w, hw⟩ ⟨h 0 (by decide), h 1 (by decide), h 2 (by decide), h 3 (by decide), h 4 (by decide), h 5 (by decide), h 6 (by decide), h 7 (by decide)⟩
def bt_n (b : Bool) : Nat := if b = true then 1 else 0
theorem bc_dec : ∀ d : Fin 256, mg_bc (nI d.val) = nI (0 + bt_n (d.val.testBit 0) + bt_n (d.val.testBit 1) + bt_n (d.val.testBit 2) + bt_n (d.val.testBit 3) + bt_n (d.val.testBit 4) + bt_n (d.val.testBit 5) + bt_n (d.val.testBit 6) + bt_n (d.val.testBit 7)) := by decide +kernel
theorem bc_ct {G : Nat → Int64} {sn : Int64} {d : Nat} (hd : d < 256) (h : ∀ p, p < 8 → (d.testBit p = true ↔ sn < G p)) : mg_bc (nI d) = nI (mr_ct G sn 8) := by
  have e : ∀ p, p < 8 → (if sn < G p then 1 else 0) = bt_n (d.testBit p) := fun p hp => by
    unfold bt_n
    by_cases q : sn < G p
    · rw [if_pos q, if_pos ((h p hp).mpr q)]
    · rw [if_neg q, if_neg (fun r => q ((h p hp).mp r))]
  rw [bc_dec ⟨d, hd⟩]
  dsimp only
  rw [← e 0 (by decide), ← e 1 (by decide), ← e 2 (by decide), ← e 3 (by decide), ← e 4 (by decide), ← e 5 (by decide), ← e 6 (by decide), ← e 7 (by decide)]
  rfl
theorem nI_0eq {w : Nat} (hw : w < 256) : nI w = 0 ↔ w = 0 := by
  have h := nI_eq (a := w) (b := 0) (by omega) (by omega)
  rw [nI_0] at h
  exact h
/-! Places. -/
theorem ad_of (x : Int32) : ∃ j : Nat, j < 64 ∧ x &&& 63 = nI j ∧ (x &&& 63).toNatClampNeg = j := by
  obtain ⟨j, hj, e⟩ := pk_andE x (m := 63) 6 (by decide)
  exact ⟨j, by omega, e, by rw [e]; exact nI_clamp (by omega)⟩
theorem pc_63 {pc : Int32} (h : vp_in pc 64) : pc &&& 63 = pc := by
  obtain ⟨j, hj, rfl⟩ := vp_in_of h (by decide)
  rw [pk_andN (by omega) 6 (by decide), Nat.mod_eq_of_lt (by omega)]
theorem ad_8 {j : Nat} (hj : j < 64) : (nI j / 8).toNatClampNeg = j / 8 ∧ nI j >>> ((3 : Int32) &&& 31) = nI (j / 8) := by
  constructor
  · rw [show (8 : Int32) = nI 8 from by decide, pk_div (by omega) (by omega) (by omega)]
    exact nI_clamp (by omega)
  · rw [pk_shrN (by omega) _ 3 (by decide)]
theorem mg_cp_i (S D : Nat → Int32) {p : Nat} (hp : p < 8) : ∀ i, i ≤ 8 → mg_cp S (nI p <<< ((3 : Int32) &&& 31)) i D = mr_cw S (8 * p) i D := by
  intro i
  induction i with
  | zero => intro _; exact (mr_cw_0 S (8 * p) D).symm
  | succ i ih =>
    intro hi
    have e : ((nI p <<< ((3 : Int32) &&& 31)) + nI i) &&& 63 = nI (8 * p + i) := by
      rw [pk_shlN _ 3 (by decide) (by omega), nI_add, pk_andN (by omega) 6 (by decide), Nat.mod_eq_of_lt (by omega)]
      congr 1
      omega
    show upd (mg_cp S (nI p <<< ((3 : Int32) &&& 31)) i D) (((nI p <<< ((3 : Int32) &&& 31)) + nI i) &&& 63).toNatClampNeg (S (((nI p <<< ((3 : Int32) &&& 31)) + nI i) &&& 63).toNatClampNeg) = _
    rw [e, nI_clamp (by omega), ih (by omega)]
    exact mr_cw_s S (8 * p) i D
theorem ia_iff {a : Int32} : mg_ia a ↔ mr_ia a := by
  unfold mg_ia mr_ia
  rw [Int32.le_iff_toInt_le, Int32.lt_iff_toInt_lt, Int32.lt_iff_toInt_lt]
  have h1 : (64 : Int32).toInt = 64 := by decide
  have h2 : (63 : Int32).toInt = 63 := by decide
  rw [h1, h2]
  omega
theorem ip_iff {a : Int32} : mg_ip a ↔ mr_ip a := by
  unfold mg_ip mr_ip
  rw [Int32.le_iff_toInt_le, Int32.lt_iff_toInt_lt, Int32.lt_iff_toInt_lt]
  have h1 : (8 : Int32).toInt = 8 := by decide
  have h2 : (7 : Int32).toInt = 7 := by decide
  rw [h1, h2]
  omega
theorem le_lt {a x y : Int32} (h : y.toInt + 1 = x.toInt) : x ≤ a ↔ y < a := by
  rw [Int32.le_iff_toInt_le, Int32.lt_iff_toInt_lt]
  omega
theorem ia_of {a : Int32} (h : mg_ia a) : ∃ j : Nat, j < 64 ∧ a = nI j ∧ a.toNatClampNeg = j := by
  obtain ⟨j, hj, rfl⟩ := vp_in_of (in_lt (y := 64) (n := 64) (by decide) h.1 h.2) (by decide)
  exact ⟨j, hj, rfl, nI_clamp (by omega)⟩
theorem ip_of {a : Int32} (h : mg_ip a) : ∃ j : Nat, j < 8 ∧ a = nI j ∧ a.toNatClampNeg = j := by
  obtain ⟨j, hj, rfl⟩ := vp_in_of (in_lt (y := 8) (n := 8) (by decide) h.1 h.2) (by decide)
  exact ⟨j, hj, rfl, nI_clamp (by omega)⟩
