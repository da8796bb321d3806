/-! What the reference's methods do. -/
def mr_ia (a : Int32) : Prop := ¬ a < 0 ∧ ¬ 63 < a
def mr_ip (a : Int32) : Prop := ¬ a < 0 ∧ ¬ 7 < a
def mr_dt (G : Nat → Int64) (F : Nat → Int32) (ph : Int32) (sn : Int64) (a : Int32) : Prop := (ph = 1 ∧ sn < G a.toNatClampNeg) ∨ (¬ ph = 0 ∧ ¬ ph = 1 ∧ F a.toNatClampNeg = 1)
def mr_sf (j : Nat) (T : Nat → Int32) : Nat → Int32 := fun k => if j < k ∧ k ≤ 7 then T (k - 1) else T k
theorem mr_sf_7 (T : Nat → Int32) : mr_sf 7 T = T := by
  funext k
  unfold mr_sf
  rw [if_neg (by omega)]
theorem mr_sf_s (j : Nat) (hj : j < 7) (T : Nat → Int32) : upd (mr_sf (j + 1) T) (j + 1) (mr_sf (j + 1) T j) = mr_sf j T := by
  funext k
  unfold upd
  by_cases h : k = j + 1
  · rw [if_pos h]
    subst h
    unfold mr_sf
    rw [if_neg (by omega), if_pos (by omega)]
    rfl
  · rw [if_neg h]
    unfold mr_sf
    by_cases h2 : j + 1 < k ∧ k ≤ 7
    · rw [if_pos h2, if_pos (by omega)]
    · rw [if_neg h2, if_neg (by omega)]
def mr_go (op : Int32) (w : Int32) (v : mrS) : mrS := match v with
  | (M, N, C, R, G, E, F, T, pc, ph, rd, th, lm, sh, tm, sn) =>
    if op = 0 then (M, N, C, R, G, E, F, T, pc, ph, rd, th, lm, sh, tm, sn)
    else if op = 1 then (M, N, C, upd R (mg_a w).toNatClampNeg (mg_k w), G, E, F, T, (pc + 1) &&& 63, ph, rd, th, lm, sh, tm, sn)
    else if op = 2 then (M, N, C, upd R (mg_a w).toNatClampNeg (M ((R (mg_b w).toNatClampNeg + mg_k w) &&& 63).toNatClampNeg), G, E, F, T, (pc + 1) &&& 63, ph, rd, th, lm, sh, tm, sn)
    else if op = 3 then (upd M ((R (mg_b w).toNatClampNeg + mg_k w) &&& 63).toNatClampNeg (R (mg_a w).toNatClampNeg), N, C, R, vp_updL G (((R (mg_b w).toNatClampNeg + mg_k w) &&& 63) / 8).toNatClampNeg (tm + 1), E, F, T, (pc + 1) &&& 63, ph, rd, th, lm, sh, tm + 1, sn)
    else if op = 4 then (M, N, C, upd R (mg_a w).toNatClampNeg (R (mg_a w).toNatClampNeg + R (mg_b w).toNatClampNeg), G, E, F, T, (pc + 1) &&& 63, ph, rd, th, lm, sh, tm, sn)
    else if op = 5 then (M, N, C, upd R (mg_a w).toNatClampNeg (R (mg_a w).toNatClampNeg - R (mg_b w).toNatClampNeg), G, E, F, T, (pc + 1) &&& 63, ph, rd, th, lm, sh, tm, sn)
    else if op = 6 then (M, N, C, R, G, E, F, T, (if R (mg_a w).toNatClampNeg = 0 then (pc + 1) &&& 63 else mg_k w &&& 63), ph, rd, th, lm, sh, tm, sn)
    else (M, N, C, R, G, E, F, upd (mr_sf 0 T) 0 (R (mg_a w).toNatClampNeg), (pc + 1) &&& 63, ph, rd, th, lm, sh + 1, tm, sn)
def mr_step (v : mrS) : mrS := mr_go (v.1 v.2.2.2.2.2.2.2.2.1.toNatClampNeg &&& 7) (v.1 v.2.2.2.2.2.2.2.2.1.toNatClampNeg) v
def mr_it : Nat → mrS → mrS
  | 0, v => v
  | n + 1, v => mr_step (mr_it n v)
theorem mr_go_pc (op w : Int32) (v : mrS) (h : vp_in v.2.2.2.2.2.2.2.2.1 64) : vp_in (mr_go op w v).2.2.2.2.2.2.2.2.1 64 := by
  obtain ⟨M, N, C, R, G, E, F, T, pc, ph, rd, th, lm, sh, tm, sn⟩ := v
  have h : vp_in pc 64 := h
  unfold mr_go
  dsimp only
  split
  · exact h
  split
  · exact in_63 _
  split
  · exact in_63 _
  split
  · exact in_63 _
  split
  · exact in_63 _
  split
  · exact in_63 _
  split
  · dsimp only
    split
    · exact in_63 _
    · exact in_63 _
  · exact in_63 _
theorem mr_it_pc (n : Nat) (v : mrS) (h : vp_in v.2.2.2.2.2.2.2.2.1 64) : vp_in (mr_it n v).2.2.2.2.2.2.2.2.1 64 := by
  induction n with
  | zero => exact h
  | succ n ih => exact mr_go_pc _ _ _ ih
def mr_rn (ph n : Int32) : Prop := ¬ n < 0 ∧ ¬ 1000 < n ∧ ¬ ph = 2
def mr_bg (ph t l : Int32) : Prop := ¬ t < 0 ∧ ¬ 8 < t ∧ ¬ l < 1 ∧ ¬ 20 < l ∧ ph = 0
def mr_en (i : Nat) (E : Nat → Int32) : Nat → Int32 := fun j => if j < i then 1 else E j
theorem mr_en_s (i : Nat) (E : Nat → Int32) : upd (mr_en i E) i (vp_nar .boolean 1) = mr_en (i + 1) E := by
  funext k
  unfold upd mr_en
  by_cases h : k = i
  · rw [if_pos h, if_pos (by omega)]; decide
  · rw [if_neg h]
    by_cases h2 : k < i
    · rw [if_pos h2, if_pos (by omega)]
    · rw [if_neg h2, if_neg (by omega)]
theorem mr_en_0 (E : Nat → Int32) : mr_en 0 E = E := by
  funext k
  exact if_neg (by omega)
/-- a stretch of b words from place a on, copied -/
def mr_cw (M : Nat → Int32) (a b : Nat) (C : Nat → Int32) : Nat → Int32 := fun j => if a ≤ j ∧ j < a + b then M j else C j
theorem mr_cw_0 (M : Nat → Int32) (a : Nat) (C : Nat → Int32) : mr_cw M a 0 C = C := by
  funext k
  exact if_neg (by omega)
theorem mr_cw_s (M : Nat → Int32) (a b : Nat) (C : Nat → Int32) : upd (mr_cw M a b C) (a + b) (M (a + b)) = mr_cw M a (b + 1) C := by
  funext k
  unfold upd mr_cw
  by_cases h : k = a + b
  · rw [if_pos h, if_pos (by omega), h]
  · rw [if_neg h]
    by_cases h2 : a ≤ k ∧ k < a + b
    · rw [if_pos h2, if_pos (by omega)]
    · rw [if_neg h2, if_neg (by omega)]
/-- the pages written since: a row of i places anew -/
def mr_wr (G : Nat → Int64) (sn : Int64) (i : Nat) (E : Nat → Int32) : Nat → Int32 := fun j => if j < i then (if sn < G j then 1 else 0) else E j
theorem mr_wr_0 (G : Nat → Int64) (sn : Int64) (E : Nat → Int32) : mr_wr G sn 0 E = E := by
  funext k
  exact if_neg (by omega)
theorem mr_wr_s (G : Nat → Int64) (sn : Int64) (i : Nat) (E : Nat → Int32) (x : Int32) (hx : x = if sn < G i then 1 else 0) : upd (mr_wr G sn i E) i x = mr_wr G sn (i + 1) E := by
  funext k
  unfold upd mr_wr
  by_cases h : k = i
  · rw [if_pos h, if_pos (by omega), hx, h]
  · rw [if_neg h]
    by_cases h2 : k < i
    · rw [if_pos h2, if_pos (show k < i + 1 by omega)]
    · rw [if_neg h2, if_neg (by omega)]
def mr_ct (G : Nat → Int64) (sn : Int64) : Nat → Nat
  | 0 => 0
  | i + 1 => mr_ct G sn i + (if sn < G i then 1 else 0)
def mr_erP (M N C R : Nat → Int32) (G : Nat → Int64) (E F T : Nat → Int32) (pc ph rd th lm sh : Int32) (tm sn : Int64) (r : Int32) (u : mrS) : Prop :=
  (r = 33 ∧ (nI (mr_ct G sn 8) ≤ th ∨ rd = lm) ∧ u = (M, N, C, R, G, mr_wr G sn 8 E, mr_wr G sn 8 F, T, pc, 2, rd, th, lm, sh, tm, sn)) ∨
  (r = 32 ∧ ¬ nI (mr_ct G sn 8) ≤ th ∧ ¬ rd = lm ∧ u = (M, N, C, R, G, mr_wr G sn 8 E, mr_wr G sn 8 F, T, pc, ph, rd + 1, th, lm, sh, tm, tm))
def mr_cyP (M N C R : Nat → Int32) (G : Nat → Int64) (E F T : Nat → Int32) (pc ph rd th lm sh : Int32) (tm sn : Int64) (r : Int32) (u : mrS) : Prop :=
  ((ph = 0 ∨ ph = 3) ∧ r = -1 ∧ u = (M, N, C, R, G, E, F, T, pc, ph, rd, th, lm, sh, tm, sn)) ∨
  (¬ ph = 0 ∧ ¬ ph = 3 ∧ ∃ p : Nat, p < 8 ∧ ¬ E p = 0 ∧ (∀ k, k < p → E k = 0) ∧ r = nI p ∧ u = (M, N, mr_cw M (8 * p) 8 C, R, G, upd E p 0, F, T, pc, ph, rd, th, lm, sh, tm, sn)) ∨
  (ph = 2 ∧ (∀ k, k < 8 → E k = 0) ∧ r = 34 ∧ u = (M, mr_cw M 0 64 N, C, R, G, E, F, T, pc, 3, rd, th, lm, sh, tm, sn)) ∨
  (ph = 1 ∧ (∀ k, k < 8 → E k = 0) ∧ mr_erP M N C R G E F T pc ph rd th lm sh tm sn r u)
theorem in_d8 (x : Int32) : vp_in ((x &&& 63) / 8) 8 := by
  obtain ⟨j, hj, e⟩ := pk_andE x (m := 63) 6 (by decide)
  rw [e, show (8 : Int32) = nI 8 from by decide, pk_div (by omega) (by omega) (by omega)]
  exact vp_in_nI (by omega) (by omega)
theorem mr_ix {p i : Nat} : (8 : Int32) * nI p + nI i = nI (8 * p + i) := by
  rw [show (8 : Int32) = nI 8 from by decide, pk_mul, nI_add]
theorem in_ix {p i : Nat} (hp : p < 8) (hi : i < 8) : vp_in ((8 : Int32) * nI p + nI i) 64 := by
  rw [mr_ix]
  exact vp_in_nI (by omega) (by omega)
theorem cl_ix {p i : Nat} (hp : p < 8) (hi : i < 8) : ((8 : Int32) * nI p + nI i).toNatClampNeg = 8 * p + i := by
  rw [mr_ix]
  exact nI_clamp (by omega)
