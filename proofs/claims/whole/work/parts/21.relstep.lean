/-! A guest step at both sides. -/
theorem mx_step {B : Nat} {S D R K : Nat → Int32} {pc sc ph rd th lm dy wt : Int32} {M N C : Nat → Int32} {G : Nat → Int64} {E F T : Nat → Int32} {tm sn : Int64} (h : mx_I B S D K pc sc ph dy wt M N C G E F T tm sn) (h2 : ¬ ph = 2) (hB : B < 2 ^ 30) :
    ∃ (S' D' R' K' : Nat → Int32) (pc' sc' dy' : Int32) (M' : Nat → Int32) (G' : Nat → Int64) (T' : Nat → Int32) (tm' : Int64),
      mg_step (S, D, R, K, pc, sc, ph, rd, th, lm, dy, wt) = (S', D', R', K', pc', sc', ph, rd, th, lm, dy', wt) ∧
      mr_step (M, N, C, R, G, E, F, T, pc, ph, rd, th, lm, sc, tm, sn) = (M', N, C, R', G', E, F, T', pc', ph, rd, th, lm, sc', tm', sn) ∧
      mx_I (B + 1) S' D' K' pc' sc' ph dy' wt M' N C G' E F T' tm' sn := by
  have h0 := h
  obtain ⟨hpc, hsh, d, w, s, t, g, htm, hbt, hph⟩ := h0
  have e63 : pc &&& 63 = pc := pc_63 hpc
  have ew : mg_rw S D ph pc = M pc.toNatClampNeg := by rw [mx_rw hph pc, e63]
  have e1 : mg_step (S, D, R, K, pc, sc, ph, rd, th, lm, dy, wt) = mg_go (M pc.toNatClampNeg &&& 7) (M pc.toNatClampNeg) (S, D, R, K, pc, sc, ph, rd, th, lm, dy, wt) := by
    show mg_go (mg_rw S D ph pc &&& 7) (mg_rw S D ph pc) _ = _
    rw [ew]
  have e2 : mr_step (M, N, C, R, G, E, F, T, pc, ph, rd, th, lm, sc, tm, sn) = mr_go (M pc.toNatClampNeg &&& 7) (M pc.toNatClampNeg) (M, N, C, R, G, E, F, T, pc, ph, rd, th, lm, sc, tm, sn) := rfl
  rw [e1, e2]
  generalize M pc.toNatClampNeg = x
  rcases op_8 x with o | o | o | o | o | o | o | o
  · rw [o]
    refine ⟨S, D, R, K, pc, sc, dy, M, G, T, tm, ?_, rfl, mx_I_le h (by omega) hpc⟩
    show (S, D, R, K, pc &&& 63, sc, ph, rd, th, lm, dy, wt) = _
    rw [e63]
  · rw [o]
    exact ⟨S, D, _, K, _, sc, dy, M, G, T, tm, rfl, rfl, mx_I_le h (by omega) (in_63 _)⟩
  · rw [o]
    refine ⟨S, D, _, K, _, sc, dy, M, G, T, tm, rfl, ?_, mx_I_le h (by omega) (in_63 _)⟩
    rw [mx_rw hph]
    rfl
  · rw [o]
    obtain ⟨j, hj, ej, ec⟩ := ad_of (R (mg_b x).toNatClampNeg + mg_k x)
    obtain ⟨q1, q2, q3, q4, q5⟩ := htm
    obtain ⟨b1, b2, b3⟩ := hbt
    obtain ⟨S', D', d', ww, hd', hph'⟩ := mx_ww (t := t) hph h2 b2 q4 (R (mg_b x).toNatClampNeg + mg_k x) (R (mg_a x).toNatClampNeg) hj ej
    refine ⟨S', D', R, K, (pc + 1) &&& 63, sc, nI d', upd M j (R (mg_a x).toNatClampNeg), vp_updL G (j / 8) (lN (t + 1)), T, lN (t + 1), ?_, ?_, in_63 _, mx_sh_le hsh (by omega), d', w, s, t + 1, fun q => if q = j / 8 then t + 1 else g q, ⟨rfl, by omega, q3, by omega, ?_⟩, ⟨rfl, hd', b3⟩, hph'⟩
    · show ((mg_ww S D ph dy (R (mg_b x).toNatClampNeg + mg_k x) (R (mg_a x).toNatClampNeg)).1, (mg_ww S D ph dy (R (mg_b x).toNatClampNeg + mg_k x) (R (mg_a x).toNatClampNeg)).2.1, R, K, (pc + 1) &&& 63, sc, ph, rd, th, lm, (mg_ww S D ph dy (R (mg_b x).toNatClampNeg + mg_k x) (R (mg_a x).toNatClampNeg)).2.2, wt) = _
      rw [b1, ww]
    · show (upd M ((R (mg_b x).toNatClampNeg + mg_k x) &&& 63).toNatClampNeg (R (mg_a x).toNatClampNeg), N, C, R, vp_updL G (((R (mg_b x).toNatClampNeg + mg_k x) &&& 63) / 8).toNatClampNeg (tm + 1), E, F, T, (pc + 1) &&& 63, ph, rd, th, lm, sc, tm + 1, sn) = _
      rw [ec, ej, (ad_8 hj).1, q1, lN_1]
    · intro p hp
      show vp_updL G (j / 8) (lN (t + 1)) p = lN (if p = j / 8 then t + 1 else g p) ∧ (if p = j / 8 then t + 1 else g p) ≤ t + 1
      by_cases q : p = j / 8
      · rw [if_pos q, q]
        exact ⟨pk_uLs, Nat.le_refl _⟩
      · rw [if_neg q, pk_uLn q]
        exact ⟨(q5 p hp).1, Nat.le_succ_of_le (q5 p hp).2⟩
  · rw [o]
    exact ⟨S, D, _, K, _, sc, dy, M, G, T, tm, rfl, rfl, mx_I_le h (by omega) (in_63 _)⟩
  · rw [o]
    exact ⟨S, D, _, K, _, sc, dy, M, G, T, tm, rfl, rfl, mx_I_le h (by omega) (in_63 _)⟩
  · rw [o]
    refine ⟨S, D, R, K, (if R (mg_a x).toNatClampNeg = 0 then pc + 1 else mg_k x) &&& 63, sc, dy, M, G, T, tm, rfl, ?_, mx_I_le h (by omega) (in_63 _)⟩
    show (M, N, C, R, G, E, F, T, (if R (mg_a x).toNatClampNeg = 0 then (pc + 1) &&& 63 else mg_k x &&& 63), ph, rd, th, lm, sc, tm, sn) = _
    by_cases q : R (mg_a x).toNatClampNeg = 0
    · rw [if_pos q, if_pos q]
    · rw [if_neg q, if_neg q]
  · rw [o]
    exact ⟨S, D, R, _, _, _, dy, M, G, _, tm, rfl, rfl, in_63 _, mx_show hsh hB _, d, w, s, t, g, mx_tm_le htm (by omega), hbt, hph⟩
theorem mx_it (n : Nat) {B : Nat} {S D R K : Nat → Int32} {pc sc ph rd th lm dy wt : Int32} {M N C : Nat → Int32} {G : Nat → Int64} {E F T : Nat → Int32} {tm sn : Int64} (h : mx_I B S D K pc sc ph dy wt M N C G E F T tm sn) (h2 : ¬ ph = 2) (hB : B + n ≤ 2 ^ 30) :
    ∃ (S' D' R' K' : Nat → Int32) (pc' sc' dy' : Int32) (M' : Nat → Int32) (G' : Nat → Int64) (T' : Nat → Int32) (tm' : Int64),
      mg_it n (S, D, R, K, pc, sc, ph, rd, th, lm, dy, wt) = (S', D', R', K', pc', sc', ph, rd, th, lm, dy', wt) ∧
      mr_it n (M, N, C, R, G, E, F, T, pc, ph, rd, th, lm, sc, tm, sn) = (M', N, C, R', G', E, F, T', pc', ph, rd, th, lm, sc', tm', sn) ∧
      mx_I (B + n) S' D' K' pc' sc' ph dy' wt M' N C G' E F T' tm' sn := by
  induction n with
  | zero => exact ⟨S, D, R, K, pc, sc, dy, M, G, T, tm, rfl, rfl, h⟩
  | succ n ih =>
    obtain ⟨S1, D1, R1, K1, pc1, sc1, dy1, M1, G1, T1, tm1, a1, a2, a3⟩ := ih (by omega)
    obtain ⟨S2, D2, R2, K2, pc2, sc2, dy2, M2, G2, T2, tm2, b1, b2, b3⟩ := mx_step (R := R1) (rd := rd) (th := th) (lm := lm) a3 h2 (by omega)
    refine ⟨S2, D2, R2, K2, pc2, sc2, dy2, M2, G2, T2, tm2, ?_, ?_, b3⟩
    · show mg_step (mg_it n _) = _
      rw [a1, b1]
    · show mr_step (mr_it n _) = _
      rw [a2, b2]
