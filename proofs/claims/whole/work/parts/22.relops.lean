/-! Each call at both sides: the same answer, and the relation goes on. -/
def mx_R (B : Nat) (u : mgS) (v : mrS) : Prop := ∃ (S D R K : Nat → Int32) (pc sc ph rd th lm dy wt : Int32) (M N C : Nat → Int32) (G : Nat → Int64) (E F T : Nat → Int32) (tm sn : Int64), u = (S, D, R, K, pc, sc, ph, rd, th, lm, dy, wt) ∧ v = (M, N, C, R, G, E, F, T, pc, ph, rd, th, lm, sc, tm, sn) ∧ mx_I B S D K pc sc ph dy wt M N C G E F T tm sn
section MX
variable {B : Nat} {S D R K : Nat → Int32} {pc sc ph rd th lm dy wt : Int32} {M N C : Nat → Int32} {G : Nat → Int64} {E F T : Nat → Int32} {tm sn : Int64} {d w s t : Nat} {g : Nat → Nat} {r r' : Int32} {u : mgS} {v : mrS} {a b : Int32}
theorem mx_same (h : mx_I B S D K pc sc ph dy wt M N C G E F T tm sn) (hu : u = (S, D, R, K, pc, sc, ph, rd, th, lm, dy, wt)) (hv : v = (M, N, C, R, G, E, F, T, pc, ph, rd, th, lm, sc, tm, sn)) : mx_R (B + 1000) u v :=
  ⟨S, D, R, K, pc, sc, ph, rd, th, lm, dy, wt, M, N, C, G, E, F, T, tm, sn, hu, hv, mx_I_le h (by omega) h.1⟩
theorem mx_is0 (h : mx_ph S D M N C F ph d w s g) (e : ph = 0) : d = 0 ∧ w = 0 ∧ (∀ j, j < 64 → S j = M j) ∧ (∀ j, j < 64 → D j = C j) := by
  rcases h with h | h | h | h
  · exact h.2
  · exact absurd (e.symm.trans h.1) (by decide)
  · exact absurd (e.symm.trans h.1) (by decide)
  · exact absurd (e.symm.trans h.1) (by decide)
theorem mx_is1 (h : mx_ph S D M N C F ph d w s g) (e : ph = 1) : (∀ p, p < 8 → (d.testBit p = true ↔ s < g p)) ∧ (∀ j, j < 64 → S j = M j) ∧ (∀ j, j < 64 → D j = C j) ∧ (∀ j, j < 64 → w.testBit (j / 8) = false → d.testBit (j / 8) = false → D j = S j) := by
  rcases h with h | h | h | h
  · exact absurd (e.symm.trans h.1) (by decide)
  · exact h.2
  · exact absurd (e.symm.trans h.1) (by decide)
  · exact absurd (e.symm.trans h.1) (by decide)
theorem mx_is2 (h : mx_ph S D M N C F ph d w s g) (e : ph = 2) : (∀ p, p < 8 → (d.testBit p = true ↔ F p = 1)) ∧ (∀ j, j < 64 → S j = M j) ∧ (∀ j, j < 64 → D j = C j) ∧ (∀ j, j < 64 → w.testBit (j / 8) = false → D j = S j) := by
  rcases h with h | h | h | h
  · exact absurd (e.symm.trans h.1) (by decide)
  · exact absurd (e.symm.trans h.1) (by decide)
  · exact h.2
  · exact absurd (e.symm.trans h.1) (by decide)
theorem mx_is3 (h : mx_ph S D M N C F ph d w s g) (e : ph = 3) : (∀ p, p < 8 → (d.testBit p = true ↔ F p = 1)) ∧ w = 0 ∧ (∀ j, j < 64 → D j = M j) ∧ (∀ j, j < 64 → S j = N j) := by
  rcases h with h | h | h | h
  · exact absurd (e.symm.trans h.1) (by decide)
  · exact absurd (e.symm.trans h.1) (by decide)
  · exact absurd (e.symm.trans h.1) (by decide)
  · exact h.2
theorem mx_poke (h : mx_I B S D K pc sc ph dy wt M N C G E F T tm sn)
    (hu : (r = 1 ∧ (ph = 0 ∧ mg_ia a) ∧ u = (upd S a.toNatClampNeg b, D, R, K, pc, sc, ph, rd, th, lm, dy, wt)) ∨ (r = 0 ∧ ¬ (ph = 0 ∧ mg_ia a) ∧ u = (S, D, R, K, pc, sc, ph, rd, th, lm, dy, wt)))
    (hv : (r' = 1 ∧ (mr_ia a ∧ ph = 0) ∧ v = (upd M a.toNatClampNeg b, N, C, R, G, E, F, T, pc, ph, rd, th, lm, sc, tm, sn)) ∨ (r' = 0 ∧ ¬ (mr_ia a ∧ ph = 0) ∧ v = (M, N, C, R, G, E, F, T, pc, ph, rd, th, lm, sc, tm, sn))) :
    r = r' ∧ mx_R (B + 1000) u v := by
  rcases hu with ⟨e1, q1, hu⟩ | ⟨e1, q1, hu⟩
  · rcases hv with ⟨e2, q2, hv⟩ | ⟨e2, q2, hv⟩
    · refine ⟨by rw [e1, e2], ?_⟩
      obtain ⟨hpc, hsh, d, w, s, t, g, htm, hbt, hph⟩ := h
      have h0 := mx_is0 hph q1.1
      exact ⟨_, D, R, K, pc, sc, ph, rd, th, lm, dy, wt, _, N, C, G, E, F, T, tm, sn, hu, hv, hpc, mx_sh_le hsh (by omega), d, w, s, t, g, mx_tm_le htm (by omega), hbt, Or.inl ⟨q1.1, h0.1, h0.2.1, upd_on h0.2.2.1 _ _, h0.2.2.2⟩⟩
    · exact absurd ⟨ia_iff.mp q1.2, q1.1⟩ q2
  · rcases hv with ⟨e2, q2, hv⟩ | ⟨e2, q2, hv⟩
    · exact absurd ⟨q2.2, ia_iff.mpr q2.1⟩ q1
    · exact ⟨by rw [e1, e2], mx_same h hu hv⟩
theorem bg_iff : mg_bg ph a b ↔ mr_bg ph a b := by
  unfold mg_bg mr_bg
  rw [Int32.not_lt (a := (20 : Int32))]
  constructor
  · rintro ⟨h1, h2, h3, h4, h5⟩; exact ⟨h2, h3, h4, h5, h1⟩
  · rintro ⟨h2, h3, h4, h5, h1⟩; exact ⟨h1, h2, h3, h4, h5⟩
theorem mx_begin (h : mx_I B S D K pc sc ph dy wt M N C G E F T tm sn)
    (hu : (r = 1 ∧ mg_bg ph a b ∧ u = (S, D, R, K, pc, sc, 1, 1, a, b, 0, 255)) ∨ (r = 0 ∧ ¬ mg_bg ph a b ∧ u = (S, D, R, K, pc, sc, ph, rd, th, lm, dy, wt)))
    (hv : (r' = 1 ∧ mr_bg ph a b ∧ v = (M, N, C, R, G, mr_en 8 E, F, T, pc, 1, 1, a, b, sc, tm, tm)) ∨ (r' = 0 ∧ ¬ mr_bg ph a b ∧ v = (M, N, C, R, G, E, F, T, pc, ph, rd, th, lm, sc, tm, sn))) :
    r = r' ∧ mx_R (B + 1000) u v := by
  rcases hu with ⟨e1, q1, hu⟩ | ⟨e1, q1, hu⟩
  · rcases hv with ⟨e2, q2, hv⟩ | ⟨e2, q2, hv⟩
    · refine ⟨by rw [e1, e2], ?_⟩
      obtain ⟨hpc, hsh, d, w, s, t, g, htm, hbt, hph⟩ := h
      have h0 := mx_is0 hph q1.1
      obtain ⟨a1, a2, a3, a4, a5⟩ := htm
      refine ⟨S, D, R, K, pc, sc, 1, 1, a, b, 0, 255, M, N, C, G, _, F, T, tm, tm, hu, hv, hpc, mx_sh_le hsh (by omega), 0, 255, t, t, g, ⟨a1, by omega, a1, Nat.le_refl _, a5⟩, ⟨by decide, by decide, by decide, by decide, ?_, hbt.2.2.2.2.2⟩, Or.inr (Or.inl ⟨rfl, ?_, h0.2.2.1, h0.2.2.2, ?_⟩)⟩
      · intro p hp
        rw [if_pos (bt_all ⟨p, hp⟩)]
        exact if_pos hp
      · intro p hp
        rw [Nat.zero_testBit]
        exact ⟨fun q => absurd q (by decide), fun q => absurd (a5 p hp).2 (by omega)⟩
      · intro j hj q
        have := bt_all ⟨j / 8, by omega⟩
        dsimp only at this
        rw [this] at q
        exact absurd q (by decide)
    · exact absurd (bg_iff.mp q1) q2
  · rcases hv with ⟨e2, q2, hv⟩ | ⟨e2, q2, hv⟩
    · exact absurd (bg_iff.mpr q2) q1
    · exact ⟨by rw [e1, e2], mx_same h hu hv⟩
theorem rn_iff : mg_rn ph a ↔ mr_rn ph a := by
  unfold mg_rn mr_rn
  rw [Int32.not_lt (a := (1000 : Int32))]
  constructor
  · rintro ⟨h1, h2, h3⟩; exact ⟨h2, h3, h1⟩
  · rintro ⟨h2, h3, h1⟩; exact ⟨h1, h2, h3⟩
theorem mx_run (h : mx_I B S D K pc sc ph dy wt M N C G E F T tm sn) (hB : B + 1000 ≤ 2 ^ 30)
    (hu : (r = a ∧ mg_rn ph a ∧ u = mg_it a.toNatClampNeg (S, D, R, K, pc, sc, ph, rd, th, lm, dy, wt)) ∨ (r = 0 ∧ ¬ mg_rn ph a ∧ u = (S, D, R, K, pc, sc, ph, rd, th, lm, dy, wt)))
    (hv : (r' = a ∧ mr_rn ph a ∧ v = mr_it a.toNatClampNeg (M, N, C, R, G, E, F, T, pc, ph, rd, th, lm, sc, tm, sn)) ∨ (r' = 0 ∧ ¬ mr_rn ph a ∧ v = (M, N, C, R, G, E, F, T, pc, ph, rd, th, lm, sc, tm, sn))) :
    r = r' ∧ mx_R (B + 1000) u v := by
  rcases hu with ⟨e1, q1, hu⟩ | ⟨e1, q1, hu⟩
  · rcases hv with ⟨e2, q2, hv⟩ | ⟨e2, q2, hv⟩
    · refine ⟨by rw [e1, e2], ?_⟩
      obtain ⟨n, hn, ea⟩ := nI_of2 (M := 1000) (n := 1000) (by decide) q1.2.1 q1.2.2
      have en : a.toNatClampNeg = n := by rw [ea]; exact nI_clamp (by omega)
      rw [en] at hu hv
      obtain ⟨S1, D1, R1, K1, pc1, sc1, dy1, M1, G1, T1, tm1, a1, a2, a3⟩ := mx_it n (R := R) (rd := rd) (th := th) (lm := lm) h q1.1 (by omega)
      exact ⟨S1, D1, R1, K1, pc1, sc1, ph, rd, th, lm, dy1, wt, M1, N, C, G1, E, F, T1, tm1, sn, hu.trans a1, hv.trans a2, mx_I_le a3 (by omega) a3.1⟩
    · exact absurd (rn_iff.mp q1) q2
  · rcases hv with ⟨e2, q2, hv⟩ | ⟨e2, q2, hv⟩
    · exact absurd (rn_iff.mpr q2) q1
    · exact ⟨by rw [e1, e2], mx_same h hu hv⟩
theorem mx_bool {P P' : Prop} (e : P ↔ P') (hu : (r = 1 ∧ P) ∨ (r = 0 ∧ ¬ P)) (hv : (r' = 1 ∧ P') ∨ (r' = 0 ∧ ¬ P')) : r = r' := by
  rcases hu with ⟨e1, q1⟩ | ⟨e1, q1⟩
  · rcases hv with ⟨e2, q2⟩ | ⟨e2, q2⟩
    · rw [e1, e2]
    · exact absurd (e.mp q1) q2
  · rcases hv with ⟨e2, q2⟩ | ⟨e2, q2⟩
    · exact absurd (e.mpr q2) q1
    · rw [e1, e2]
theorem mx_dirty (h : mx_I B S D K pc sc ph dy wt M N C G E F T tm sn) (hB : B < 2 ^ 30)
    (hu : (r = 1 ∧ mg_ip a ∧ mg_bt dy a) ∨ (r = 0 ∧ ¬ (mg_ip a ∧ mg_bt dy a)))
    (hv : (r' = 1 ∧ mr_ip a ∧ mr_dt G F ph sn a) ∨ (r' = 0 ∧ ¬ (mr_ip a ∧ mr_dt G F ph sn a))) : r = r' := by
  refine mx_bool ?_ hu hv
  obtain ⟨-, -, d, w, s, t, g, htm, hbt, hph⟩ := h
  obtain ⟨a1, a2, a3, a4, a5⟩ := htm
  obtain ⟨b1, b2, b3⟩ := hbt
  have key : mr_ip a → (mg_bt dy a ↔ mr_dt G F ph sn a) := by
    intro hp
    obtain ⟨p, hp8, rfl, ec⟩ := ip_of (ip_iff.mpr hp)
    rw [b1, bt_iff b2 hp8]
    unfold mr_dt
    rw [ec, a3, (a5 p hp8).1, lN_lt (by omega) (by have := (a5 p hp8).2; omega)]
    rcases mx_ph_4 hph with e | e | e | e
    · have h0 := mx_is0 hph e
      rw [h0.1, Nat.zero_testBit]
      exact ⟨fun q => absurd q (by decide), fun q => q.elim (fun q => absurd (e.symm.trans q.1) (by decide)) (fun q => absurd e q.1)⟩
    · have h0 := mx_is1 hph e
      rw [h0.1 p hp8]
      exact ⟨fun q => Or.inl ⟨e, q⟩, fun q => q.elim (fun q => q.2) (fun q => absurd e q.2.1)⟩
    · have h0 := mx_is2 hph e
      rw [h0.1 p hp8]
      exact ⟨fun q => Or.inr ⟨by rw [e]; decide, by rw [e]; decide, q⟩, fun q => q.elim (fun q => absurd (e.symm.trans q.1) (by decide)) (fun q => q.2.2)⟩
    · have h0 := mx_is3 hph e
      rw [h0.1 p hp8]
      exact ⟨fun q => Or.inr ⟨by rw [e]; decide, by rw [e]; decide, q⟩, fun q => q.elim (fun q => absurd (e.symm.trans q.1) (by decide)) (fun q => q.2.2)⟩
  exact ⟨fun q => ⟨ip_iff.mp q.1, (key (ip_iff.mp q.1)).mp q.2⟩, fun q => ⟨ip_iff.mpr q.1, (key q.1).mpr q.2⟩⟩
theorem mx_waits (h : mx_I B S D K pc sc ph dy wt M N C G E F T tm sn)
    (hu : (r = 1 ∧ mg_ip a ∧ mg_bt wt a) ∨ (r = 0 ∧ ¬ (mg_ip a ∧ mg_bt wt a)))
    (hv : (r' = 1 ∧ mr_ip a ∧ ¬ E a.toNatClampNeg = 0) ∨ (r' = 0 ∧ ¬ (mr_ip a ∧ ¬ E a.toNatClampNeg = 0))) : r = r' := by
  refine mx_bool ?_ hu hv
  obtain ⟨-, -, d, w, s, t, g, htm, hbt, hph⟩ := h
  obtain ⟨b1, b2, b3, b4, b5, b6⟩ := hbt
  have key : mr_ip a → (mg_bt wt a ↔ ¬ E a.toNatClampNeg = 0) := by
    intro hp
    obtain ⟨p, hp8, rfl, ec⟩ := ip_of (ip_iff.mpr hp)
    rw [b3, bt_iff b4 hp8, ec, b5 p hp8]
    by_cases q : w.testBit p = true
    · rw [if_pos q]
      exact ⟨fun _ => by decide, fun _ => q⟩
    · rw [if_neg q]
      exact ⟨fun z => absurd z q, fun z => absurd rfl z⟩
  exact ⟨fun q => ⟨ip_iff.mp q.1, (key (ip_iff.mp q.1)).mp q.2⟩, fun q => ⟨ip_iff.mpr q.1, (key q.1).mpr q.2⟩⟩
theorem mx_source (h : mx_I B S D K pc sc ph dy wt M N C G E F T tm sn)
    (hu : (mg_ia a ∧ r = S a.toNatClampNeg) ∨ (r = 0 ∧ ¬ mg_ia a))
    (hv : (mr_ia a ∧ r' = if ph = 3 then N a.toNatClampNeg else M a.toNatClampNeg) ∨ (r' = 0 ∧ ¬ mr_ia a)) : r = r' := by
  obtain ⟨-, -, d, w, s, t, g, htm, hbt, hph⟩ := h
  rcases hu with ⟨q1, e1⟩ | ⟨e1, q1⟩
  · rcases hv with ⟨q2, e2⟩ | ⟨e2, q2⟩
    · rw [e1, e2]
      obtain ⟨j, hj, -, ec⟩ := ia_of q1
      rw [ec]
      rcases mx_ph_4 hph with e | e | e | e
      · rw [if_neg (by rw [e]; decide)]; exact (mx_is0 hph e).2.2.1 j hj
      · rw [if_neg (by rw [e]; decide)]; exact (mx_is1 hph e).2.1 j hj
      · rw [if_neg (by rw [e]; decide)]; exact (mx_is2 hph e).2.1 j hj
      · rw [if_pos e]; exact (mx_is3 hph e).2.2.2 j hj
    · exact absurd (ia_iff.mp q1) q2
  · rcases hv with ⟨q2, e2⟩ | ⟨e2, q2⟩
    · exact absurd (ia_iff.mpr q2) q1
    · rw [e1, e2]
theorem mx_dest (h : mx_I B S D K pc sc ph dy wt M N C G E F T tm sn)
    (hu : (mg_ia a ∧ r = D a.toNatClampNeg) ∨ (r = 0 ∧ ¬ mg_ia a))
    (hv : (mr_ia a ∧ r' = if ph = 3 then M a.toNatClampNeg else C a.toNatClampNeg) ∨ (r' = 0 ∧ ¬ mr_ia a)) : r = r' := by
  obtain ⟨-, -, d, w, s, t, g, htm, hbt, hph⟩ := h
  rcases hu with ⟨q1, e1⟩ | ⟨e1, q1⟩
  · rcases hv with ⟨q2, e2⟩ | ⟨e2, q2⟩
    · rw [e1, e2]
      obtain ⟨j, hj, -, ec⟩ := ia_of q1
      rw [ec]
      rcases mx_ph_4 hph with e | e | e | e
      · rw [if_neg (by rw [e]; decide)]; exact (mx_is0 hph e).2.2.2 j hj
      · rw [if_neg (by rw [e]; decide)]; exact (mx_is1 hph e).2.2.1 j hj
      · rw [if_neg (by rw [e]; decide)]; exact (mx_is2 hph e).2.2.1 j hj
      · rw [if_pos e]; exact (mx_is3 hph e).2.2.1 j hj
    · exact absurd (ia_iff.mp q1) q2
  · rcases hv with ⟨q2, e2⟩ | ⟨e2, q2⟩
    · exact absurd (ia_iff.mpr q2) q1
    · rw [e1, e2]
theorem mx_register
    (hu : (¬ a < 0 ∧ ¬ 4 ≤ a ∧ r = R a.toNatClampNeg) ∨ (r = 0 ∧ (a < 0 ∨ 4 ≤ a)))
    (hv : (¬ a < 0 ∧ ¬ 3 < a ∧ r' = R a.toNatClampNeg) ∨ (r' = 0 ∧ (a < 0 ∨ 3 < a))) : r = r' := by
  rw [le_lt (y := 3) (x := 4) (by decide)] at hu
  rcases hu with ⟨q1, q2, e1⟩ | ⟨e1, q1⟩
  · rcases hv with ⟨_, _, e2⟩ | ⟨e2, q3⟩
    · rw [e1, e2]
    · exact absurd q3 (fun z => z.elim q1 q2)
  · rcases hv with ⟨q2, q3, e2⟩ | ⟨e2, q3⟩
    · exact absurd q1 (fun z => z.elim q2 q3)
    · rw [e1, e2]
theorem mx_shown (h : mx_I B S D K pc sc ph dy wt M N C G E F T tm sn) (hB : B < 2 ^ 30)
    (hu : (¬ a < 0 ∧ ¬ 8 ≤ a ∧ ¬ sc ≤ a ∧ r = K (((sc - 1) - a) &&& 7).toNatClampNeg) ∨ (r = 0 ∧ (a < 0 ∨ 8 ≤ a ∨ sc ≤ a)))
    (hv : (¬ a < 0 ∧ ¬ 7 < a ∧ ¬ sc ≤ a ∧ r' = T a.toNatClampNeg) ∨ (r' = 0 ∧ (a < 0 ∨ 7 < a ∨ sc ≤ a))) : r = r' := by
  have e8 : (8 : Int32) ≤ a ↔ 7 < a := le_lt (by decide)
  rcases hu with ⟨q1, q2, q3, e1⟩ | ⟨e1, q1⟩
  · rcases hv with ⟨_, _, _, e2⟩ | ⟨e2, z⟩
    · rw [e1, e2]
      obtain ⟨-, ⟨c, rfl, hc, hk⟩, -⟩ := h
      obtain ⟨k, hk8, rfl, ec⟩ := ip_of ⟨q1, q2⟩
      have hlt : k < c := by
        rcases Nat.lt_or_ge k c with z | z
        · exact z
        · exact absurd (nI_le z (by omega)) q3
      rw [ec, hk k hk8 hlt]
      obtain ⟨c, rfl⟩ : ∃ n, c = n + 1 := ⟨c - 1, by omega⟩
      rw [nI_pred, pk_sub (by omega), pk_andN (by omega) 3 (by decide), nI_clamp (by omega)]
      rfl
    · exact absurd z (fun z => z.elim q1 (fun z => z.elim (fun z => q2 (e8.mpr z)) q3))
  · rcases hv with ⟨q2, q3, q4, e2⟩ | ⟨e2, _⟩
    · exact absurd q1 (fun z => z.elim q2 (fun z => z.elim (fun z => q3 (e8.mp z)) q4))
    · rw [e1, e2]
end MX
