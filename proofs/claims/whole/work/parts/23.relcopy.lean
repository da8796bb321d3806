/-! copy at both sides. -/
section MC
variable {B : Nat} {S D R K : Nat → Int32} {pc sc ph rd th lm dy wt : Int32} {M N C : Nat → Int32} {G : Nat → Int64} {E F T : Nat → Int32} {tm sn : Int64} {d w s t : Nat} {g : Nat → Nat} {r r' : Int32} {u : mgS} {v : mrS} {a b : Int32}
theorem cw_in {M C : Nat → Int32} {p j : Nat} (h : j / 8 = p) : mr_cw M (8 * p) 8 C j = M j := if_pos (by omega)
theorem cw_out {M C : Nat → Int32} {p j : Nat} (h : j / 8 ≠ p) : mr_cw M (8 * p) 8 C j = C j := if_neg (by omega)
theorem cw_on {M' C' : Nat → Int32} {p : Nat} (h1 : ∀ j, j < 64 → S j = M' j) (h2 : ∀ j, j < 64 → D j = C' j) : ∀ j, j < 64 → mr_cw S (8 * p) 8 D j = mr_cw M' (8 * p) 8 C' j := by
  intro j hj
  by_cases q : j / 8 = p
  · rw [cw_in q, cw_in q]; exact h1 j hj
  · rw [cw_out q, cw_out q]; exact h2 j hj
/-- a page is copied -/
theorem mx_page (h : mx_I B S D K pc sc ph dy wt M N C G E F T tm sn) (hp : ph = 1 ∨ ph = 2) {p : Nat} (hp8 : p < 8) :
    mx_I (B + 1000) S (mg_cp S (nI p <<< ((3 : Int32) &&& 31)) 8 D) K pc sc ph dy (wt &&& (((1 : Int32) <<< (nI p &&& 31)) ^^^ (-1))) M N (mr_cw M (8 * p) 8 C) G (upd E p 0) F T tm sn := by
  obtain ⟨hpc, hsh, d, w, s, t, g, htm, hbt, hph⟩ := h
  obtain ⟨b1, b2, b3, b4, b5, b6⟩ := hbt
  have hc := bt_clr ⟨w, b4⟩ ⟨p, hp8⟩
  dsimp only at hc
  have hT : ∀ q, q < 8 → (w &&& (255 ^^^ 2 ^ p)).testBit q = (w.testBit q && decide (q ≠ p)) := fun q hq => bt_clrT ⟨w, b4⟩ ⟨p, hp8⟩ ⟨q, hq⟩
  rw [mg_cp_i S D hp8 8 (by omega), b3, hc.1]
  refine ⟨hpc, mx_sh_le hsh (by omega), d, w &&& (255 ^^^ 2 ^ p), s, t, g, mx_tm_le htm (by omega), ⟨b1, b2, rfl, hc.2, ?_, b6⟩, ?_⟩
  · intro q hq
    rw [hT q hq]
    by_cases z : q = p
    · rw [z, pk_us, decide_eq_false (fun h => h rfl), Bool.and_false]
      rfl
    · rw [pk_un z, decide_eq_true z, Bool.and_true]
      exact b5 q hq
  · rcases hp with e | e
    · have h0 := mx_is1 hph e
      refine Or.inr (Or.inl ⟨e, h0.1, h0.2.1, cw_on h0.2.1 h0.2.2.1, ?_⟩)
      intro j hj hw hd
      by_cases z : j / 8 = p
      · exact cw_in z
      · rw [cw_out z]
        rw [hT (j / 8) (by omega), decide_eq_true z, Bool.and_true] at hw
        exact h0.2.2.2 j hj hw hd
    · have h0 := mx_is2 hph e
      refine Or.inr (Or.inr (Or.inl ⟨e, h0.1, h0.2.1, cw_on h0.2.1 h0.2.2.1, ?_⟩))
      intro j hj hw
      by_cases z : j / 8 = p
      · exact cw_in z
      · rw [cw_out z]
        rw [hT (j / 8) (by omega), decide_eq_true z, Bool.and_true] at hw
        exact h0.2.2.2 j hj hw
theorem mx_E0 (hbt : mx_bt dy wt E F d w) {p : Nat} (hp : p < 8) : E p = 0 ↔ w.testBit p = false := by
  rw [hbt.2.2.2.2.1 p hp]
  cases w.testBit p with
  | true => exact ⟨fun q => absurd q (by decide), fun q => absurd q (by decide)⟩
  | false => exact ⟨fun _ => rfl, fun _ => rfl⟩
theorem mx_W0 (hbt : mx_bt dy wt E F d w) {p : Nat} (hp : p < 8) : ¬ mg_bt wt (nI p) ↔ w.testBit p = false := by
  rw [hbt.2.2.1, bt_iff hbt.2.2.2.1 hp]
  cases w.testBit p with
  | true => exact ⟨fun q => absurd rfl q, fun q => absurd q (by decide)⟩
  | false => exact ⟨fun _ => rfl, fun _ q => absurd q (by decide)⟩
theorem mx_end (h : mx_I B S D K pc sc ph dy wt M N C G E F T tm sn) (hB : B < 2 ^ 30) (e : ph = 1) (hw : wt = 0) (hu : mg_erP S D R K pc sc ph rd th lm dy r u) (hv : mr_erP M N C R G E F T pc ph rd th lm sc tm sn r' v) : r = r' ∧ mx_R (B + 1000) u v := by
  obtain ⟨hpc, hsh, d, w, s, t, g, htm, hbt, hph⟩ := h
  have h0 := mx_is1 hph e
  obtain ⟨a1, a2, a3, a4, a5⟩ := htm
  obtain ⟨b1, b2, b3, b4, b5, b6⟩ := hbt
  have w0 : w = 0 := (nI_0eq b4).mp (b3.symm.trans hw)
  have hG : ∀ p, p < 8 → (d.testBit p = true ↔ sn < G p) := by
    intro p hp
    rw [a3, (a5 p hp).1, lN_lt (by omega) (by have := (a5 p hp).2; omega)]
    exact h0.1 p hp
  have hct : mg_bc dy = nI (mr_ct G sn 8) := by rw [b1]; exact bc_ct b2 hG
  have hE : ∀ (X : Nat → Int32) (p : Nat), p < 8 → mr_wr G sn 8 X p = if d.testBit p = true then 1 else 0 := by
    intro X p hp
    unfold mr_wr
    rw [if_pos hp]
    by_cases q : sn < G p
    · rw [if_pos q, if_pos ((hG p hp).mpr q)]
    · rw [if_neg q, if_neg (fun z => q ((hG p hp).mp z))]
  have hDS : ∀ j, j < 64 → d.testBit (j / 8) = false → D j = S j := fun j hj q => h0.2.2.2 j hj (by rw [w0]; exact Nat.zero_testBit _) q
  have hF8 : ∀ p, p < 8 → (d.testBit p = true ↔ mr_wr G sn 8 F p = 1) := by
    intro p hp
    rw [hE F p hp]
    by_cases q : d.testBit p = true
    · rw [if_pos q]; exact ⟨fun _ => rfl, fun _ => q⟩
    · rw [if_neg q]; exact ⟨fun z => absurd z q, fun z => absurd z (by decide)⟩
  rcases hu with ⟨e1, q1, hu⟩ | ⟨e1, q1, q1', hu⟩
  · rcases hv with ⟨e2, q2, hv⟩ | ⟨e2, q2, q2', hv⟩
    · refine ⟨by rw [e1, e2], ?_⟩
      exact ⟨S, D, R, K, pc, sc, 2, rd, th, lm, dy, dy, M, N, C, G, _, _, T, tm, sn, hu, hv, hpc, mx_sh_le hsh (by omega), d, d, s, t, g, ⟨a1, by omega, a3, a4, a5⟩, ⟨b1, b2, b1, b2, hE E, mr_wr_01 b6 G sn 8⟩, Or.inr (Or.inr (Or.inl ⟨rfl, hF8, h0.2.1, h0.2.2.1, hDS⟩))⟩
    · rw [hct] at q1
      exact absurd q1 (fun z => z.elim q2 q2')
  · rcases hv with ⟨e2, q2, hv⟩ | ⟨e2, q2, q2', hv⟩
    · rw [hct] at q1
      exact absurd q2 (fun z => z.elim q1 q1')
    · refine ⟨by rw [e1, e2], ?_⟩
      refine ⟨S, D, R, K, pc, sc, ph, rd + 1, th, lm, 0, dy, M, N, C, G, _, _, T, tm, tm, hu, hv, hpc, mx_sh_le hsh (by omega), 0, d, t, t, g, ⟨a1, by omega, a1, Nat.le_refl _, a5⟩, ⟨by decide, by decide, b1, b2, hE E, mr_wr_01 b6 G sn 8⟩, Or.inr (Or.inl ⟨e, ?_, h0.2.1, h0.2.2.1, fun j hj q _ => hDS j hj q⟩)⟩
      intro p hp
      rw [Nat.zero_testBit]
      exact ⟨fun q => absurd q (by decide), fun q => absurd (a5 p hp).2 (by omega)⟩
theorem mx_copy (h : mx_I B S D K pc sc ph dy wt M N C G E F T tm sn) (hB : B < 2 ^ 30) (hu : mg_cyP S D R K pc sc ph rd th lm dy wt r u) (hv : mr_cyP M N C R G E F T pc ph rd th lm sc tm sn r' v) : r = r' ∧ mx_R (B + 1000) u v := by
  have h9 := h
  obtain ⟨hpc, hsh, d, w, s, t, g, htm, hbt, hph⟩ := h9
  have hw0 : wt = 0 ↔ w = 0 := by rw [hbt.2.2.1]; exact nI_0eq hbt.2.2.2.1
  have allE : (∀ k, k < 8 → E k = 0) → wt = 0 := fun q => hw0.mpr (bt_0 hbt.2.2.2.1 (fun p hp => (mx_E0 hbt hp).mp (q p hp)))
  rcases hu with ⟨n1, n2, e1, hu⟩ | ⟨hp, hw, hu⟩ | ⟨e, hw, hu⟩ | ⟨e, hw, e1, hu⟩
  · rcases hv with ⟨_, e2, hv⟩ | ⟨m0, m3, _⟩ | ⟨e', _⟩ | ⟨e', _⟩
    · exact ⟨by rw [e1, e2], mx_same h hu hv⟩
    · rcases mx_ph_4 hph with z | z | z | z
      · exact absurd z m0
      · exact absurd z n1
      · exact absurd z n2
      · exact absurd z m3
    · exact absurd e' n2
    · exact absurd e' n1
  · rcases hv with ⟨q, _⟩ | ⟨m0, m3, p', hp', hE', hlo', e2, hv⟩ | ⟨_, q, _⟩ | ⟨_, q, _⟩
    · rcases hp with e | e <;> rcases q with q | q <;> exact absurd (e.symm.trans q) (by decide)
    · rcases hu with ⟨p, hp8, hb, hlo, e1, hu⟩ | ⟨q, _⟩
      · have hpp : p = p' := by
          rcases Nat.lt_trichotomy p p' with z | z | z
          · exact absurd hb ((mx_W0 hbt hp8).mpr ((mx_E0 hbt hp8).mp (hlo' p z)))
          · exact z
          · exact absurd ((mx_E0 hbt hp').mpr ((mx_W0 hbt hp').mp (hlo p' z))) hE'
        subst hpp
        refine ⟨by rw [e1, e2], ?_⟩
        exact ⟨S, _, R, K, pc, sc, ph, rd, th, lm, dy, _, M, N, _, G, _, F, T, tm, sn, hu, hv, mx_page h hp hp8⟩
      · exact absurd ((mx_E0 hbt hp').mpr ((mx_W0 hbt hp').mp (q p' hp'))) hE'
    · exact absurd (allE q) hw
    · exact absurd (allE q) hw
  · rcases hv with ⟨q, _⟩ | ⟨_, _, p', hp', hE', _⟩ | ⟨e', _⟩ | ⟨_, _, hv⟩
    · rcases q with q | q <;> exact absurd (e.symm.trans q) (by decide)
    · exact absurd ((mx_E0 hbt hp').mpr (by rw [hw0.mp hw]; exact Nat.zero_testBit _)) hE'
    · exact absurd (e.symm.trans e') (by decide)
    · exact mx_end h hB e hw hu hv
  · rcases hv with ⟨q, _⟩ | ⟨_, _, p', hp', hE', _⟩ | ⟨_, _, e2, hv⟩ | ⟨e', _⟩
    · rcases q with q | q <;> exact absurd (e.symm.trans q) (by decide)
    · exact absurd ((mx_E0 hbt hp').mpr (by rw [hw0.mp hw]; exact Nat.zero_testBit _)) hE'
    · refine ⟨by rw [e1, e2], ?_⟩
      have h0 := mx_is2 hph e
      have hDS : ∀ j, j < 64 → D j = S j := fun j hj => h0.2.2.2 j hj (by rw [hw0.mp hw]; exact Nat.zero_testBit _)
      refine ⟨S, D, R, K, pc, sc, 3, rd, th, lm, dy, wt, M, _, C, G, E, F, T, tm, sn, hu, hv, hpc, mx_sh_le hsh (by omega), d, w, s, t, g, mx_tm_le htm (by omega), hbt, Or.inr (Or.inr (Or.inr ⟨rfl, h0.1, hw0.mp hw, ?_, ?_⟩))⟩
      · intro j hj
        rw [hDS j hj]; exact h0.2.1 j hj
      · intro j hj
        rw [h0.2.1 j hj]
        exact (if_pos (by omega)).symm
    · exact absurd (e.symm.trans e') (by decide)
end MC
theorem mx_zero : mx_I 0 (fun _ => 0) (fun _ => 0) (fun _ => 0) 0 0 0 0 0 (fun _ => 0) (fun _ => 0) (fun _ => 0) (fun _ => 0) (fun _ => 0) (fun _ => 0) (fun _ => 0) 0 0 := by
  refine ⟨vp_in_nI (n := 0) (by decide) (by decide), ⟨0, by decide, by decide, fun k _ h => absurd h (Nat.not_lt_zero k)⟩, 0, 0, 0, 0, fun _ => 0, ⟨by decide, by decide, by decide, by decide, fun p hp => ⟨show (0 : Int64) = lN 0 by decide, Nat.le_refl 0⟩⟩, ⟨by decide, by decide, by decide, by decide, fun p hp => ?_, fun j => Or.inl rfl⟩, Or.inl ⟨rfl, rfl, rfl, fun j hj => rfl, fun j hj => rfl⟩⟩
  rw [Nat.zero_testBit]
  rfl
