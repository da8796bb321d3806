/-! What holds between the class's state and the reference's. B: more than all shows, and more than all guest's writes, so far. -/
def mx_sh (B : Nat) (K T : Nat → Int32) (sc : Int32) : Prop := ∃ c : Nat, sc = nI c ∧ c ≤ B ∧ ∀ k, k < 8 → k < c → T k = K ((c - 1 - k) % 8)
def mx_ph (S D M N C F : Nat → Int32) (ph : Int32) (d w s : Nat) (g : Nat → Nat) : Prop :=
  (ph = 0 ∧ d = 0 ∧ w = 0 ∧ (∀ j, j < 64 → S j = M j) ∧ (∀ j, j < 64 → D j = C j)) ∨
  (ph = 1 ∧ (∀ p, p < 8 → (d.testBit p = true ↔ s < g p)) ∧ (∀ j, j < 64 → S j = M j) ∧ (∀ j, j < 64 → D j = C j) ∧ (∀ j, j < 64 → w.testBit (j / 8) = false → d.testBit (j / 8) = false → D j = S j)) ∨
  (ph = 2 ∧ (∀ p, p < 8 → (d.testBit p = true ↔ F p = 1)) ∧ (∀ j, j < 64 → S j = M j) ∧ (∀ j, j < 64 → D j = C j) ∧ (∀ j, j < 64 → w.testBit (j / 8) = false → D j = S j)) ∨
  (ph = 3 ∧ (∀ p, p < 8 → (d.testBit p = true ↔ F p = 1)) ∧ w = 0 ∧ (∀ j, j < 64 → D j = M j) ∧ (∀ j, j < 64 → S j = N j))
def mx_tm (B : Nat) (G : Nat → Int64) (tm sn : Int64) (s t : Nat) (g : Nat → Nat) : Prop := tm = lN t ∧ t ≤ B ∧ sn = lN s ∧ s ≤ t ∧ ∀ p, p < 8 → G p = lN (g p) ∧ g p ≤ t
def mx_bt (dy wt : Int32) (E F : Nat → Int32) (d w : Nat) : Prop := dy = nI d ∧ d < 256 ∧ wt = nI w ∧ w < 256 ∧ (∀ p, p < 8 → E p = if w.testBit p = true then 1 else 0) ∧ ∀ j, F j = 0 ∨ F j = 1
def mx_I (B : Nat) (S D K : Nat → Int32) (pc sc ph dy wt : Int32) (M N C : Nat → Int32) (G : Nat → Int64) (E F T : Nat → Int32) (tm sn : Int64) : Prop :=
  vp_in pc 64 ∧ mx_sh B K T sc ∧ ∃ (d w s t : Nat) (g : Nat → Nat), mx_tm B G tm sn s t g ∧ mx_bt dy wt E F d w ∧ mx_ph S D M N C F ph d w s g
theorem mx_sh_le {B B' : Nat} {K T : Nat → Int32} {sc : Int32} (h : mx_sh B K T sc) (hB : B ≤ B') : mx_sh B' K T sc := by
  obtain ⟨c, e, hc, hk⟩ := h
  exact ⟨c, e, by omega, hk⟩
theorem mx_tm_le {B B' : Nat} {G : Nat → Int64} {tm sn : Int64} {s t : Nat} {g : Nat → Nat} (h : mx_tm B G tm sn s t g) (hB : B ≤ B') : mx_tm B' G tm sn s t g := by
  obtain ⟨e, hc, hk⟩ := h
  exact ⟨e, by omega, hk⟩
theorem mx_I_le {B B' : Nat} {S D K : Nat → Int32} {pc pc' sc ph dy wt : Int32} {M N C : Nat → Int32} {G : Nat → Int64} {E F T : Nat → Int32} {tm sn : Int64} (h : mx_I B S D K pc sc ph dy wt M N C G E F T tm sn) (hB : B ≤ B') (hpc : vp_in pc' 64) : mx_I B' S D K pc' sc ph dy wt M N C G E F T tm sn := by
  obtain ⟨-, h2, d, w, s, t, g, h3, h4, h5⟩ := h
  exact ⟨hpc, mx_sh_le h2 hB, d, w, s, t, g, mx_tm_le h3 hB, h4, h5⟩
theorem mx_ph_4 {S D M N C F : Nat → Int32} {ph : Int32} {d w s : Nat} {g : Nat → Nat} (h : mx_ph S D M N C F ph d w s g) : ph = 0 ∨ ph = 1 ∨ ph = 2 ∨ ph = 3 := by
  rcases h with h | h | h | h
  · exact Or.inl h.1
  · exact Or.inr (Or.inl h.1)
  · exact Or.inr (Or.inr (Or.inl h.1))
  · exact Or.inr (Or.inr (Or.inr h.1))
/-- the guest's memory is the reference's, wherever the guest runs -/
theorem mx_rw {S D M N C F : Nat → Int32} {ph : Int32} {d w s : Nat} {g : Nat → Nat} (h : mx_ph S D M N C F ph d w s g) (x : Int32) : mg_rw S D ph x = M (x &&& 63).toNatClampNeg := by
  obtain ⟨j, hj, -, e⟩ := ad_of x
  unfold mg_rw
  rw [e]
  rcases h with h | h | h | h
  · rw [h.1, if_neg (by decide)]; exact h.2.2.2.1 j hj
  · rw [h.1, if_neg (by decide)]; exact h.2.2.1 j hj
  · rw [h.1, if_neg (by decide)]; exact h.2.2.1 j hj
  · rw [h.1, if_pos rfl]; exact h.2.2.2.1 j hj
theorem upd_on {f h : Nat → Int32} {n : Nat} (hf : ∀ j, j < n → f j = h j) (k : Nat) (x : Int32) : ∀ j, j < n → upd f k x j = upd h k x j := by
  intro j hj
  unfold upd
  by_cases q : j = k
  · rw [if_pos q, if_pos q]
  · rw [if_neg q, if_neg q]; exact hf j hj
/-- op 3 -/
theorem mx_ww {S D M N C F : Nat → Int32} {ph : Int32} {d w s t : Nat} {g : Nat → Nat} (h : mx_ph S D M N C F ph d w s g) (h2 : ¬ ph = 2) (hd : d < 256) (hs : s ≤ t) (x v : Int32) {j : Nat} (hj : j < 64) (ej : x &&& 63 = nI j) :
    ∃ (S' D' : Nat → Int32) (d' : Nat), mg_ww S D ph (nI d) x v = (S', D', nI d') ∧ d' < 256 ∧ mx_ph S' D' (upd M j v) N C F ph d' w s (fun q => if q = j / 8 then t + 1 else g q) := by
  have ec : (x &&& 63).toNatClampNeg = j := by rw [ej]; exact nI_clamp (by omega)
  rcases h with h | h | h | h
  · refine ⟨upd S j v, D, d, ?_, hd, Or.inl ⟨h.1, h.2.1, h.2.2.1, upd_on h.2.2.2.1 j v, h.2.2.2.2⟩⟩
    rw [mg_ww_0 (by rw [h.1]; decide) (by rw [h.1]; decide), ec]
  · refine ⟨upd S j v, D, d ||| 2 ^ (j / 8), ?_, (bt_set ⟨d, hd⟩ ⟨j / 8, by omega⟩).2, Or.inr (Or.inl ⟨h.1, ?_, upd_on h.2.2.1 j v, h.2.2.2.1, ?_⟩)⟩
    · rw [mg_ww_1 (by rw [h.1]; decide) h.1, ec, ej, (ad_8 hj).2, (bt_set ⟨d, hd⟩ ⟨j / 8, by omega⟩).1]
    · intro p hp
      have hb := bt_setT ⟨d, hd⟩ ⟨j / 8, by omega⟩ ⟨p, hp⟩
      dsimp only at hb
      rw [hb]
      show (d.testBit p || decide (p = j / 8)) = true ↔ s < (if p = j / 8 then t + 1 else g p)
      by_cases q : p = j / 8
      · rw [if_pos q, decide_eq_true q, Bool.or_true]
        exact ⟨fun _ => by omega, fun _ => rfl⟩
      · rw [if_neg q, decide_eq_false q, Bool.or_false]
        exact h.2.1 p hp
    · intro i hi hw hb
      have hT := bt_setT ⟨d, hd⟩ ⟨j / 8, by omega⟩ ⟨i / 8, by omega⟩
      dsimp only at hT
      rw [hT] at hb
      have hb1 := (Bool.or_eq_false_iff.mp hb).1
      have hb2 := of_decide_eq_false (Bool.or_eq_false_iff.mp hb).2
      have hne : i ≠ j := fun q => hb2 (by rw [q])
      rw [pk_un hne]
      exact h.2.2.2.2 i hi hw hb1
  · exact absurd h.1 h2
  · refine ⟨S, upd D j v, d, ?_, hd, Or.inr (Or.inr (Or.inr ⟨h.1, h.2.1, h.2.2.1, upd_on h.2.2.2.1 j v, h.2.2.2.2⟩))⟩
    rw [mg_ww_3 h.1, ec]
/-- op 7 -/
theorem mx_show {B : Nat} {K T : Nat → Int32} {sc : Int32} (h : mx_sh B K T sc) (hB : B < 2 ^ 30) (v : Int32) : mx_sh (B + 1) (upd K (sc &&& 7).toNatClampNeg v) (upd (mr_sf 0 T) 0 v) (sc + 1) := by
  obtain ⟨c, rfl, hc, hk⟩ := h
  have e : (nI c &&& 7).toNatClampNeg = c % 8 := by
    rw [pk_andN (by omega) 3 (by decide)]
    exact nI_clamp (by omega)
  refine ⟨c + 1, nI_1 c, by omega, ?_⟩
  intro k hk8 hkc
  rw [e]
  by_cases q : k = 0
  · subst q
    rw [pk_us, show (c + 1 - 1 - 0) % 8 = c % 8 from by omega, pk_us]
  · rw [pk_un q, pk_un (show (c + 1 - 1 - k) % 8 ≠ c % 8 by omega)]
    unfold mr_sf
    rw [if_pos (by omega), hk (k - 1) (by omega) (by omega)]
    congr 1
    omega
