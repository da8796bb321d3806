/-! What the class's calls do to its state. -/
def mg_rn (ph n : Int32) : Prop := ¬ ph = 2 ∧ ¬ n < 0 ∧ n ≤ 1000
def mg_bg (ph t l : Int32) : Prop := ph = 0 ∧ ¬ t < 0 ∧ ¬ 8 < t ∧ ¬ l < 1 ∧ l ≤ 20
def mg_fwP (S D R K : Nat → Int32) (pc sc ph rd th lm dy wt : Int32) (r : Int32) (u : mgS) : Prop :=
  (∃ p : Nat, p < 8 ∧ mg_bt wt (nI p) ∧ (∀ k, k < p → ¬ mg_bt wt (nI k)) ∧ r = nI p ∧ u = (S, mg_cp S (nI p <<< ((3 : Int32) &&& 31)) 8 D, R, K, pc, sc, ph, rd, th, lm, dy, wt &&& ((1 <<< (nI p &&& 31)) ^^^ (-1)))) ∨
  ((∀ k, k < 8 → ¬ mg_bt wt (nI k)) ∧ r = -1 ∧ u = (S, D, R, K, pc, sc, ph, rd, th, lm, dy, wt))
def mg_erP (S D R K : Nat → Int32) (pc sc ph rd th lm dy : Int32) (r : Int32) (u : mgS) : Prop :=
  (r = 33 ∧ (mg_bc dy ≤ th ∨ rd = lm) ∧ u = (S, D, R, K, pc, sc, 2, rd, th, lm, dy, dy)) ∨
  (r = 32 ∧ ¬ mg_bc dy ≤ th ∧ ¬ rd = lm ∧ u = (S, D, R, K, pc, sc, ph, rd + 1, th, lm, 0, dy))
def mg_cyP (S D R K : Nat → Int32) (pc sc ph rd th lm dy wt : Int32) (r : Int32) (u : mgS) : Prop :=
  (¬ ph = 1 ∧ ¬ ph = 2 ∧ r = -1 ∧ u = (S, D, R, K, pc, sc, ph, rd, th, lm, dy, wt)) ∨
  ((ph = 1 ∨ ph = 2) ∧ ¬ wt = 0 ∧ mg_fwP S D R K pc sc ph rd th lm dy wt r u) ∨
  (ph = 1 ∧ wt = 0 ∧ mg_erP S D R K pc sc ph rd th lm dy r u) ∨
  (ph = 2 ∧ wt = 0 ∧ r = 34 ∧ u = (S, D, R, K, pc, sc, 3, rd, th, lm, dy, wt))
theorem mg_ww_3 {S D : Nat → Int32} {ph dy x v : Int32} (h : ph = 3) : mg_ww S D ph dy x v = (S, upd D (x &&& 63).toNatClampNeg v, dy) := by unfold mg_ww; rw [if_pos h]
theorem mg_ww_1 {S D : Nat → Int32} {ph dy x v : Int32} (h3 : ¬ ph = 3) (h : ph = 1) : mg_ww S D ph dy x v = (upd S (x &&& 63).toNatClampNeg v, D, dy ||| (1 <<< (((x &&& 63) >>> ((3 : Int32) &&& 31)) &&& 31))) := by unfold mg_ww; rw [if_neg h3, if_pos h]
theorem mg_ww_0 {S D : Nat → Int32} {ph dy x v : Int32} (h3 : ¬ ph = 3) (h : ¬ ph = 1) : mg_ww S D ph dy x v = (upd S (x &&& 63).toNatClampNeg v, D, dy) := by unfold mg_ww; rw [if_neg h3, if_neg h]
