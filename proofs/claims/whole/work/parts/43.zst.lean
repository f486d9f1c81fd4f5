/-! what a state of play holds on both sides -/
/-- a game goes on: p players, the worlds left, how many witches, the true world's parts; s alive, u looked -/
def gWell (a : Nat → Int32) (p W x y s u : Nat) : Prop := a 2 = nI p ∧ a 3 = nI W ∧ a 4 = nI x ∧ a 5 = nI y ∧ a 6 = nI s ∧ a 7 = nI u ∧ 4 ≤ p ∧ p ≤ 8 ∧ wOk W x y ∧ W < 2 ^ p ∧ x < p ∧ y < p ∧ 1 ≤ bC W 8 ∧ 2 * bC W 8 < p ∧ s < 2 ^ p ∧ u < 256
/-- the worlds of a game -/
def gCl (cl : Nat → Bool) (p W x y : Nat) : Prop := (∀ n, n < 16384 → cl n = true → wN p (bC W 8) n = true) ∧ cl (64 * W + 8 * x + y) = true
theorem gCl.ct {cl : Nat → Bool} {p W x y : Nat} (h : gCl cl p W x y) (h1 : 4 ≤ p) (hp : p ≤ 8) (h2 : 1 ≤ bC W 8) (h3 : 2 * bC W 8 < p) : nCt cl 16384 ≤ 1120 := by
  refine Nat.le_trans ?_ (nW_ct h1 hp h2 h3)
  have : ∀ n, n ≤ 16384 → nCt cl n ≤ nCt (nW (nI p) (nI (bC W 8))) n := by
    intro n
    induction n with
    | zero => intro _; exact Nat.le_refl _
    | succ n ih =>
      intro hn
      rw [nCt_succ, nCt_succ]
      refine Nat.add_le_add (ih (by omega)) ?_
      cases hc : cl n with
      | false => simp
      | true =>
        rw [nW_n (by omega) hp (by omega) (by omega), h.1 n (by omega) hc]
        exact Nat.le_refl _
  exact this 16384 (Nat.le_refl _)
theorem wtr {W x y : Nat} (h : wOk W x y) : 64 * W + 8 * x + y < 16384 ∧ (64 * W + 8 * x + y) / 64 = W ∧ (64 * W + 8 * x + y) / 8 % 8 = x ∧ (64 * W + 8 * x + y) % 8 = y := by
  obtain ⟨h1, h2, h3, _⟩ := h
  omega
theorem gWell.tr {a : Nat → Int32} {p W x y s u : Nat} (h : gWell a p W x y s u) : xTr a = nI (64 * W + 8 * x + y) ∧ yWo (a 3) (a 4) (a 5) = nI (eN W x y) := by
  obtain ⟨_, h3, h4, h5, _, _, _, _, hw, _⟩ := h
  refine ⟨?_, ?_⟩
  · unfold xTr
    rw [h3, h4, h5]
    exact poE W x y
  · rw [h3, h4, h5, yWo_n hw.2.1 hw.2.2.1]
/-- players by number -/
theorem xPl_n {a : Nat → Int32} {p : Nat} (h2 : a 2 = nI p) (hp : p ≤ 8) (h1 : 1 ≤ p) (q : Int32) : xPl a q = yPl a q := by
  have e1 : nI p - 1 = nI (p - 1) := pk_sub (b := 1) h1
  unfold xPl xIn yPl
  rw [h2, e1]
  by_cases c : q < 0
  · rw [decide_eq_true c]; rfl
  · rw [decide_eq_false c]
    obtain ⟨j, hj, rfl⟩ := nI_of c
    by_cases d : j < p
    · rw [decide_eq_false (nI_nlt (by omega) (by omega)), decide_eq_true (nI_lt d (by omega))]; rfl
    · rw [decide_eq_true (nI_lt (by omega) hj), decide_eq_false (nI_nlt (by omega) (by omega))]; rfl
theorem xVw_n {a : Nat → Int32} {p : Nat} (h2 : a 2 = nI p) (hp : p ≤ 8) (h1 : 1 ≤ p) (q : Int32) : xVw a q = yVw a q := by
  unfold xVw yVw
  rw [xPl_n h2 hp h1]
theorem yPl_in {a : Nat → Int32} {p : Nat} (h2 : a 2 = nI p) (hp : p ≤ 8) {q : Int32} (h : yPl a q = true) : ∃ j, j < p ∧ q = nI j := by
  unfold yPl at h
  rw [h2] at h
  simp only [Bool.and_eq_true, Bool.not_eq_true', decide_eq_false_iff_not, decide_eq_true_iff] at h
  obtain ⟨j, hj, rfl⟩ := nI_of h.1
  exact ⟨j, (nI_ltI hj (by omega)).mp h.2, rfl⟩
theorem yPl_of {a : Nat → Int32} {p j : Nat} (h2 : a 2 = nI p) (hp : p ≤ 8) (h : j < p) : yPl a (nI j) = true := by
  unfold yPl
  rw [h2, decide_eq_false (nI_pos (by omega)), decide_eq_true (nI_lt h (by omega))]; rfl
/-! what is known of the dead -/
theorem dead_n {p s : Nat} (hp : p ≤ 8) (hs : s < 256) : xAll (nI p) &&& (nI s ^^^ (-1)) = nI ((2 ^ p - 1) ^^^ ((2 ^ p - 1) &&& s)) := by
  rw [(allE p hp).1]
  have : p = 0 ∨ p = 1 ∨ p = 2 ∨ p = 3 ∨ p = 4 ∨ p = 5 ∨ p = 6 ∨ p = 7 ∨ p = 8 := by omega
  have k : ∀ z : Fin 9, ∀ t : Fin 256, nI (2 ^ z.val - 1) &&& (nI t.val ^^^ (-1)) = nI ((2 ^ z.val - 1) ^^^ ((2 ^ z.val - 1) &&& t.val)) := by decide +kernel
  exact k ⟨p, by omega⟩ ⟨s, hs⟩
theorem dead_bit {p s q : Nat} : ((2 ^ p - 1) ^^^ ((2 ^ p - 1) &&& s)).testBit q = (decide (q < p) && !s.testBit q) := by
  rw [Nat.testBit_xor, Nat.testBit_and, Nat.testBit_two_pow_sub_one]
  cases decide (q < p) <;> cases s.testBit q <;> rfl
theorem dead_lt {p s : Nat} (hp : p ≤ 8) : (2 ^ p - 1) ^^^ ((2 ^ p - 1) &&& s) < 256 := by
  obtain ⟨_, h1, h2⟩ := allE p hp
  exact Nat.xor_lt_two_pow (n := 8) (by omega) (Nat.lt_of_le_of_lt Nat.and_le_left (by omega))
