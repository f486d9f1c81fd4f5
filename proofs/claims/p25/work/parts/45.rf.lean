/-! the game that the script begins again and again: four players, the witch 0, the seer 1, the guard 2 -/
def rfQ (W x y : Nat) : Bool := decide (W < 16) && decide (x < 4) && decide (y < 4) && decide (yPop (nI W) = 1) && (!decide (nI x = nI y) && yHo 4 (nI W) (nI x) && yHo 4 (nI W) (nI y))
def rfP (b : Nat) : Bool := rfQ (b / 64) (b / 8 % 8) (b % 8)
theorem rfP_at {W x y : Nat} (hx : x < 8) (hy : y < 8) : rfP (64 * W + (8 * x + y)) = rfQ W x y := by
  unfold rfP
  rw [show (64 * W + (8 * x + y)) / 64 = W by omega, show (64 * W + (8 * x + y)) / 8 % 8 = x by omega, show (64 * W + (8 * x + y)) % 8 = y by omega]
theorem rf_tw : yPop ((yWo (nI 1) (nI 1) (nI 2)) &&& 255) = 1 := by decide +kernel
theorem rfP_P : ∀ W9 x9 y9, W9 < 2 ^ 4 → x9 < 4 → y9 < 4 → yPop (nI W9) = yPop ((yWo (nI 1) (nI 1) (nI 2)) &&& 255) → rfP (64 * W9 + (8 * x9 + y9)) = (!decide (nI x9 = nI y9) && yHo (nI 4) (nI W9) (nI x9) && yHo (nI 4) (nI W9) (nI y9)) := by
  intro W x y hW hx hy h
  rw [rf_tw] at h
  rw [rfP_at (by omega) (by omega)]
  unfold rfQ
  rw [decide_eq_true (show W < 16 from hW), decide_eq_true hx, decide_eq_true hy, decide_eq_true h]
  rfl
theorem rfP_F : ∀ W9 x9 y9, W9 < 256 → x9 < 8 → y9 < 8 → (W9 = 0 ∨ 2 ^ 4 ≤ W9 ∨ ¬ yPop (nI W9) = yPop ((yWo (nI 1) (nI 1) (nI 2)) &&& 255) ∨ 4 ≤ x9 ∨ 4 ≤ y9) → rfP (64 * W9 + (8 * x9 + y9)) = false := by
  intro W x y _ hx hy h
  rw [rfP_at hx hy]
  rw [rf_tw] at h
  unfold rfQ
  rcases h with rfl | h | h | h | h
  · rw [decide_eq_false (show ¬ yPop (nI 0) = 1 by decide +kernel)]
    simp
  · rw [decide_eq_false (show ¬ W < 16 by omega)]
    simp
  · rw [decide_eq_false h]
    simp
  · rw [decide_eq_false (show ¬ x < 4 by omega)]
    simp
  · rw [decide_eq_false (show ¬ y < 4 by omega)]
    simp
theorem rfP_hi {b : Nat} (h : 1024 ≤ b) : rfP b = false := by
  unfold rfP rfQ
  rw [decide_eq_false (show ¬ b / 64 < 16 by omega)]
  simp
theorem rfP_B : nCt rfP 16384 ≤ 1120 := by
  rw [nCt_skip (show 1024 ≤ 16384 by omega) (fun n h1 _ => rfP_hi h1)]
  exact Nat.le_trans (nCt_le rfP 1024) (by omega)
theorem rfP_E : ∀ b, rfP b = true → ¬ yEnc b = 0 := by
  intro b h
  have hb : b < 1024 := by
    rcases Nat.lt_or_ge b 1024 with h1 | h1
    · exact h1
    · rw [rfP_hi h1] at h
      cases h
  have k : ∀ b : Fin 1024, ¬ yEnc b.val = 0 := by decide +kernel
  exact k ⟨b, hb⟩
abbrev rfG : Nat → Int32 := pgF rfP 16384
abbrev rfK : Nat := nCt rfP 16384
theorem rfG_ok : (∀ j, j < rfK → ¬ rfG j = 0) ∧ (rfK < 1120 → rfG rfK = 0) := pgF_ok rfP_E 16384
theorem rfG_hi : ∀ j, 1120 ≤ j → rfG j = 0 := fun j h => pgF_hi rfP 16384 j (Nat.le_trans rfP_B h)
theorem rf_good : yGood (nI 4) (nI 1) (nI 1) (nI 2) = true := by decide +kernel
theorem vw_m1 (a : Nat → Int32) : yVw a (-1) = true := by
  unfold yVw
  rfl
theorem vw_at {a : Nat → Int32} {i : Nat} (h2 : a 2 = 4) (hi : i < 4) : yVw a (nI i) = true := by
  unfold yVw
  rw [r_a2 h2 hi]
  simp
theorem kw2a {a : Nat → Int32} (h0 : a 0 = 1) (h2 : a 2 = 4) : kYw a 4 = 2 := by
  unfold kYw yVw yPl
  rw [h0, h2]
  decide
theorem kw2b {a : Nat → Int32} (h0 : a 0 = 1) (h2 : a 2 = 4) : kYw a (-2) = 2 := by
  unfold kYw yVw yPl
  rw [h0, h2]
  decide
theorem n0w {a : Nat → Int32} (h0 : a 0 = 0) (q : Int32) : kYw a q = 1 := if_pos h0
theorem n0c {a : Nat → Int32} (h0 : a 0 = 0) (tr q k r : Int32) : kYc a tr q k r = 1 := if_pos h0
theorem n0a {a : Nat → Int32} (h0 : a 0 = 0) (tr q w : Int32) : kYa a tr q w = 1 := if_pos h0
theorem n0i {a : Nat → Int32} (h0 : a 0 = 0) (q r u : Int32) : kYi a q r u = 1 := if_pos h0
theorem n0x {a : Nat → Int32} (h0 : a 0 = 0) (q r k : Int32) : kYx a q r k = 1 := if_pos h0
theorem n0v {a : Nat → Int32} (h0 : a 0 = 0) (q r : Int32) : kYv a q r = 1 := if_neg (by rw [h0]; decide)
theorem n0t {a : Nat → Int32} (h0 : a 0 = 0) (q : Int32) : kYt a q = 1 := if_neg (by rw [h0]; decide)
theorem n0h {a : Nat → Int32} (h0 : a 0 = 0) {k : Int32} (hk : ¬ (0 : Int32) = k) : kYh a k = 1 := if_neg (by rw [h0]; exact hk)
