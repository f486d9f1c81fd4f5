/-! which games can be dealt: both sides -/
def gGood (pl wi se gu : Int32) : Prop := ∃ n W x y : Nat, pl = nI n ∧ wi = nI W ∧ se = nI x ∧ gu = nI y ∧ 4 ≤ n ∧ n ≤ 8 ∧ wOk W x y ∧ W < 2 ^ n ∧ x < n ∧ y < n ∧ 1 ≤ bC W 8 ∧ 2 * bC W 8 < n
theorem bC_1 : ∀ W, W < 256 → (bC W 8 = 0 ↔ W = 0) := by
  have k : ∀ z : Fin 256, (bC z.val 8 = 0 ↔ z.val = 0) := by decide +kernel
  exact fun W h => k ⟨W, h⟩
theorem yHo_n {n W q : Nat} (hn : n ≤ 8) (hW : W < 2 ^ 31) (hq : q < n) : yHo (nI n) (nI W) (nI q) = !W.testBit q := by
  have h := yIn_n (t := W) (q := q) hW (by omega)
  unfold yIn at h
  unfold yHo
  rw [decide_eq_false (nI_pos (n := q) (by omega)), decide_eq_false (nI_ge hq (by omega)), ← h]
  simp
theorem yHo_of {n : Nat} (hn : n ≤ 8) {wi q : Int32} (h : yHo (nI n) wi q = true) : ∃ j, j < n ∧ q = nI j := by
  unfold yHo at h
  simp only [Bool.and_eq_true, Bool.not_eq_true', decide_eq_false_iff_not] at h
  obtain ⟨⟨h1, h2⟩, _⟩ := h
  obtain ⟨j, hj, rfl⟩ := nI_of h1
  refine ⟨j, ?_, rfl⟩
  rcases Nat.lt_or_ge j n with h3 | h3
  · exact h3
  · exact absurd (nI_le h3 hj) h2
theorem m2_n (c : Nat) : 2 * nI c = nI (2 * c) := pk_mul 2 c
theorem yGood_of {pl wi se gu : Int32} (h : yGood pl wi se gu = true) : gGood pl wi se gu := by
  unfold yGood at h
  simp only [Bool.and_eq_true, Bool.not_eq_true', decide_eq_false_iff_not, decide_eq_true_iff] at h
  obtain ⟨⟨⟨⟨⟨⟨⟨h1, h2⟩, h3⟩, h4⟩, h5⟩, h6⟩, h7⟩, h8⟩ := h
  have hpl : ¬ pl < 0 := fun h9 => h1 (Int32.lt_trans h9 (by decide))
  obtain ⟨n, hn, rfl⟩ := nI_of hpl
  have n4 : 4 ≤ n := by
    rcases Nat.lt_or_ge n 4 with h9 | h9
    · exact absurd (nI_lt (b := 4) h9 (by decide)) h1
    · exact h9
  have n8 : n ≤ 8 := by
    rcases Nat.lt_or_ge 8 n with h9 | h9
    · exact absurd (nI_lt (a := 8) h9 hn) h2
    · exact h9
  obtain ⟨W, hW, rfl⟩ := mk_of n8 h3
  obtain ⟨_, _, a3⟩ := allE n n8
  have w8 : W < 256 := by omega
  obtain ⟨x, hx, rfl⟩ := yHo_of n8 h6
  obtain ⟨y, hy, rfl⟩ := yHo_of n8 h7
  rw [yHo_n n8 (by omega) hx, Bool.not_eq_true'] at h6
  rw [yHo_n n8 (by omega) hy, Bool.not_eq_true'] at h7
  have hc := bC_le W 8
  rw [yPop_n W w8, m2_n, nI_leI (by omega) (by omega)] at h5
  have w0 : ¬ W = 0 := fun h9 => h4 (by rw [h9]; exact nI_0)
  have w1 : ¬ bC W 8 = 0 := fun h9 => w0 ((bC_1 W w8).mp h9)
  exact ⟨n, W, x, y, rfl, rfl, rfl, rfl, n4, n8, ⟨w8, by omega, by omega, fun h9 => h8 (by rw [h9]), h6, h7⟩, hW, hx, hy, by omega, by omega⟩
theorem yGood_to {pl wi se gu : Int32} (h : gGood pl wi se gu) : yGood pl wi se gu = true := by
  obtain ⟨n, W, x, y, rfl, rfl, rfl, rfl, n4, n8, ⟨w8, x8, y8, hxy, hWx, hWy⟩, hW, hx, hy, h1, h2⟩ := h
  have w0 : ¬ nI W = 0 := fun h9 => by
    have h8 : W = 0 := nI_inj (b := 0) (by omega) (by decide) (h9.trans nI_0.symm)
    have := (bC_1 W w8).mpr h8
    omega
  unfold yGood
  rw [decide_eq_false (show ¬ nI n < 4 from nI_nlt (b := 4) n4 (by omega)), decide_eq_false (show ¬ (8 : Int32) < nI n from nI_nlt (a := 8) n8 (by decide)), decide_eq_true (mk_in n8 hW), decide_eq_false w0, yPop_n W w8, m2_n, decide_eq_false (nI_ge h2 (by omega)), yHo_n n8 (by omega) hx, yHo_n n8 (by omega) hy, hWx, hWy, decide_eq_false (fun h9 => hxy (nI_inj (by omega) (by omega) h9))]
  rfl
theorem xp_n {n : Nat} (h4 : 4 ≤ n) : nI n - 1 = nI (n - 1) := pk_sub (b := 1) (by omega)
theorem xGood_of {pl wi se gu : Int32} (h : xGood pl wi se gu = true) : gGood pl wi se gu := by
  unfold xGood xWorld at h
  simp only [Bool.and_eq_true, Bool.not_eq_true', decide_eq_false_iff_not, decide_eq_true_iff] at h
  obtain ⟨⟨⟨h1, h2⟩, h3⟩, ⟨⟨⟨⟨⟨⟨h4, h5⟩, h6⟩, h7⟩, h8⟩, h9⟩, hA⟩⟩ := h
  unfold xIn at h1
  simp only [Bool.and_eq_true, Bool.not_eq_true', decide_eq_false_iff_not] at h1
  have hpl : ¬ pl < 0 := fun hB => h1.1 (Int32.lt_trans hB (by decide))
  obtain ⟨n, hn, rfl⟩ := nI_of hpl
  have n4 : 4 ≤ n := by
    rcases Nat.lt_or_ge n 4 with hB | hB
    · exact absurd (nI_lt (b := 4) hB (by decide)) h1.1
    · exact hB
  have n8 : n ≤ 8 := by
    rcases Nat.lt_or_ge 8 n with hB | hB
    · exact absurd (nI_lt (a := 8) hB hn) h1.2
    · exact hB
  obtain ⟨W, hW, rfl⟩ := xi_of n8 h4
  obtain ⟨_, _, a3⟩ := allE n n8
  have w8 : W < 256 := by omega
  have hc := bC_le W 8
  have ec : xCt (nI W) = nI (bC W 8) := by
    unfold xCt
    rw [if_pos (nI_pos' (by omega)), xBits_n (by omega) 8 (by decide)]
  rw [ec] at h2 h3
  rw [xp_n n4] at h6 h7
  have pin : ∀ {q : Int32}, xIn q 0 (nI (n - 1)) = true → ∃ j, j < n ∧ q = nI j := fun {q} hq => by
    have hB := hq
    unfold xIn at hB
    simp only [Bool.and_eq_true, Bool.not_eq_true', decide_eq_false_iff_not] at hB
    obtain ⟨j, hj, rfl⟩ := nI_of hB.1
    rw [xIn_n hj (by omega), decide_eq_true_iff] at hq
    exact ⟨j, by omega, rfl⟩
  obtain ⟨x, hx, rfl⟩ := pin h6
  obtain ⟨y, hy, rfl⟩ := pin h7
  rw [xHas_n (by omega) (by omega)] at h9 hA
  rw [m2_n, nI_leI (by omega) (by omega)] at h3
  rw [show (0 : Int32) = nI 0 from rfl, nI_leI (by omega) (by omega)] at h2
  exact ⟨n, W, x, y, rfl, rfl, rfl, rfl, n4, n8, ⟨w8, by omega, by omega, fun hB => h8 (by rw [hB]), h9, hA⟩, hW, hx, hy, by omega, by omega⟩
theorem xCt_n {W : Nat} (h : W < 256) : xCt (nI W) = nI (bC W 8) := by
  unfold xCt
  rw [if_pos (nI_pos' (by omega)), xBits_n (by omega) 8 (by decide)]
theorem xGood_to {pl wi se gu : Int32} (h : gGood pl wi se gu) : xGood pl wi se gu = true := by
  obtain ⟨n, W, x, y, rfl, rfl, rfl, rfl, n4, n8, ⟨w8, x8, y8, hxy, hWx, hWy⟩, hW, hx, hy, h1, h2⟩ := h
  have e1 : xIn (nI n) 4 8 = true := by
    unfold xIn
    rw [decide_eq_false (show ¬ nI n < 4 from nI_nlt (b := 4) n4 (by omega)), decide_eq_false (show ¬ (8 : Int32) < nI n from nI_nlt (a := 8) n8 (by decide))]; rfl
  have e2 := xi_in n8 hW
  unfold xAll at e2
  unfold xGood xWorld
  rw [e1, xCt_n w8, m2_n, e2, xp_n n4, xIn_n (by omega) (by omega), xIn_n (by omega) (by omega), decide_eq_true (show x ≤ n - 1 by omega), decide_eq_true (show y ≤ n - 1 by omega), xHas_n (by omega) (by omega), xHas_n (by omega) (by omega), hWx, hWy, xBits_n (by omega) 8 (by decide), decide_eq_true rfl, decide_eq_false (fun h9 => hxy (nI_inj (by omega) (by omega) h9)), decide_eq_false (nI_ge h2 (by omega)), decide_eq_false (show ¬ nI (bC W 8) ≤ 0 from nI_ge (a := 0) h1 (by omega))]
  rfl
theorem good_eq (pl wi se gu : Int32) : xGood pl wi se gu = yGood pl wi se gu := by
  apply Bool.eq_iff_iff.mpr
  exact ⟨fun h => yGood_to (xGood_of h), fun h => xGood_to (yGood_of h)⟩
/-! a new game: the worlds of the book -/
theorem lo_of {W x y : Nat} (h : wOk W x y) : yWo (nI W) (nI x) (nI y) &&& 255 = nI W := by
  obtain ⟨h1, h2, h3, _⟩ := h
  rw [yWo_n h2 h3, show (255 : Int32) = nI 255 from rfl, and_lo h1 h2 h3 (by decide), nI_and, and255 h1]
theorem st_P {n W x y : Nat} (hn : n ≤ 8) (hw : wOk W x y) : ∀ W9 x9 y9, W9 < 2 ^ n → x9 < n → y9 < n → yPop (nI W9) = yPop ((yWo (nI W) (nI x) (nI y)) &&& 255) → wN n (bC W 8) (64 * W9 + (8 * x9 + y9)) = (!decide (nI x9 = nI y9) && yHo (nI n) (nI W9) (nI x9) && yHo (nI n) (nI W9) (nI y9)) := by
  intro W9 x9 y9 h1 h2 h3 h4
  obtain ⟨_, _, a3⟩ := allE n hn
  have hc := bC_le W9 8
  have hc2 := bC_le W 8
  rw [lo_of hw, yPop_n W9 (by omega), yPop_n W hw.1] at h4
  have h5 := nI_inj (by omega) (by omega) h4
  unfold wN
  rw [show (64 * W9 + (8 * x9 + y9)) / 64 = W9 by omega, show (64 * W9 + (8 * x9 + y9)) / 8 % 8 = x9 by omega, show (64 * W9 + (8 * x9 + y9)) % 8 = y9 by omega, decide_eq_true h1, decide_eq_true h2, decide_eq_true h3, decide_eq_true h5, yHo_n hn (by omega) h2, yHo_n hn (by omega) h3, nI_dec (by omega) (by omega)]
  rfl
theorem st_F {n W x y : Nat} (hn : n ≤ 8) (hw : wOk W x y) (h0 : 1 ≤ bC W 8) : ∀ W9 x9 y9, W9 < 256 → x9 < 8 → y9 < 8 → (W9 = 0 ∨ 2 ^ n ≤ W9 ∨ ¬ yPop (nI W9) = yPop ((yWo (nI W) (nI x) (nI y)) &&& 255) ∨ n ≤ x9 ∨ n ≤ y9) → wN n (bC W 8) (64 * W9 + (8 * x9 + y9)) = false := by
  intro W9 x9 y9 h1 h2 h3 h4
  rw [lo_of hw, yPop_n W9 h1, yPop_n W hw.1] at h4
  cases hc : wN n (bC W 8) (64 * W9 + (8 * x9 + y9)) with
  | false => rfl
  | true =>
    obtain ⟨_, k1, k2, k3, k4⟩ := wN_ok (by omega) hc
    rw [show (64 * W9 + (8 * x9 + y9)) / 64 = W9 by omega] at k1 k2
    rw [show (64 * W9 + (8 * x9 + y9)) / 8 % 8 = x9 by omega] at k3
    rw [show (64 * W9 + (8 * x9 + y9)) % 8 = y9 by omega] at k4
    rcases h4 with h5 | h5 | h5 | h5 | h5
    · rw [h5, bC_0] at k2; omega
    · omega
    · exact absurd (by rw [k2]) h5
    · omega
    · omega
theorem st_B {n W : Nat} (h4 : 4 ≤ n) (hn : n ≤ 8) (h0 : 1 ≤ bC W 8) (h2 : 2 * bC W 8 < n) : nCt (wN n (bC W 8)) 16384 ≤ 1120 := by
  rw [nCt_cong 16384 (fun j hj => (nW_n (c := bC W 8) (by omega) hn (by omega) hj).symm)]
  exact nW_ct h4 hn h0 h2
theorem st_t {n W x y : Nat} (hw : wOk W x y) (h1 : W < 2 ^ n) (h2 : x < n) (h3 : y < n) : wN n (bC W 8) (64 * W + 8 * x + y) = true := by
  obtain ⟨q1, q2, q3, q4⟩ := wtr hw
  obtain ⟨_, _, _, g1, g2, g3⟩ := hw
  unfold wN
  rw [q2, q3, q4, decide_eq_true h1, decide_eq_true rfl, decide_eq_true h2, decide_eq_true h3, decide_eq_false g1, g2, g3]
  rfl
