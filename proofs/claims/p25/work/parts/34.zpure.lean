/-! the book and the reference's row of worlds: the arithmetic behind their agreement -/
theorem nI_inj {a b : Nat} (ha : a < 2 ^ 31) (hb : b < 2 ^ 31) (h : nI a = nI b) : a = b := (nI_eq ha hb).mp h
theorem nI_and (a b : Nat) : nI a &&& nI b = nI (a &&& b) := by
  apply Int32.toBitVec_inj.mp
  simp [nI, Int32.toBitVec_and, Int32.toBitVec_ofNat, ← BitVec.ofNat_and]
theorem nI_or (a b : Nat) : nI a ||| nI b = nI (a ||| b) := by
  apply Int32.toBitVec_inj.mp
  simp [nI, Int32.toBitVec_or, Int32.toBitVec_ofNat, ← BitVec.ofNat_or]
theorem nI_xor (a b : Nat) : nI a ^^^ nI b = nI (a ^^^ b) := by
  apply Int32.toBitVec_inj.mp
  simp [nI, Int32.toBitVec_xor, Int32.toBitVec_ofNat, ← BitVec.ofNat_xor]
theorem yOf_n : ∀ q, q < 8 → yOf (nI q) = nI (2 ^ q) := by
  intro q h
  have : q = 0 ∨ q = 1 ∨ q = 2 ∨ q = 3 ∨ q = 4 ∨ q = 5 ∨ q = 6 ∨ q = 7 := by omega
  rcases this with h | h | h | h | h | h | h | h <;> subst h <;> decide
theorem shl8_n {x : Nat} (h : x < 256) : nI x <<< ((8 : Int32) &&& 31) = nI (x * 256) := pk_shlN _ 8 (by decide) (by omega)
theorem shl16_n {x : Nat} (h : x < 256) : nI x <<< ((16 : Int32) &&& 31) = nI (x * 65536) := pk_shlN _ 16 (by decide) (by omega)
/-- a world's book number, as a number -/
def eN (t x y : Nat) : Nat := t ||| (2 ^ x * 256) ||| (2 ^ y * 65536)
theorem p2_8 : ∀ x, x < 8 → 2 ^ x < 256 := by
  intro q h
  have : q = 0 ∨ q = 1 ∨ q = 2 ∨ q = 3 ∨ q = 4 ∨ q = 5 ∨ q = 6 ∨ q = 7 := by omega
  rcases this with h | h | h | h | h | h | h | h <;> subst h <;> decide
theorem yWo_n {t x y : Nat} (hx : x < 8) (hy : y < 8) : yWo (nI t) (nI x) (nI y) = nI (eN t x y) := by
  unfold yWo eN
  rw [yOf_n x hx, yOf_n y hy, shl8_n (p2_8 x hx), shl16_n (p2_8 y hy), nI_or, nI_or]
theorem yRb_n {x : Nat} (h : x < 256) : yRb (nI x) = nI (x ||| (x * 256) ||| (x * 65536)) := by
  unfold yRb
  rw [shl8_n h, shl16_n h, nI_or, nI_or]
theorem lt24 {x : Nat} (h : x < 256) : x ||| (x * 256) ||| (x * 65536) < 2 ^ 24 := by
  apply Nat.or_lt_two_pow
  · apply Nat.or_lt_two_pow <;> omega
  · omega
theorem eN_lt {t x y : Nat} (ht : t < 256) (hx : x < 8) (hy : y < 8) : eN t x y < 2 ^ 24 := by
  have h1 := p2_8 x hx
  have h2 := p2_8 y hy
  unfold eN
  apply Nat.or_lt_two_pow
  · apply Nat.or_lt_two_pow <;> omega
  · omega
/-- the bits of a world's number -/
theorem eN_bit {t x y : Nat} (ht : t < 256) (hx : x < 8) (hy : y < 8) (j : Nat) : (eN t x y).testBit j = if j < 8 then t.testBit j else if j < 16 then decide (j = x + 8) else decide (j = y + 16) := by
  unfold eN
  rw [Nat.testBit_or, Nat.testBit_or, show (256 : Nat) = 2 ^ 8 by decide, show (65536 : Nat) = 2 ^ 16 by decide, ← Nat.pow_add, ← Nat.pow_add, Nat.testBit_two_pow, Nat.testBit_two_pow]
  have hj : 8 ≤ j → t.testBit j = false := fun h => Nat.testBit_lt_two_pow (Nat.lt_of_lt_of_le ht (by
    calc 256 = 2 ^ 8 := by decide
      _ ≤ 2 ^ j := Nat.pow_le_pow_right (by decide) h))
  by_cases h1 : j < 8
  · have e1 : ¬ x + 8 = j := by omega
    have e2 : ¬ y + 16 = j := by omega
    simp [h1, e1, e2]
  · by_cases h2 : j < 16
    · have e2 : ¬ y + 16 = j := by omega
      have e3 := hj (by omega)
      simp [h1, h2, e2, e3]
      exact eq_comm
    · have e1 : ¬ x + 8 = j := by omega
      have e3 := hj (by omega)
      simp [h1, h2, e1, e3]
      exact eq_comm
theorem agr_n {a b k : Nat} (ha : a < 2 ^ 24) (hb : b < 2 ^ 24) (hk : k < 2 ^ 24) : yAgr (nI a) (nI b) (nI k) = true ↔ ∀ j, k.testBit j = true → a.testBit j = b.testBit j := by
  have hx : (a ^^^ b) &&& k < 2 ^ 31 := Nat.lt_of_le_of_lt Nat.and_le_right (by omega)
  unfold yAgr
  rw [nI_xor, nI_and]
  have e0 : (nI ((a ^^^ b) &&& k) = 0) ↔ (a ^^^ b) &&& k = 0 := by
    constructor
    · intro h; exact nI_inj hx (by decide) (h.trans nI_0.symm)
    · intro h; rw [h]; exact nI_0
  rw [decide_eq_true_iff, e0]
  constructor
  · intro h j hj
    have h2 : ((a ^^^ b) &&& k).testBit j = false := by rw [h]; exact Nat.zero_testBit j
    rw [Nat.testBit_and, Nat.testBit_xor, hj, Bool.and_true] at h2
    revert h2; cases a.testBit j <;> cases b.testBit j <;> simp
  · intro h
    apply Nat.eq_of_testBit_eq
    intro j
    rw [Nat.testBit_and, Nat.testBit_xor, Nat.zero_testBit]
    cases hk2 : k.testBit j with
    | false => simp
    | true => rw [h j hk2]; simp
theorem rb_bit {x : Nat} (h : x < 256) (j : Nat) : (x ||| (x * 256) ||| (x * 65536)).testBit j = (if j < 8 then x.testBit j else if j < 16 then x.testBit (j - 8) else x.testBit (j - 16)) := by
  have hj : ∀ i, 8 ≤ i → x.testBit i = false := fun i h2 => Nat.testBit_lt_two_pow (Nat.lt_of_lt_of_le h (by
    calc 256 = 2 ^ 8 := by decide
      _ ≤ 2 ^ i := Nat.pow_le_pow_right (by decide) h2))
  rw [Nat.testBit_or, Nat.testBit_or, show (256 : Nat) = 2 ^ 8 by decide, show (65536 : Nat) = 2 ^ 16 by decide, Nat.testBit_mul_two_pow, Nat.testBit_mul_two_pow]
  by_cases h1 : j < 8
  · have e1 : ¬ 8 ≤ j := by omega
    have e2 : ¬ 16 ≤ j := by omega
    simp [h1, e1, e2]
  · by_cases h2 : j < 16
    · have e1 : 8 ≤ j := by omega
      have e2 : ¬ 16 ≤ j := by omega
      simp [h1, h2, e1, e2, hj j (by omega)]
    · have e1 : 8 ≤ j := by omega
      have e2 : 16 ≤ j := by omega
      simp [h1, h2, e1, e2, hj j (by omega), hj (j - 8) (by omega)]
/-- agreement on what is known by the roles of the players in x -/
theorem agr_rb {t x y T X Y k : Nat} (ht : t < 256) (hx : x < 8) (hy : y < 8) (hT : T < 256) (hX : X < 8) (hY : Y < 8) (hk : k < 256) : yAgr (nI (eN t x y)) (nI (eN T X Y)) (yRb (nI k)) = true ↔ ∀ q, q < 8 → k.testBit q = true → (t.testBit q = T.testBit q ∧ (x = q ↔ X = q) ∧ (y = q ↔ Y = q)) := by
  rw [yRb_n hk, agr_n (eN_lt ht hx hy) (eN_lt hT hX hY) (lt24 hk)]
  constructor
  · intro h q hq hkq
    have h1 := h q (by rw [rb_bit hk, if_pos hq]; exact hkq)
    have h2 := h (q + 8) (by rw [rb_bit hk, if_neg (by omega), if_pos (by omega)]; rw [show q + 8 - 8 = q by omega]; exact hkq)
    have h3 := h (q + 16) (by rw [rb_bit hk, if_neg (by omega), if_neg (by omega)]; rw [show q + 16 - 16 = q by omega]; exact hkq)
    rw [eN_bit ht hx hy, eN_bit hT hX hY] at h1 h2 h3
    rw [if_pos hq, if_pos hq] at h1
    rw [if_neg (by omega), if_pos (by omega), if_neg (by omega), if_pos (by omega)] at h2
    rw [if_neg (by omega), if_neg (by omega), if_neg (by omega), if_neg (by omega)] at h3
    refine ⟨h1, ?_, ?_⟩
    · have := decide_eq_decide.mp h2
      constructor <;> intro h9 <;> omega
    · have := decide_eq_decide.mp h3
      constructor <;> intro h9 <;> omega
  · intro h j hj
    rw [rb_bit hk] at hj
    rw [eN_bit ht hx hy, eN_bit hT hX hY]
    by_cases h1 : j < 8
    · rw [if_pos h1] at hj ⊢
      rw [if_pos h1]
      exact (h j h1 hj).1
    · rw [if_neg h1] at hj ⊢
      rw [if_neg h1]
      have hlt : ∀ i, k.testBit i = true → i < 8 := fun i hi => by
        rcases Nat.lt_or_ge i 8 with h9 | h9
        · exact h9
        · rw [Nat.testBit_lt_two_pow (Nat.lt_of_lt_of_le hk (by
            calc 256 = 2 ^ 8 := by decide
              _ ≤ 2 ^ i := Nat.pow_le_pow_right (by decide) h9))] at hi
          cases hi
      by_cases h2 : j < 16
      · rw [if_pos h2] at hj ⊢
        rw [if_pos h2]
        have h3 := (h (j - 8) (hlt _ hj) hj).2.1
        apply decide_eq_decide.mpr
        constructor <;> intro h9 <;> omega
      · rw [if_neg h2] at hj ⊢
        rw [if_neg h2]
        have h3 := (h (j - 16) (hlt _ hj) hj).2.2
        apply decide_eq_decide.mpr
        constructor <;> intro h9 <;> omega
/-- agreement on some of the low bits -/
theorem agr_lo {t x y T X Y k : Nat} (ht : t < 256) (hx : x < 8) (hy : y < 8) (hT : T < 256) (hX : X < 8) (hY : Y < 8) (hk : k < 256) : yAgr (nI (eN t x y)) (nI (eN T X Y)) (nI k) = true ↔ t &&& k = T &&& k := by
  rw [agr_n (eN_lt ht hx hy) (eN_lt hT hX hY) (by omega)]
  have hlt : ∀ i, k.testBit i = true → i < 8 := fun i hi => by
    rcases Nat.lt_or_ge i 8 with h9 | h9
    · exact h9
    · rw [Nat.testBit_lt_two_pow (Nat.lt_of_lt_of_le hk (by
        calc 256 = 2 ^ 8 := by decide
          _ ≤ 2 ^ i := Nat.pow_le_pow_right (by decide) h9))] at hi
      cases hi
  constructor
  · intro h
    apply Nat.eq_of_testBit_eq
    intro j
    rw [Nat.testBit_and, Nat.testBit_and]
    cases hj : k.testBit j with
    | false => simp
    | true =>
      have h1 := h j hj
      rw [eN_bit ht hx hy, eN_bit hT hX hY, if_pos (hlt j hj), if_pos (hlt j hj)] at h1
      rw [h1]
  · intro h j hj
    have h1 : (t &&& k).testBit j = (T &&& k).testBit j := by rw [h]
    rw [Nat.testBit_and, Nat.testBit_and, hj, Bool.and_true, Bool.and_true] at h1
    rw [eN_bit ht hx hy, eN_bit hT hX hY, if_pos (hlt j hj), if_pos (hlt j hj)]
    exact h1
theorem agr_or {e tr k1 k2 : Nat} (he : e < 2 ^ 24) (htr : tr < 2 ^ 24) (h1 : k1 < 2 ^ 24) (h2 : k2 < 2 ^ 24) : yAgr (nI e) (nI tr) (nI k1 ||| nI k2) = (yAgr (nI e) (nI tr) (nI k1) && yAgr (nI e) (nI tr) (nI k2)) := by
  rw [nI_or]
  apply Bool.eq_iff_iff.mpr
  rw [Bool.and_eq_true, agr_n he htr (Nat.or_lt_two_pow h1 h2), agr_n he htr h1, agr_n he htr h2]
  constructor
  · intro h
    exact ⟨fun j hj => h j (by rw [Nat.testBit_or, hj]; rfl), fun j hj => h j (by rw [Nat.testBit_or, hj, Bool.or_true])⟩
  · intro h j hj
    rw [Nat.testBit_or] at hj
    cases hk : k1.testBit j with
    | true => exact h.1 j hk
    | false => rw [hk, Bool.false_or] at hj; exact h.2 j hj
