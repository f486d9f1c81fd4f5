/-! claims, on both sides -/
theorem and_bit {e m : Nat} (he : e < 2 ^ 31) : (!decide (nI e &&& nI (2 ^ m) = 0)) = e.testBit m := by
  have e1 : (e &&& 2 ^ m = 0) ↔ e.testBit m = false := by
    constructor
    · intro h
      have h3 : (e &&& 2 ^ m).testBit m = false := by rw [h]; exact Nat.zero_testBit m
      rw [Nat.testBit_and, Nat.testBit_two_pow] at h3
      simpa using h3
    · intro h
      apply Nat.eq_of_testBit_eq
      intro j
      rw [Nat.testBit_and, Nat.testBit_two_pow, Nat.zero_testBit]
      by_cases h4 : m = j
      · subst h4; rw [h]; rfl
      · simp [h4]
  have e2 : (nI (e &&& 2 ^ m) = 0) ↔ e &&& 2 ^ m = 0 := by
    constructor
    · intro h; exact nI_inj (Nat.lt_of_le_of_lt Nat.and_le_left he) (by decide) (h.trans nI_0.symm)
    · intro h; rw [h]; exact nI_0
  rw [nI_and]
  cases h : e.testBit m with
  | false => rw [decide_eq_true (e2.mpr (e1.mpr h))]; rfl
  | true => rw [decide_eq_false (fun h3 => by rw [e1.mp (e2.mp h3)] at h; cases h)]; rfl
theorem and_lo {t x y S : Nat} (ht : t < 256) (hx : x < 8) (hy : y < 8) (hS : S < 256) : nI (eN t x y) &&& nI S = nI t &&& nI S := by
  rw [nI_and, nI_and]
  congr 1
  apply Nat.eq_of_testBit_eq
  intro j
  rw [Nat.testBit_and, Nat.testBit_and]
  rcases Nat.lt_or_ge j 8 with h | h
  · rw [eN_bit ht hx hy, if_pos h]
  · have : S.testBit j = false := Nat.testBit_lt_two_pow (Nat.lt_of_lt_of_le hS (by
      calc 256 = 2 ^ 8 := by decide
        _ ≤ 2 ^ j := Nat.pow_le_pow_right (by decide) h))
    rw [this, Bool.and_false, Bool.and_false]
theorem enc_of {t x y q : Nat} (ht : t < 256) (hx : x < 8) (hy : y < 8) (hq : q < 8) : (!decide (nI (eN t x y) &&& yOf (nI q) = 0)) = t.testBit q := by
  have hE := eN_lt ht hx hy
  rw [yOf_n q hq, and_bit (by omega), eN_bit ht hx hy, if_pos hq]
theorem yCb_n {k i : Nat} (hk : k < 4) (hi : i < 8) : yCb (nI k) (nI i) = nI (2 ^ (if k = 2 then i + 8 else if k = 3 then i + 16 else i)) := by
  have h2 := p2_8 i hi
  have : k = 0 ∨ k = 1 ∨ k = 2 ∨ k = 3 := by omega
  rcases this with h | h | h | h <;> subst h
  · exact yOf_n i hi
  · exact yOf_n i hi
  · show yOf (nI i) <<< ((8 : Int32) &&& 31) = _
    rw [yOf_n i hi, shl8_n h2, if_pos rfl, Nat.pow_add]
  · show yOf (nI i) <<< ((16 : Int32) &&& 31) = _
    rw [yOf_n i hi, shl16_n h2, if_neg (by decide), if_pos rfl, Nat.pow_add]
/-- a claim's words about player i, in the world t x y -/
def tN (t x y k i : Nat) : Bool := if k = 0 then t.testBit i else if k = 1 then !t.testBit i else if k = 2 then decide (x = i) else decide (y = i)
theorem xTrue_n {n k i : Nat} (hn : n < 16384) (hw : wOk (n / 64) (n / 8 % 8) (n % 8)) (hk : k < 4) (hi : i < 8) : xTrue (nI n) (nI k) (nI i) = tN (n / 64) (n / 8 % 8) (n % 8) k i := by
  obtain ⟨_, _, _, h1, h2, h3⟩ := hw
  have a2 : (n / 64).testBit i = true → ¬ n / 8 % 8 = i := fun c e => by rw [e, c] at h2; cases h2
  have a3 : (n / 64).testBit i = true → ¬ n % 8 = i := fun c e => by rw [e, c] at h3; cases h3
  have a4 : n / 8 % 8 = i → ¬ n % 8 = i := fun e f => h1 (e.trans f.symm)
  have r1 := rN_lt (n / 64) (n / 8 % 8) (n % 8) i
  have d1 : decide (nI (rN (n / 64) (n / 8 % 8) (n % 8) i) = 1) = decide (rN (n / 64) (n / 8 % 8) (n % 8) i = 1) := nI_dec (b := 1) (by omega) (by decide)
  have d2 : decide (nI (rN (n / 64) (n / 8 % 8) (n % 8) i) = 2) = decide (rN (n / 64) (n / 8 % 8) (n % 8) i = 2) := nI_dec (b := 2) (by omega) (by decide)
  have d3 : decide (nI (rN (n / 64) (n / 8 % 8) (n % 8) i) = 3) = decide (rN (n / 64) (n / 8 % 8) (n % 8) i = 3) := nI_dec (b := 3) (by omega) (by decide)
  unfold xTrue
  rw [xRole_n hn hi, d1, d2, d3]
  have : k = 0 ∨ k = 1 ∨ k = 2 ∨ k = 3 := by omega
  rcases this with h | h | h | h <;> subst h
  · rw [if_pos (by decide)]
    unfold rN tN
    by_cases c1 : (n / 64).testBit i = true <;> by_cases c2 : n / 8 % 8 = i <;> by_cases c3 : n % 8 = i <;> simp_all
  · rw [if_neg (by decide), if_pos (by decide)]
    unfold rN tN
    by_cases c1 : (n / 64).testBit i = true <;> by_cases c2 : n / 8 % 8 = i <;> by_cases c3 : n % 8 = i <;> simp_all
  · rw [if_neg (by decide), if_neg (by decide), if_pos (by decide)]
    unfold rN tN
    by_cases c1 : (n / 64).testBit i = true <;> by_cases c2 : n / 8 % 8 = i <;> by_cases c3 : n % 8 = i <;> simp_all
  · rw [if_neg (by decide), if_neg (by decide), if_neg (by decide)]
    unfold rN tN
    by_cases c1 : (n / 64).testBit i = true <;> by_cases c2 : n / 8 % 8 = i <;> by_cases c3 : n % 8 = i <;> simp_all
theorem yAg_n {t x y k i j : Nat} (ht : t < 256) (hx : x < 8) (hy : y < 8) (hk : k < 4) (hi : i < 8) (hj : j < 8) : yAg (nI (eN t x y)) (nI j) (yCb (nI k) (nI i)) (!decide (nI k = 1)) = (t.testBit j || tN t x y k i) := by
  have hE := eN_lt ht hx hy
  unfold yAg
  rw [enc_of ht hx hy hj, yCb_n hk hi, and_bit (by omega), eN_bit ht hx hy]
  congr 1
  have : k = 0 ∨ k = 1 ∨ k = 2 ∨ k = 3 := by omega
  rcases this with h | h | h | h <;> subst h
  · rw [show (if (0 : Nat) = 2 then i + 8 else if (0 : Nat) = 3 then i + 16 else i) = i from rfl, if_pos hi, show (!decide (nI 0 = 1)) = true by decide]
    simp [tN]
  · rw [show (if (1 : Nat) = 2 then i + 8 else if (1 : Nat) = 3 then i + 16 else i) = i from rfl, if_pos hi, show (!decide (nI 1 = 1)) = false by decide]
    simp [tN]
  · rw [show (if (2 : Nat) = 2 then i + 8 else if (2 : Nat) = 3 then i + 16 else i) = i + 8 from rfl, if_neg (by omega), if_pos (by omega), show (!decide (nI 2 = 1)) = true by decide]
    simp [tN]
    exact eq_comm
  · rw [show (if (3 : Nat) = 2 then i + 8 else if (3 : Nat) = 3 then i + 16 else i) = i + 16 from rfl, if_neg (by omega), if_neg (by omega), show (!decide (nI 3 = 1)) = true by decide]
    simp [tN]
    exact eq_comm
theorem yAm_n {t x y S j : Nat} (ht : t < 256) (hx : x < 8) (hy : y < 8) (hS : S < 256) (hj : j < 8) : yAg (nI (eN t x y)) (nI j) (nI S) true = (t.testBit j || !decide (nI t &&& nI S = 0)) := by
  unfold yAg
  rw [enc_of ht hx hy hj, and_lo ht hx hy hS]
  cases decide (nI t &&& nI S = 0) <;> rfl
