/-! worlds that may be: as numbers, how many, and their book numbers -/
theorem xIn_n {v m : Nat} (hv : v < 2 ^ 31) (hm : m < 2 ^ 31) : xIn (nI v) 0 (nI m) = decide (v ≤ m) := by
  unfold xIn
  rw [decide_eq_false (nI_pos hv), Bool.not_false, Bool.true_and]
  by_cases h : v ≤ m
  · rw [decide_eq_true h, decide_eq_false (nI_nlt h hm)]; rfl
  · rw [decide_eq_false h, decide_eq_true (nI_lt (by omega) hv)]; rfl
def wN (p c n : Nat) : Bool := (decide (n / 64 < 2 ^ p) && decide (bC (n / 64) 8 = c) && decide (n / 8 % 8 < p) && decide (n % 8 < p)) && !decide (n / 8 % 8 = n % 8) && !(n / 64).testBit (n / 8 % 8) && !(n / 64).testBit (n % 8)
theorem nW_n {p c n : Nat} (h1 : 1 ≤ p) (hp : p ≤ 8) (hc : c < 2 ^ 31) (hn : n < 16384) : nW (nI p) (nI c) n = wN p c n := by
  obtain ⟨a1, a2, a3⟩ := allE p hp
  have e1 : nI p - 1 = nI (p - 1) := pk_sub (b := 1) h1
  have hb := bC_le (n / 64) 8
  unfold nW xWorld wN
  rw [show ((1 : Int32) <<< (nI p &&& 31)) - 1 = xAll (nI p) from rfl, a1, e1, wdT hn, wdX hn, wdY hn, xIn_n (by omega) (by omega), xIn_n (by omega) (by omega), xIn_n (by omega) (by omega), xBits_n (by omega) 8 (by decide), nI_dec (by omega) hc, nI_dec (by omega) (by omega), xHas_n (by omega) (by omega), xHas_n (by omega) (by omega)]
  rw [show decide (n / 64 ≤ 2 ^ p - 1) = decide (n / 64 < 2 ^ p) from decide_eq_decide.mpr (by omega), show decide (n / 8 % 8 ≤ p - 1) = decide (n / 8 % 8 < p) from decide_eq_decide.mpr (by omega), show decide (n % 8 ≤ p - 1) = decide (n % 8 < p) from decide_eq_decide.mpr (by omega)]
theorem wN_ok {p c n : Nat} (hn : n < 16384) (h : wN p c n = true) : wOk (n / 64) (n / 8 % 8) (n % 8) ∧ n / 64 < 2 ^ p ∧ bC (n / 64) 8 = c ∧ n / 8 % 8 < p ∧ n % 8 < p := by
  unfold wN at h
  simp only [Bool.and_eq_true, decide_eq_true_iff, Bool.not_eq_true', decide_eq_false_iff_not] at h
  obtain ⟨⟨⟨⟨⟨⟨h1, h2⟩, h3⟩, h4⟩, h5⟩, h6⟩, h7⟩ := h
  exact ⟨⟨by omega, by omega, by omega, h5, h6, h7⟩, h1, h2, h3, h4⟩
theorem nCt_cong {P Q : Nat → Bool} : ∀ n, (∀ j, j < n → P j = Q j) → nCt P n = nCt Q n := by
  intro n
  induction n with
  | zero => intro _; rfl
  | succ n ih =>
    intro h
    rw [nCt_succ, nCt_succ, ih (fun j hj => h j (by omega)), h n (by omega)]
theorem nCt_add (P : Nat → Bool) (a : Nat) : ∀ b, nCt P (a + b) = nCt P a + nCt (fun j => P (a + j)) b := by
  intro b
  induction b with
  | zero => rfl
  | succ b ih => rw [← Nat.add_assoc, nCt_succ, nCt_succ, ih]; omega
theorem yEnc_n {n : Nat} : yEnc n = nI (eN (n / 64) (n / 8 % 8) (n % 8)) := yWo_n (by omega) (by omega)
theorem or_0 {x y : Int32} (h : x ||| y = 0) : y = 0 := by
  have h2 := congrArg Int32.toBitVec h
  apply Int32.toBitVec_inj.mp
  rw [Int32.toBitVec_or] at h2
  exact (BitVec.or_eq_zero_iff.mp h2).2
theorem yEnc_ne (b : Nat) : ¬ yEnc b = 0 := by
  intro h
  have h2 := or_0 (show (nI (b / 64) ||| (yOf (nI (b / 8 % 8)) <<< ((8 : Int32) &&& 31))) ||| (yOf (nI (b % 8)) <<< ((16 : Int32) &&& 31)) = 0 from h)
  have : b % 8 = 0 ∨ b % 8 = 1 ∨ b % 8 = 2 ∨ b % 8 = 3 ∨ b % 8 = 4 ∨ b % 8 = 5 ∨ b % 8 = 6 ∨ b % 8 = 7 := by omega
  rcases this with e | e | e | e | e | e | e | e <;> rw [e] at h2 <;> exact absurd h2 (by decide)
theorem eN_inj {t x y T X Y : Nat} (ht : t < 256) (hx : x < 8) (hy : y < 8) (hT : T < 256) (hX : X < 8) (hY : Y < 8) (h : eN t x y = eN T X Y) : t = T ∧ x = X ∧ y = Y := by
  have hb : ∀ j, (eN t x y).testBit j = (eN T X Y).testBit j := fun j => by rw [h]
  refine ⟨?_, ?_, ?_⟩
  · apply Nat.eq_of_testBit_eq
    intro j
    have h1 := hb j
    rw [eN_bit ht hx hy, eN_bit hT hX hY] at h1
    rcases Nat.lt_or_ge j 8 with h2 | h2
    · rw [if_pos h2, if_pos h2] at h1; exact h1
    · have hz : ∀ k, k < 256 → k.testBit j = false := fun k hk => Nat.testBit_lt_two_pow (Nat.lt_of_lt_of_le hk (by
        calc 256 = 2 ^ 8 := by decide
          _ ≤ 2 ^ j := Nat.pow_le_pow_right (by decide) h2))
      rw [hz t ht, hz T hT]
  · have h1 := hb (x + 8)
    rw [eN_bit ht hx hy, eN_bit hT hX hY, if_neg (by omega), if_pos (by omega), if_neg (by omega), if_pos (by omega)] at h1
    have := decide_eq_decide.mp h1
    omega
  · have h1 := hb (y + 16)
    rw [eN_bit ht hx hy, eN_bit hT hX hY, if_neg (by omega), if_neg (by omega), if_neg (by omega), if_neg (by omega)] at h1
    have := decide_eq_decide.mp h1
    omega
theorem yEnc_inj {a b : Nat} (ha : a < 16384) (hb : b < 16384) (h : yEnc a = yEnc b) : a = b := by
  rw [yEnc_n, yEnc_n] at h
  have h1 := eN_lt (t := a / 64) (x := a / 8 % 8) (y := a % 8) (by omega) (by omega) (by omega)
  have h2 := eN_lt (t := b / 64) (x := b / 8 % 8) (y := b % 8) (by omega) (by omega) (by omega)
  have h3 := eN_inj (by omega) (by omega) (by omega) (by omega) (by omega) (by omega) (nI_inj (by omega) (by omega) h)
  omega
