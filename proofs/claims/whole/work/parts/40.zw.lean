/-! a world's parts, as both sides read them -/
theorem wdT {n : Nat} (h : n < 16384) : nI n / 64 = nI (n / 64) := pk_div (d := 64) (by omega) (by decide) (by decide)
theorem wdX {n : Nat} (h : n < 16384) : nI n / 8 - nI n / 8 / 8 * 8 = nI (n / 8 % 8) := by
  have e : nI n / 8 = nI (n / 8) := pk_div (d := 8) (by omega) (by decide) (by decide)
  rw [e]
  exact pk_rem (d := 8) (by omega) (by decide) (by decide)
theorem wdY {n : Nat} (h : n < 16384) : nI n - nI n / 8 * 8 = nI (n % 8) := pk_rem (d := 8) (by omega) (by decide) (by decide)
theorem pk_one {x : Nat} (h : x < 2) : decide (nI x = 1) = decide (x = 1) := by
  have : x = 0 ∨ x = 1 := by omega
  rcases this with h | h <;> subst h <;> decide
theorem xHas_n {t q : Nat} (ht : t < 2 ^ 31) (hq : q < 8) : xHas (nI t) (nI q) = t.testBit q := by
  have e : nI t >>> (nI q &&& 31) = nI (t / 2 ^ q) := by
    have : q = 0 ∨ q = 1 ∨ q = 2 ∨ q = 3 ∨ q = 4 ∨ q = 5 ∨ q = 6 ∨ q = 7 := by omega
    rcases this with h | h | h | h | h | h | h | h <;> subst h <;> exact pk_shrN ht _ _ (by decide)
  unfold xHas
  rw [e, pk_andN (Nat.lt_of_le_of_lt (Nat.div_le_self _ _) (by omega)) 1 (by decide), pk_one (by omega), Nat.testBit_eq_decide_div_mod_eq]
theorem yIn_n {t q : Nat} (ht : t < 2 ^ 31) (hq : q < 8) : yIn (nI t) (nI q) = t.testBit q := by
  have h2 := p2_8 q hq
  have e : (t &&& 2 ^ q = 0) ↔ t.testBit q = false := by
    constructor
    · intro h
      have h3 : (t &&& 2 ^ q).testBit q = false := by rw [h]; exact Nat.zero_testBit q
      rw [Nat.testBit_and, Nat.testBit_two_pow] at h3
      simpa using h3
    · intro h
      apply Nat.eq_of_testBit_eq
      intro j
      rw [Nat.testBit_and, Nat.testBit_two_pow, Nat.zero_testBit]
      by_cases h4 : q = j
      · subst h4; rw [h]; rfl
      · simp [h4]
  have e2 : (nI (t &&& 2 ^ q) = 0) ↔ t &&& 2 ^ q = 0 := by
    constructor
    · intro h; exact nI_inj (Nat.lt_of_le_of_lt Nat.and_le_left ht) (by decide) (h.trans nI_0.symm)
    · intro h; rw [h]; exact nI_0
  unfold yIn
  rw [yOf_n q hq, nI_and]
  cases h : t.testBit q with
  | false => rw [decide_eq_true (e2.mpr (e.mpr h))]; rfl
  | true => rw [decide_eq_false (fun h3 => by rw [e.mp (e2.mp h3)] at h; cases h)]; rfl
theorem has_in {t q : Nat} (ht : t < 2 ^ 31) (hq : q < 8) : xHas (nI t) (nI q) = yIn (nI t) (nI q) := by rw [xHas_n ht hq, yIn_n ht hq]
/-- how many bits -/
def bC (t : Nat) : Nat → Nat
  | 0 => 0
  | n + 1 => bC t n + (t.testBit n).toNat
theorem bC_le (t : Nat) : ∀ n, bC t n ≤ n := by
  intro n
  induction n with
  | zero => exact Nat.le_refl _
  | succ n ih =>
    have : (t.testBit n).toNat ≤ 1 := by cases t.testBit n <;> decide
    unfold bC; omega
theorem xBits_n {t : Nat} (ht : t < 2 ^ 31) : ∀ n, n ≤ 8 → xBits (nI t) n = nI (bC t n) := by
  intro n
  induction n with
  | zero => intro _; exact nI_0.symm
  | succ n ih =>
    intro hn
    have e := ih (by omega)
    have h := xHas_n (q := n) ht (by omega)
    unfold xHas at h
    have e2 : (nI t >>> (nI n &&& 31)) &&& 1 = nI (t.testBit n).toNat := by
      rw [← h]
      have e3 : nI t >>> (nI n &&& 31) = nI (t / 2 ^ n) := by
        have : n = 0 ∨ n = 1 ∨ n = 2 ∨ n = 3 ∨ n = 4 ∨ n = 5 ∨ n = 6 ∨ n = 7 := by omega
        rcases this with h | h | h | h | h | h | h | h <;> subst h <;> exact pk_shrN ht _ _ (by decide)
      rw [e3, pk_andN (Nat.lt_of_le_of_lt (Nat.div_le_self _ _) (by omega)) 1 (by decide)]
      have : t / 2 ^ n % 2 ^ 1 = 0 ∨ t / 2 ^ n % 2 ^ 1 = 1 := by omega
      rcases this with h | h <;> rw [h] <;> decide
    unfold xBits bC
    rw [e, e2, nI_add]
theorem yPop_n : ∀ t, t < 256 → yPop (nI t) = nI (bC t 8) := by
  intro t
  have := (by decide +kernel : ∀ t : Fin 256, yPop (nI t.val) = nI (bC t.val 8))
  intro h
  exact this ⟨t, h⟩
theorem bits_pop {t : Nat} (ht : t < 256) : xBits (nI t) 8 = yPop (nI t) := by rw [xBits_n (by omega) 8 (by decide), yPop_n t ht]
/-- a world as the reference numbers it: nobody has two roles -/
def wOk (t x y : Nat) : Prop := t < 256 ∧ x < 8 ∧ y < 8 ∧ ¬ x = y ∧ t.testBit x = false ∧ t.testBit y = false
/-- what player q is there -/
def rN (t x y q : Nat) : Nat := if t.testBit q = true then 1 else if x = q then 2 else if y = q then 3 else 0
theorem nI_dec {a b : Nat} (ha : a < 2 ^ 31) (hb : b < 2 ^ 31) : decide (nI a = nI b) = decide (a = b) := decide_eq_decide.mpr (nI_eq ha hb)
theorem xRole_n {n q : Nat} (h : n < 16384) (hq : q < 8) : xRole (nI n) (nI q) = nI (rN (n / 64) (n / 8 % 8) (n % 8) q) := by
  unfold xRole rN
  rw [wdT h, wdX h, wdY h, xHas_n (by omega) hq]
  have e1 : (nI (n / 8 % 8) = nI q) = (n / 8 % 8 = q) := propext (nI_eq (by omega) (by omega))
  have e2 : (nI (n % 8) = nI q) = (n % 8 = q) := propext (nI_eq (by omega) (by omega))
  simp only [e1, e2]
  split
  · rfl
  · split
    · rfl
    · split <;> rfl
theorem rN_lt (t x y q : Nat) : rN t x y q < 4 := by
  unfold rN
  split
  · decide
  · split
    · decide
    · split <;> decide
/-- the same role: what both sides ask of it -/
theorem role_eq {t x y T X Y q : Nat} (h : wOk t x y) (H : wOk T X Y) : (rN t x y q = rN T X Y q) ↔ (t.testBit q = T.testBit q ∧ (x = q ↔ X = q) ∧ (y = q ↔ Y = q)) := by
  obtain ⟨_, _, _, h1, h2, h3⟩ := h
  obtain ⟨_, _, _, H1, H2, H3⟩ := H
  have a1 : t.testBit q = true → ¬ x = q := fun c e => by rw [e, c] at h2; cases h2
  have a2 : t.testBit q = true → ¬ y = q := fun c e => by rw [e, c] at h3; cases h3
  have A1 : T.testBit q = true → ¬ X = q := fun c e => by rw [e, c] at H2; cases H2
  have A2 : T.testBit q = true → ¬ Y = q := fun c e => by rw [e, c] at H3; cases H3
  have a3 : x = q → ¬ y = q := fun e f => h1 (e.trans f.symm)
  have A3 : X = q → ¬ Y = q := fun e f => H1 (e.trans f.symm)
  unfold rN
  by_cases c1 : t.testBit q = true <;> by_cases c2 : T.testBit q = true <;> by_cases c3 : x = q <;> by_cases c4 : X = q <;> by_cases c5 : y = q <;> by_cases c6 : Y = q <;> simp_all
theorem rb_of {q : Nat} (hq : q < 8) {t x y T X Y : Nat} (h : wOk t x y) (H : wOk T X Y) : yAgr (nI (eN t x y)) (nI (eN T X Y)) (yRb (yOf (nI q))) = decide (rN t x y q = rN T X Y q) := by
  rw [yOf_n q hq]
  apply Bool.eq_iff_iff.mpr
  rw [agr_rb h.1 h.2.1 h.2.2.1 H.1 H.2.1 H.2.2.1 (p2_8 q hq), decide_eq_true_iff, role_eq h H]
  constructor
  · intro k; exact k q hq (by rw [Nat.testBit_two_pow]; simp)
  · intro k j hj hb
    rw [Nat.testBit_two_pow] at hb
    have : q = j := of_decide_eq_true hb
    subst this
    exact k
