/-! counting over the book's row and over the reference's worlds -/
theorem xCnt_cong {P Q : Nat → Bool} : ∀ n, (∀ j, j < n → P j = Q j) → xCnt P n = xCnt Q n := by
  intro n
  induction n with
  | zero => intro _; rfl
  | succ n ih =>
    intro h
    show xCnt P n + bI (P n) = xCnt Q n + bI (Q n)
    rw [ih (fun j hj => h j (by omega)), h n (by omega)]
theorem xCnt_pg (cl : Nat → Bool) (F : Int32 → Bool) (N : Nat) : ∀ n, n ≤ N → xCnt (fun k => F (pgF cl N k)) (nCt cl n) = xCnt (fun m => cl m && F (yEnc m)) n := by
  intro n
  induction n with
  | zero => intro _; rfl
  | succ n ih =>
    intro hn
    have h1 := ih (by omega)
    show _ = xCnt (fun m => cl m && F (yEnc m)) n + bI (cl n && F (yEnc n))
    rw [← h1]
    cases hc : cl n with
    | false =>
      have e : nCt cl (n + 1) = nCt cl n := by simp [nCt, hc]
      rw [e, Bool.false_and, show bI false = 0 from rfl, Int32.add_zero]
    | true =>
      have e : nCt cl (n + 1) = nCt cl n + 1 := by simp [nCt, hc]
      rw [e, Bool.true_and]
      show xCnt _ (nCt cl n) + bI (F (pgF cl N (nCt cl n))) = _
      rw [pgF_at cl N n (by omega) hc]
/-- the same of any way through the row -/
def wFo {α : Type} (f : α → Int32 → α) (z : α) (g : Nat → Int32) : Nat → α
  | 0 => z
  | n + 1 => f (wFo f z g n) (g n)
def wFw {α : Type} (f : α → Int32 → α) (z : α) (cl : Nat → Bool) : Nat → α
  | 0 => z
  | n + 1 => if cl n = true then f (wFw f z cl n) (yEnc n) else wFw f z cl n
theorem wFo_pg {α : Type} (f : α → Int32 → α) (z : α) (cl : Nat → Bool) (N : Nat) : ∀ n, n ≤ N → wFo f z (pgF cl N) (nCt cl n) = wFw f z cl n := by
  intro n
  induction n with
  | zero => intro _; rfl
  | succ n ih =>
    intro hn
    have h1 := ih (by omega)
    cases hc : cl n with
    | false =>
      have e : nCt cl (n + 1) = nCt cl n := by simp [nCt, hc]
      unfold wFw
      rw [e, if_neg (by rw [hc]; decide)]; exact h1
    | true =>
      have e : nCt cl (n + 1) = nCt cl n + 1 := by simp [nCt, hc]
      unfold wFw
      rw [e, if_pos hc, ← h1]
      show f _ (pgF cl N (nCt cl n)) = _
      rw [pgF_at cl N n (by omega) hc]
theorem yWa_fo (g : Nat → Int32) (tr kn : Int32) : ∀ n, yWa g tr kn n = wFo (fun s e => if yAgr e tr kn = true then s &&& (e &&& 255) else s) 255 g n := by
  intro n
  induction n with
  | zero => rfl
  | succ n ih => unfold yWa wFo; rw [ih]
theorem yWy_fo (g : Nat → Int32) (tr kn : Int32) : ∀ n, yWy g tr kn n = wFo (fun s e => if yAgr e tr kn = true then s ||| (e &&& 255) else s) 0 g n := by
  intro n
  induction n with
  | zero => rfl
  | succ n ih => unfold yWy wFo; rw [ih]
theorem yCs_fo (g : Nat → Int32) (tr kn : Int32) : ∀ n, yCs g tr kn n = wFo (fun s e => if yAgr e tr kn = true then (if e &&& 255 = s.2 then s else (s.1 + 1, e &&& 255)) else s) ((0 : Int32), (0 : Int32)) g n := by
  intro n
  induction n with
  | zero => rfl
  | succ n ih => unfold yCs wFo; rw [ih]
/-- the role of player i in a world, as the book asks it -/
theorem and_rb {e m : Nat} (hm : m < 256) : nI e &&& yRb (nI m) = nI (e &&& (m ||| (m * 256) ||| (m * 65536))) := by rw [yRb_n hm, nI_and]
def bRn (i r : Nat) : Nat := if r = 1 then 2 ^ i else if r = 2 then 2 ^ (i + 8) else if r = 3 then 2 ^ (i + 16) else 0
theorem yBr_n {i r : Nat} (hi : i < 8) (hr : r < 4) : yBr (nI i) (nI r) = nI (bRn i r) := by
  have h2 := p2_8 i hi
  have : r = 0 ∨ r = 1 ∨ r = 2 ∨ r = 3 := by omega
  rcases this with h | h | h | h <;> subst h
  · exact nI_0.symm
  · exact yOf_n i hi
  · show yOf (nI i) <<< ((8 : Int32) &&& 31) = nI (2 ^ (i + 8))
    rw [yOf_n i hi, shl8_n h2, Nat.pow_add]
  · show yOf (nI i) <<< ((16 : Int32) &&& 31) = nI (2 ^ (i + 16))
    rw [yOf_n i hi, shl16_n h2, Nat.pow_add]
theorem and_role {t x y i : Nat} (h : wOk t x y) (hi : i < 8) : eN t x y &&& (2 ^ i ||| (2 ^ i * 256) ||| (2 ^ i * 65536)) = bRn i (rN t x y i) := by
  obtain ⟨ht, hx, hy, h1, h2, h3⟩ := h
  have a2 : t.testBit i = true → ¬ x = i := fun c e => by rw [e, c] at h2; cases h2
  have a3 : t.testBit i = true → ¬ y = i := fun c e => by rw [e, c] at h3; cases h3
  have a4 : x = i → ¬ y = i := fun e f => h1 (e.trans f.symm)
  apply Nat.eq_of_testBit_eq
  intro j
  have e1 : (2 ^ i * 256 : Nat) = 2 ^ (i + 8) := by rw [Nat.pow_add]
  have e2 : (2 ^ i * 65536 : Nat) = 2 ^ (i + 16) := by rw [Nat.pow_add]
  rw [Nat.testBit_and, eN_bit ht hx hy, Nat.testBit_or, Nat.testBit_or, e1, e2, Nat.testBit_two_pow, Nat.testBit_two_pow, Nat.testBit_two_pow]
  unfold rN
  by_cases c1 : t.testBit i = true
  · have := a2 c1
    have := a3 c1
    rw [if_pos c1, show bRn i 1 = 2 ^ i from rfl, Nat.testBit_two_pow]
    by_cases d1 : i = j
    · subst d1; simp [hi, c1]
    · by_cases d2 : i + 8 = j
      · subst d2
        have f1 : ¬ i + 8 < 8 := by omega
        have f2 : i + 8 < 16 := by omega
        have f3 : ¬ i = x := fun e => a2 c1 e.symm
        simp [f1, f2, f3]
      · by_cases d3 : i + 16 = j
        · subst d3
          have f1 : ¬ i + 16 < 8 := by omega
          have f2 : ¬ i + 16 < 16 := by omega
          have f3 : ¬ i = y := fun e => a3 c1 e.symm
          simp [f1, f2, f3]
        · simp [d1, d2, d3]
  · rw [if_neg c1]
    have c1' : t.testBit i = false := by simpa using c1
    by_cases c2 : x = i
    · have := a4 c2
      rw [if_pos c2, show bRn i 2 = 2 ^ (i + 8) from rfl, Nat.testBit_two_pow]
      by_cases d1 : i = j
      · subst d1; simp [hi, c1']
      · by_cases d2 : i + 8 = j
        · subst d2
          have f1 : ¬ i + 8 < 8 := by omega
          have f2 : i + 8 < 16 := by omega
          simp [f1, f2, c2]
        · by_cases d3 : i + 16 = j
          · subst d3
            have f1 : ¬ i + 16 < 8 := by omega
            have f2 : ¬ i + 16 < 16 := by omega
            have f3 : ¬ i = y := fun e => a4 c2 e.symm
            simp [f1, f2, f3]
          · simp [d1, d2, d3]
    · rw [if_neg c2]
      by_cases c3 : y = i
      · rw [if_pos c3, show bRn i 3 = 2 ^ (i + 16) from rfl, Nat.testBit_two_pow]
        by_cases d1 : i = j
        · subst d1; simp [hi, c1']
        · by_cases d2 : i + 8 = j
          · subst d2
            have f1 : ¬ i + 8 < 8 := by omega
            have f2 : i + 8 < 16 := by omega
            have f3 : ¬ i = x := fun e => c2 e.symm
            simp [f1, f2, f3]
          · by_cases d3 : i + 16 = j
            · subst d3
              have f1 : ¬ i + 16 < 8 := by omega
              have f2 : ¬ i + 16 < 16 := by omega
              simp [f1, f2, c3]
            · simp [d1, d2, d3]
      · rw [if_neg c3, show bRn i 0 = 0 from rfl, Nat.zero_testBit]
        by_cases d1 : i = j
        · subst d1; simp [hi, c1']
        · by_cases d2 : i + 8 = j
          · subst d2
            have f1 : ¬ i + 8 < 8 := by omega
            have f2 : i + 8 < 16 := by omega
            have f3 : ¬ i = x := fun e => c2 e.symm
            simp [f1, f2, f3]
          · by_cases d3 : i + 16 = j
            · subst d3
              have f1 : ¬ i + 16 < 8 := by omega
              have f2 : ¬ i + 16 < 16 := by omega
              have f3 : ¬ i = y := fun e => c3 e.symm
              simp [f1, f2, f3]
            · simp [d1, d2, d3]
