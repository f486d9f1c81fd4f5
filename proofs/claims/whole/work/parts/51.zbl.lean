/-! bestLook's choice: both sides -/
theorem mx_eq (x z : Int32) : (if x ≤ z then z else x) = yMx x z := by
  unfold yMx
  by_cases h : x < z
  · rw [if_pos h, if_pos (Int32.le_of_lt h)]
  · rw [if_neg h]
    by_cases h2 : x ≤ z
    · rw [if_pos h2]
      exact Int32.le_antisymm (Int32.not_lt.mp h) h2
    · rw [if_neg h2]
theorem mx_lt {c A : Nat} (h : c ≤ A) (hA : A < 2 ^ 30) : ¬ nI A + 1 ≤ yMx (nI c) (nI A - nI c) := by
  rw [pk_sub h, nI_1]
  unfold yMx
  split
  · exact nI_ge (by omega) (by omega)
  · exact nI_ge (by omega) (by omega)
theorem be_eq {a : Nat → Int32} {f : Nat → Int32} {s A : Nat} (h6 : a 6 = nI s) (hs : s < 2 ^ 31) (hA : A < 2 ^ 30) (hf : ∀ n, n < 8 → ∃ c, c ≤ A ∧ f n = nI c) : ∀ n, n ≤ 8 → (yBe a f (nI A) n).1 = (xBl a f (nI A) n).1 ∧ ((xBl a f (nI A) n).1 = -1 → (yBe a f (nI A) n).2 = nI A + 1) ∧ (¬ (xBl a f (nI A) n).1 = -1 → (yBe a f (nI A) n).2 = (xBl a f (nI A) n).2) := by
  intro n
  induction n with
  | zero =>
    intro _
    exact ⟨rfl, fun _ => rfl, fun h => absurd rfl h⟩
  | succ n ih =>
    intro hn
    obtain ⟨i1, i2, i3⟩ := ih (by omega)
    obtain ⟨c, hc, ec⟩ := hf n (by omega)
    have hh : yIn (a 6) (nI n) = xHas (a 6) (nI n) := by rw [h6]; exact yIn_x hs (by omega)
    unfold yBe xBl
    rw [hh]
    simp only [mx_eq]
    split
    · exact ⟨i1, i2, i3⟩
    · split
      · exact ⟨i1, i2, i3⟩
      · have nn : ¬ nI n = -1 := fun h => absurd (by rw [h]; decide) (nI_pos (n := n) (by omega))
        by_cases e : (xBl a f (nI A) n).1 = -1
        · rw [if_pos e, i2 e, if_neg (by rw [ec]; exact mx_lt hc hA)]
          exact ⟨rfl, fun h => absurd h nn, fun _ => rfl⟩
        · rw [if_neg e, i3 e]
          split
          · exact ⟨i1, i2, i3⟩
          · exact ⟨rfl, fun h => absurd h nn, fun _ => rfl⟩
