/-! suspect and bestLook: both sides -/
theorem yIn_x {t q : Nat} (ht : t < 2 ^ 31) (hq : q < 8) : yIn (nI t) (nI q) = xHas (nI t) (nI q) := (has_in ht hq).symm
/-- the choice by most, where counts are not below zero, and a count is above zero as soon as the choice holds one -/
theorem xSus_cong {a : Nat → Int32} {f g : Nat → Int32} {q : Int32} : ∀ n, n ≤ 8 → (∀ j, j < n → f j = g j) → xSus a f q n = xSus a g q n := by
  intro n
  induction n with
  | zero => intro _ _; rfl
  | succ n ih =>
    intro hn h
    have h1 := ih (by omega) (fun j hj => h j (by omega))
    have h2 := h n (by omega)
    unfold xSus
    rw [h1]
    by_cases c : xSus a g q n = -1
    · simp only [c, if_true]
    · obtain ⟨j, hj, e⟩ := xSus_in a g q n c
      have e2 : (xSus a g q n).toNatClampNeg = j := by rw [e]; exact nI_clamp (by omega)
      rw [e2, h2, h j (by omega)]
theorem nn_m1 {c : Nat} (h : c < 2 ^ 31) : ¬ nI c ≤ -1 := by
  intro h2
  have h3 := nI_pos h
  have h4 : (-1 : Int32) < 0 := by decide
  exact h3 (Int32.lt_of_le_of_lt h2 h4)
theorem su_eq {a : Nat → Int32} {f : Nat → Int32} {q : Int32} {s : Nat} (h6 : a 6 = nI s) (hs : s < 2 ^ 31) (hf : ∀ n, n < 8 → ∃ c, c < 2 ^ 31 ∧ f n = nI c) : ∀ n, n ≤ 8 → (ySu a f q n).1 = xSus a f q n ∧ (xSus a f q n = -1 → (ySu a f q n).2 = -1) ∧ (∀ j, j < 8 → xSus a f q n = nI j → (ySu a f q n).2 = f j) := by
  intro n
  induction n with
  | zero =>
    intro _
    refine ⟨rfl, fun _ => rfl, fun j hj h => ?_⟩
    have : (-1 : Int32) = nI j := h
    exact absurd (by rw [← this]; decide) (nI_pos (n := j) (by omega))
  | succ n ih =>
    intro hn
    obtain ⟨i1, i2, i3⟩ := ih (by omega)
    obtain ⟨c, hc, ec⟩ := hf n (by omega)
    have hh : yIn (a 6) (nI n) = xHas (a 6) (nI n) := by rw [h6]; exact yIn_x hs (by omega)
    unfold ySu xSus
    rw [hh]
    split
    · exact ⟨i1, i2, i3⟩
    · split
      · exact ⟨i1, i2, i3⟩
      · have new : ∀ z : Int32 × Int32, z = (nI n, f n) → z.1 = nI n ∧ (nI n = -1 → z.2 = -1) ∧ (∀ j, j < 8 → nI n = nI j → z.2 = f j) := fun z hz => by
          subst hz
          refine ⟨rfl, fun h => absurd (by rw [h]; decide) (nI_pos (n := n) (by omega)), fun j hj h => ?_⟩
          have := nI_inj (by omega) (by omega) h
          subst this; rfl
        by_cases e : xSus a f q n = -1
        · rw [if_pos e, i2 e, if_neg (by rw [ec]; exact nn_m1 hc)]
          exact new _ rfl
        · rw [if_neg e]
          obtain ⟨j, hj, ej⟩ := xSus_in a f q n e
          rw [i3 j (by omega) ej, ej, nI_clamp (by omega)]
          split
          · rw [← ej]; exact ⟨i1, i2, i3⟩
          · exact new _ rfl
