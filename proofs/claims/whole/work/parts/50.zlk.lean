/-! suspect and bestLook: both sides -/
theorem yIn_x {t q : Nat} (ht : t < 2 ^ 31) (hq : q < 8) : yIn (nI t) (nI q) = xHas (nI t) (nI q) := (has_in ht hq).symm
/-- the choice by most, where counts are not below zero, and a count is above zero as soon as the choice holds one -/
theorem xSus_cong {a : Nat → Int32} {f g : Nat → Int32} {q : Int32} : ∀ n, n ≤ 8 → (∀ j, j < n → f j = g j) → xSus a f q n = xSus a g q n := by
  intro n
  induction n with
  | zero => intro _ _; rfl
  | succ n ih =>
    intro hn h
    have h1 := ih (by omega) (fun j hj => h j (by omega))
    have h2 := h n (by omega)
    unfold xSus
    rw [h1]
    by_cases c : xSus a g q n = -1
    · simp only [c, if_true]
    · obtain ⟨j, hj, e⟩ := xSus_in a g q n c
      have e2 : (xSus a g q n).toNatClampNeg = j := by rw [e]; exact nI_clamp (by omega)
      rw [e2, h2, h j (by omega)]
