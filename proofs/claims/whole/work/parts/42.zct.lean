/-! how many worlds a deal may have -/
def wB (p c : Nat) : Nat → Nat
  | 0 => 0
  | T + 1 => wB p c T + nCt (fun j => wN p c (64 * T + j)) 64
theorem wB_ct (p c : Nat) : ∀ T, nCt (wN p c) (64 * T) = wB p c T := by
  intro T
  induction T with
  | zero => rfl
  | succ T ih => rw [show 64 * (T + 1) = 64 * T + 64 by omega, nCt_add, ih]; rfl
theorem wB_41 : wB 4 1 256 ≤ 1120 := by decide +kernel
theorem wB_51 : wB 5 1 256 ≤ 1120 := by decide +kernel
theorem wB_52 : wB 5 2 256 ≤ 1120 := by decide +kernel
theorem wB_61 : wB 6 1 256 ≤ 1120 := by decide +kernel
theorem wB_62 : wB 6 2 256 ≤ 1120 := by decide +kernel
theorem wB_71 : wB 7 1 256 ≤ 1120 := by decide +kernel
theorem wB_72 : wB 7 2 256 ≤ 1120 := by decide +kernel
theorem wB_73 : wB 7 3 256 ≤ 1120 := by decide +kernel
theorem wB_81 : wB 8 1 256 ≤ 1120 := by decide +kernel
theorem wB_82 : wB 8 2 256 ≤ 1120 := by decide +kernel
theorem wB_83 : wB 8 3 256 ≤ 1120 := by decide +kernel
theorem nW_ct {p c : Nat} (h1 : 4 ≤ p) (hp : p ≤ 8) (h2 : 1 ≤ c) (h3 : 2 * c < p) : nCt (nW (nI p) (nI c)) 16384 ≤ 1120 := by
  rw [nCt_cong 16384 (fun n hn => nW_n (by omega) hp (by omega) hn), show 16384 = 64 * 256 by decide, wB_ct]
  have : (p = 4 ∧ c = 1) ∨ (p = 5 ∧ c = 1) ∨ (p = 5 ∧ c = 2) ∨ (p = 6 ∧ c = 1) ∨ (p = 6 ∧ c = 2) ∨ (p = 7 ∧ c = 1) ∨ (p = 7 ∧ c = 2) ∨ (p = 7 ∧ c = 3) ∨ (p = 8 ∧ c = 1) ∨ (p = 8 ∧ c = 2) ∨ (p = 8 ∧ c = 3) := by omega
  rcases this with h | h | h | h | h | h | h | h | h | h | h <;> obtain ⟨rfl, rfl⟩ := h
  · exact wB_41
  · exact wB_51
  · exact wB_52
  · exact wB_61
  · exact wB_62
  · exact wB_71
  · exact wB_72
  · exact wB_73
  · exact wB_81
  · exact wB_82
  · exact wB_83
