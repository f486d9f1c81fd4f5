/-! what is sure: the answers are the same -/
theorem su_bits (M S A : Int32) (h1 : (M ^^^ (-1)) &&& S = M ^^^ (-1)) (h2 : A &&& M = M) (h3 : 255 &&& M = M) : (S ^^^ (-1)) &&& 255 = (S ^^^ (-1)) &&& A := by
  apply i_ext
  intro i hi
  have e := m1_bit hi
  have k1 := congrArg (fun v : Int32 => v.toBitVec.getLsbD i) h1
  have k2 := congrArg (fun v : Int32 => v.toBitVec.getLsbD i) h2
  have k3 := congrArg (fun v : Int32 => v.toBitVec.getLsbD i) h3
  simp only [Int32.toBitVec_and, Int32.toBitVec_xor, BitVec.getLsbD_and, BitVec.getLsbD_xor, e] at k1 k2 k3 ⊢
  revert k1 k2 k3
  cases M.toBitVec.getLsbD i <;> cases S.toBitVec.getLsbD i <;> cases A.toBitVec.getLsbD i <;> cases (255 : Int32).toBitVec.getLsbD i <;> simp
section Sure2
variable {a : Nat → Int32} {cl o : Nat → Bool} {p W x y s u : Nat}
theorem sho_eq (h : gWell a p W x y s u) (hc : ∀ n, n < 16384 → cl n = true → wN p (bC W 8) n = true) (ho : ∀ n, n < 16384 → o n = (cl n && yAgr (yEnc n) (nI (eN W x y)) (yKd a))) {q : Int32} (hq : yVw a q = true) : xAll (a 2) &&& (yWy (pgF cl 16384) (nI (eN W x y)) (yKn a q) (nCt cl 16384) ^^^ (-1)) = xAll (a 2) &&& ((xSm a o q true 16384 &&& xAll (a 2)) ^^^ (-1)) := by
  rw [sho_step h hc ho hq 16384 (Nat.le_refl _), dm_last, Int32.and_comm]
theorem swi_eq (h : gWell a p W x y s u) (hc : ∀ n, n < 16384 → cl n = true → wN p (bC W 8) n = true) (ho : ∀ n, n < 16384 → o n = (cl n && yAgr (yEnc n) (nI (eN W x y)) (yKd a))) (ht : cl (64 * W + 8 * x + y) = true) {q : Int32} (hq : yVw a q = true) : yWa (pgF cl 16384) (nI (eN W x y)) (yKn a q) (nCt cl 16384) = xAll (a 2) &&& ((xSm a o q false 16384 &&& xAll (a 2)) ^^^ (-1)) := by
  have hf := true_for h hc ho ht hq
  rw [swi_step h hc ho hq 16384 (Nat.le_refl _), dm_last]
  obtain ⟨h2, _, _, _, _, _, _, hp, hw, hW, _⟩ := id h
  obtain ⟨q1, q2, q3, q4⟩ := wtr hw
  have w1 := hw.1
  have k := xSm_in false hf (nI W ^^^ (-1)) (by
    rw [if_neg (by decide), wdT q1, q2]
    apply i_ext
    intro i _
    simp only [Int32.toBitVec_and, BitVec.getLsbD_and, Bool.and_self]) 16384 q1
  refine su_bits (nI W) _ _ k ?_ ?_
  · rw [h2, (allE p hp).1, nI_and, Nat.and_comm, Nat.and_two_pow_sub_one_eq_mod, Nat.mod_eq_of_lt hW]
  · rw [show (255 : Int32) = nI 255 from rfl, nI_and, Nat.and_comm, and255 w1]
end Sure2
