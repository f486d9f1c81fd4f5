/-! what is sure: both sides, bit by bit -/
theorem i_ext {x y : Int32} (h : ∀ i, i < 32 → x.toBitVec.getLsbD i = y.toBitVec.getLsbD i) : x = y := Int32.toBitVec_inj.mp (BitVec.eq_of_getLsbD_eq h)
theorem m1_bit {i : Nat} (h : i < 32) : (-1 : Int32).toBitVec.getLsbD i = true := by
  have k : ∀ j : Fin 32, (-1 : Int32).toBitVec.getLsbD j.val = true := by decide +kernel
  exact k ⟨i, h⟩
theorem dm_step (z t m : Int32) : ((z ||| (t ^^^ (-1))) ^^^ (-1)) &&& m = ((z ^^^ (-1)) &&& m) &&& (t &&& m) := by
  apply i_ext
  intro i hi
  have := m1_bit hi
  simp only [Int32.toBitVec_and, Int32.toBitVec_or, Int32.toBitVec_xor, BitVec.getLsbD_and, BitVec.getLsbD_or, BitVec.getLsbD_xor, this]
  cases z.toBitVec.getLsbD i <;> cases t.toBitVec.getLsbD i <;> cases m.toBitVec.getLsbD i <;> rfl
theorem dm_last (z m : Int32) : m &&& ((z &&& m) ^^^ (-1)) = (z ^^^ (-1)) &&& m := by
  apply i_ext
  intro i hi
  have := m1_bit hi
  simp only [Int32.toBitVec_and, Int32.toBitVec_or, Int32.toBitVec_xor, BitVec.getLsbD_and, BitVec.getLsbD_or, BitVec.getLsbD_xor, this]
  cases z.toBitVec.getLsbD i <;> cases m.toBitVec.getLsbD i <;> rfl
theorem enc_255 {n : Nat} (hn : n < 16384) : yEnc n &&& 255 = nI n / 64 := by
  rw [yEnc_n, wdT hn, show (255 : Int32) = nI 255 from rfl, and_lo (by omega) (by omega) (by omega) (by decide), nI_and, and255 (by omega)]
section Sure
variable {a : Nat → Int32} {cl o : Nat → Bool} {p W x y s u : Nat}
theorem sho_step (h : gWell a p W x y s u) (hc : ∀ n, n < 16384 → cl n = true → wN p (bC W 8) n = true) (ho : ∀ n, n < 16384 → o n = (cl n && yAgr (yEnc n) (nI (eN W x y)) (yKd a))) {q : Int32} (hq : yVw a q = true) : ∀ n, n ≤ 16384 → yWy (pgF cl 16384) (nI (eN W x y)) (yKn a q) (nCt cl n) = xSm a o q true n := by
  intro n hn
  rw [yWy_fo, wFo_pg _ _ cl 16384 n hn]
  induction n with
  | zero => rfl
  | succ n ih =>
    have h1 := ih (by omega)
    have hf := xFor_n h hc ho hq (show n < 16384 by omega)
    unfold wFw xSm
    rw [h1, hf, enc_255 (by omega)]
    cases cl n <;> cases yAgr (yEnc n) (nI (eN W x y)) (yKn a q) <;> simp
theorem swi_step (h : gWell a p W x y s u) (hc : ∀ n, n < 16384 → cl n = true → wN p (bC W 8) n = true) (ho : ∀ n, n < 16384 → o n = (cl n && yAgr (yEnc n) (nI (eN W x y)) (yKd a))) {q : Int32} (hq : yVw a q = true) : ∀ n, n ≤ 16384 → yWa (pgF cl 16384) (nI (eN W x y)) (yKn a q) (nCt cl n) = (xSm a o q false n ^^^ (-1)) &&& 255 := by
  intro n hn
  rw [yWa_fo, wFo_pg _ _ cl 16384 n hn]
  induction n with
  | zero =>
    show (255 : Int32) = ((0 : Int32) ^^^ (-1)) &&& 255
    decide
  | succ n ih =>
    have h1 := ih (by omega)
    have hf := xFor_n h hc ho hq (show n < 16384 by omega)
    have e : (nI n / 64) &&& 255 = nI n / 64 := by
      rw [wdT (by omega), show (255 : Int32) = nI 255 from rfl, nI_and, and255 (by omega)]
    have e2 := dm_step (xSm a o q false n) (nI n / 64) 255
    rw [e] at e2
    unfold wFw xSm
    rw [h1, hf, enc_255 (by omega)]
    cases cl n with
    | false => rfl
    | true =>
      cases yAgr (yEnc n) (nI (eN W x y)) (yKn a q) with
      | false => rfl
      | true => exact e2.symm
/-- the true world is always held possible -/
theorem true_for (h : gWell a p W x y s u) (hc : ∀ n, n < 16384 → cl n = true → wN p (bC W 8) n = true) (ho : ∀ n, n < 16384 → o n = (cl n && yAgr (yEnc n) (nI (eN W x y)) (yKd a))) (ht : cl (64 * W + 8 * x + y) = true) {q : Int32} (hq : yVw a q = true) : xFor a o q (64 * W + 8 * x + y) = true := by
  obtain ⟨_, _, _, _, _, _, _, _, hw, _⟩ := id h
  obtain ⟨q1, q2, q3, q4⟩ := wtr hw
  rw [xFor_n h hc ho hq q1, ht, yEnc_n, q2, q3, q4]
  unfold yAgr
  simp
theorem xSm_in {q : Int32} (b : Bool) {m : Nat} (hm : xFor a o q m = true) (z : Int32) (hz : z &&& (if b = true then nI m / 64 else (nI m / 64) ^^^ (-1)) = z) : ∀ n, m < n → z &&& xSm a o q b n = z := by
  intro n
  induction n with
  | zero => intro h9; exact absurd h9 (Nat.not_lt_zero _)
  | succ n ih =>
    intro h9
    have k : ∀ A B : Int32, z &&& A = z → z &&& (A ||| B) = z := fun A B h1 => by
      apply i_ext
      intro i _
      have h2 := congrArg (fun v : Int32 => v.toBitVec.getLsbD i) h1
      simp only [Int32.toBitVec_and, Int32.toBitVec_or, BitVec.getLsbD_and, BitVec.getLsbD_or] at h2 ⊢
      revert h2
      cases z.toBitVec.getLsbD i <;> cases A.toBitVec.getLsbD i <;> cases B.toBitVec.getLsbD i <;> simp
    have k2 : ∀ A B : Int32, z &&& B = z → z &&& (A ||| B) = z := fun A B h1 => by rw [Int32.or_comm]; exact k B A h1
    unfold xSm
    by_cases e : m = n
    · subst e
      rw [if_pos hm]
      exact k2 _ _ hz
    · have h1 := ih (by omega)
      split
      · exact k _ _ h1
      · exact h1
end Sure
