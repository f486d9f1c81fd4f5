/-! the answers about worlds, on both sides -/
theorem bRn_inj {i r s : Nat} (hi : i < 8) (hr : r < 4) (hs : s < 4) (h : bRn i r = bRn i s) : r = s := by
  have k : ∀ a : Fin 8, ∀ b : Fin 4, ∀ c : Fin 4, bRn a.val b.val = bRn a.val c.val → b.val = c.val := by decide +kernel
  exact k ⟨i, hi⟩ ⟨r, hr⟩ ⟨s, hs⟩ h
theorem bRn_lt {i r : Nat} (hi : i < 8) (hr : r < 4) : bRn i r < 2 ^ 24 := by
  have k : ∀ a : Fin 8, ∀ b : Fin 4, bRn a.val b.val < 2 ^ 24 := by decide +kernel
  exact k ⟨i, hi⟩ ⟨r, hr⟩
theorem role_dec {n i r : Nat} (hn : n < 16384) (hw : wOk (n / 64) (n / 8 % 8) (n % 8)) (hi : i < 8) (hr : r < 4) : decide (yEnc n &&& yRb (yOf (nI i)) = yBr (nI i) (nI r)) = decide (xRole (nI n) (nI i) = nI r) := by
  have r1 := rN_lt (n / 64) (n / 8 % 8) (n % 8) i
  have b1 := bRn_lt hi r1
  have b2 := bRn_lt hi hr
  rw [yOf_n i hi, yEnc_n, and_rb (p2_8 i hi), and_role hw hi, yBr_n hi hr, xRole_n hn hi, nI_dec (by omega) (by omega), nI_dec (by omega) (by omega)]
  exact decide_eq_decide.mpr ⟨fun h => bRn_inj hi r1 hr h, fun h => by rw [h]⟩
theorem xFor_o {a : Nat → Int32} {o : Nat → Bool} {q : Int32} {n : Nat} (h : xFor a o q n = true) : o n = true := by
  cases hc : o n with
  | true => rfl
  | false =>
    unfold xFor at h
    rw [if_pos hc] at h
    cases h
section Agree
variable {a : Nat → Int32} {cl o : Nat → Bool} {p W x y s u : Nat}
theorem wor_eq (h : gWell a p W x y s u) (hc : ∀ n, n < 16384 → cl n = true → wN p (bC W 8) n = true) (ho : ∀ n, n < 16384 → o n = (cl n && yAgr (yEnc n) (nI (eN W x y)) (yKd a))) {q : Int32} (hq : yVw a q = true) : xCnt (pAg (pgF cl 16384) (nI (eN W x y)) (yKn a q)) (nCt cl 16384) = xCnt (xFor a o q) 16384 := by
  refine (xCnt_pg cl (fun e => yAgr e (nI (eN W x y)) (yKn a q)) 16384 16384 (Nat.le_refl _)).trans ?_
  exact xCnt_cong 16384 (fun n hn => (xFor_n h hc ho hq hn).symm)
theorem wwt_eq (h : gWell a p W x y s u) (hc : ∀ n, n < 16384 → cl n = true → wN p (bC W 8) n = true) (ho : ∀ n, n < 16384 → o n = (cl n && yAgr (yEnc n) (nI (eN W x y)) (yKd a))) {q : Int32} (hq : yVw a q = true) {i r : Nat} (hi : i < 8) (hr : r < 4) : xCnt (pRo (pgF cl 16384) (nI (eN W x y)) (yKn a q) (nI i) (nI r)) (nCt cl 16384) = xCnt (xWt a o q (nI i) (nI r)) 16384 := by
  refine (xCnt_pg cl (fun e => decide (e &&& yRb (yOf (nI i)) = yBr (nI i) (nI r)) && yAgr e (nI (eN W x y)) (yKn a q)) 16384 16384 (Nat.le_refl _)).trans ?_
  refine xCnt_cong 16384 (fun n hn => ?_)
  have hf := xFor_n h hc ho hq hn
  unfold xWt
  cases hx : xFor a o q n with
  | false =>
    rw [hx] at hf
    rw [Bool.and_false]
    show (cl n && (_ && yAgr (yEnc n) (nI (eN W x y)) (yKn a q))) = false
    cases hcl : cl n with
    | false => rfl
    | true =>
      rw [hcl, Bool.true_and] at hf
      rw [← hf, Bool.and_false, Bool.and_false]
  | true =>
    rw [hx] at hf
    have hcl : cl n = true := by
      cases hcl : cl n with
      | true => rfl
      | false => rw [hcl, Bool.false_and] at hf; cases hf
    rw [hcl, Bool.true_and] at hf
    show (cl n && (decide (yEnc n &&& yRb (yOf (nI i)) = yBr (nI i) (nI r)) && yAgr (yEnc n) (nI (eN W x y)) (yKn a q))) = _
    rw [hcl, ← hf, xFor_o hx, role_dec hn (wN_ok hn (hc n hn hcl)).1 hi hr]
    simp
/-- where the book has a page for this world -/
theorem yHs_pg {wd : Nat} (hw : wd < 16384) : ∀ n, n ≤ 16384 → yHs (pgF cl 16384) (yEnc wd) (nCt cl n) = (decide (wd < n) && cl wd) := by
  intro n
  induction n with
  | zero => intro _; simp [nCt, yHs]
  | succ n ih =>
    intro hn
    have h1 := ih (by omega)
    cases hc : cl n with
    | false =>
      have e : nCt cl (n + 1) = nCt cl n := by simp [nCt, hc]
      rw [e, h1]
      by_cases e2 : wd = n
      · subst e2; rw [hc, Bool.and_false, Bool.and_false]
      · rw [show decide (wd < n + 1) = decide (wd < n) from decide_eq_decide.mpr (by omega)]
    | true =>
      have e : nCt cl (n + 1) = nCt cl n + 1 := by simp [nCt, hc]
      rw [e]
      show (yHs (pgF cl 16384) (yEnc wd) (nCt cl n) || decide (pgF cl 16384 (nCt cl n) = yEnc wd)) = _
      rw [h1, pgF_at cl 16384 n (by omega) hc]
      by_cases e2 : wd = n
      · subst e2; rw [hc]; simp
      · have e3 : ¬ yEnc n = yEnc wd := fun e4 => e2 (yEnc_inj (by omega) hw e4).symm
        rw [decide_eq_false e3, Bool.or_false, show decide (wd < n + 1) = decide (wd < n) from decide_eq_decide.mpr (by omega)]
end Agree
