/-! a world that a player holds possible: both sides -/
theorem rbn {k : Nat} (h : k < 256) : ∃ m, m < 2 ^ 24 ∧ yRb (nI k) = nI m := ⟨_, lt24 h, yRb_n h⟩
theorem gWell.kd {a : Nat → Int32} {p W x y s u : Nat} (h : gWell a p W x y s u) : yKd a = yRb (nI ((2 ^ p - 1) ^^^ ((2 ^ p - 1) &&& s))) ∧ s < 256 := by
  obtain ⟨h2, _, _, _, h6, _, _, hp, _, _, _, _, _, _, hs, _⟩ := h
  obtain ⟨_, _, h9⟩ := allE p hp
  have hs2 : s < 256 := by omega
  refine ⟨?_, hs2⟩
  unfold yKd
  rw [h2, h6, dead_n hp hs2]
theorem and255 {t : Nat} (h : t < 256) : t &&& 255 = t := by
  rw [show (255 : Nat) = 2 ^ 8 - 1 by decide, Nat.and_two_pow_sub_one_eq_mod]
  exact Nat.mod_eq_of_lt h
theorem xFor_n {a : Nat → Int32} {cl o : Nat → Bool} {p W x y s u : Nat} (h : gWell a p W x y s u) (hc : ∀ n, n < 16384 → cl n = true → wN p (bC W 8) n = true) (ho : ∀ n, n < 16384 → o n = (cl n && yAgr (yEnc n) (nI (eN W x y)) (yKd a))) {q : Int32} (hq : yVw a q = true) {n : Nat} (hn : n < 16384) : xFor a o q n = (cl n && yAgr (yEnc n) (nI (eN W x y)) (yKn a q)) := by
  obtain ⟨kd, hs⟩ := h.kd
  have tr := h.tr.1
  obtain ⟨h2, h3, h4, _, _, h7, _, hp, hw, hW, _, _, _, _, _, hu⟩ := h
  cases hcl : cl n with
  | false =>
    have : o n = false := by rw [ho n hn, hcl]; rfl
    unfold xFor
    rw [if_pos this]; rfl
  | true =>
    rw [Bool.true_and]
    have hon : o n = yAgr (yEnc n) (nI (eN W x y)) (yKd a) := by rw [ho n hn, hcl, Bool.true_and]
    have hk := (wN_ok hn (hc n hn hcl)).1
    by_cases c : q = -1
    · unfold xFor yKn
      rw [if_pos c, if_pos c, ← hon]
      cases o n <;> rfl
    · have hpl : yPl a q = true := by
        unfold yVw at hq
        rw [decide_eq_false c, Bool.false_or] at hq
        exact hq
      obtain ⟨j, hj, rfl⟩ := yPl_in h2 hp hpl
      have hj8 : j < 8 := by omega
      obtain ⟨k1, l1, e1⟩ := rbn (dead_lt (p := p) (s := s) hp)
      obtain ⟨k2, l2, e2⟩ := rbn (p2_8 j hj8)
      have hE := eN_lt hk.1 hk.2.1 hk.2.2.1
      have hT := eN_lt hw.1 hw.2.1 hw.2.2.1
      have hR := rb_of hj8 hk hw
      obtain ⟨q1, q2, q3, q4⟩ := wtr hw
      have rT : xRole (xTr a) (nI j) = nI (rN W x y j) := by rw [tr, xRole_n q1 hj8, q2, q3, q4]
      have r1 := rN_lt W x y j
      have r2 := rN_lt (n / 64) (n / 8 % 8) (n % 8) j
      have hb : ∀ k : Nat, k < 256 → yAgr (nI (eN (n / 64) (n / 8 % 8) (n % 8))) (nI (eN W x y)) (nI k) = decide (n / 64 &&& k = W &&& k) := fun k hk9 => by
        apply Bool.eq_iff_iff.mpr
        rw [agr_lo hk.1 hk.2.1 hk.2.2.1 hw.1 hw.2.1 hw.2.2.1 hk9, decide_eq_true_iff]
      have o2 : yAgr (yEnc n) (nI (eN W x y)) (yKd a ||| yRb (yOf (nI j))) = (o n && decide (rN (n / 64) (n / 8 % 8) (n % 8) j = rN W x y j)) := by
        rw [← hR, hon, kd, yOf_n j hj8, e1, e2, yEnc_n, agr_or hE hT l1 l2]
      have o3 : ∀ k : Nat, k < 256 → yAgr (yEnc n) (nI (eN W x y)) ((yKd a ||| yRb (yOf (nI j))) ||| nI k) = ((o n && decide (rN (n / 64) (n / 8 % 8) (n % 8) j = rN W x y j)) && decide (n / 64 &&& k = W &&& k)) := fun k hk9 => by
        rw [← o2, ← hb k hk9, kd, yOf_n j hj8, e1, e2, yEnc_n, nI_or, agr_or hE hT (Nat.or_lt_two_pow l1 l2) (by omega)]
      have t1 : (nI n / 64 = a 3) = (n / 64 = W) := by rw [wdT hn, h3]; exact propext (nI_eq (by omega) (by have := hw.1; omega))
      have t2 : ((nI n / 64) &&& a 7 = a 3 &&& a 7) = (n / 64 &&& u = W &&& u) := by
        rw [wdT hn, h3, h7, nI_and, nI_and]
        have := hw.1
        exact propext (nI_eq (Nat.lt_of_le_of_lt Nat.and_le_left (by omega)) (Nat.lt_of_le_of_lt Nat.and_le_left (by omega)))
      have t3 : decide (xRole (nI n) (nI j) = nI (rN W x y j)) = decide (rN (n / 64) (n / 8 % 8) (n % 8) j = rN W x y j) := by rw [xRole_n hn hj8, nI_dec (by omega) (by omega)]
      have s1 : (nI (rN W x y j) = 1) = (rN W x y j = 1) := propext (nI_eq (b := 1) (by omega) (by decide))
      have s2 : (nI (rN W x y j) = 2) = (rN W x y j = 2) := propext (nI_eq (b := 2) (by omega) (by decide))
      have y1 : yIn (a 3) (nI j) = W.testBit j := by rw [h3]; exact yIn_n (by have := hw.1; omega) hj8
      have y2 : (nI j = a 4) = (x = j) := by rw [h4]; exact propext ⟨fun e => (nI_inj (by omega) (by have := hw.2.1; omega) e).symm, fun e => by rw [e]⟩
      unfold xFor yKn
      rw [if_neg c, if_neg c, y1, rT, t3]
      simp only [t1, t2, s1, s2, y2]
      cases hoo : o n with
      | false =>
        rw [if_pos rfl]
        split
        · rw [show (255 : Int32) = nI 255 from rfl, o3 255 (by decide), hoo]; rfl
        · split
          · rw [h7, o3 u hu, hoo]; rfl
          · rw [o2, hoo]; rfl
      | true =>
        rw [if_neg (by decide)]
        have w1 := hw.1
        have rd : rN W x y j = if W.testBit j = true then 1 else if x = j then 2 else if y = j then 3 else 0 := rfl
        cases hwj : W.testBit j with
        | true =>
          rw [if_pos hwj] at rd
          rw [if_pos rfl, show (255 : Int32) = nI 255 from rfl, o3 255 (by decide), hoo, and255 hk.1, and255 w1, rd]
          simp
        | false =>
          rw [if_neg (by rw [hwj]; decide)] at rd
          rw [if_neg (by decide)]
          by_cases hxj : x = j
          · rw [if_pos hxj] at rd
            rw [if_pos hxj, h7, o3 u hu, hoo, rd]
            simp
          · rw [if_neg hxj] at rd
            rw [if_neg hxj, o2, hoo, rd]
            split <;> simp
