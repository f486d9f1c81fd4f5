/-! what is refused: the same codes on both sides -/
section Codes
variable {a : Nat → Int32} {p W x y s u : Nat}
theorem gWell.p1 (h : gWell a p W x y s u) : 1 ≤ p := by
  have := h.2.2.2.2.2.2.1
  omega
theorem gWell.pl (h : gWell a p W x y s u) (q : Int32) : xPl a q = yPl a q := xPl_n h.1 h.2.2.2.2.2.2.2.1 h.p1 q
theorem gWell.vw (h : gWell a p W x y s u) (q : Int32) : xVw a q = yVw a q := xVw_n h.1 h.2.2.2.2.2.2.2.1 h.p1 q
theorem gWell.plj (h : gWell a p W x y s u) {q : Int32} (hq : yPl a q = true) : ∃ j, j < p ∧ j < 8 ∧ q = nI j := by
  have hp := h.2.2.2.2.2.2.2.1
  obtain ⟨j, hj, e⟩ := yPl_in h.1 hp hq
  exact ⟨j, hj, by omega, e⟩
theorem gWell.in6 (h : gWell a p W x y s u) {j : Nat} (hj : j < 8) : xHas (a 6) (nI j) = yIn (a 6) (nI j) := by
  have hs := h.kd.2
  rw [h.2.2.2.2.1]
  exact has_in (by omega) hj
theorem gWell.in3 (h : gWell a p W x y s u) {j : Nat} (hj : j < 8) : xHas (a 3) (nI j) = yIn (a 3) (nI j) := by
  have hw := h.2.2.2.2.2.2.2.2.1.1
  rw [h.2.1]
  exact has_in (by omega) hj
theorem gWell.in65 (h : gWell a p W x y s u) : xHas (a 6) (a 5) = yIn (a 6) (a 5) := by
  rw [h.2.2.2.1]
  exact h.in6 h.2.2.2.2.2.2.2.2.1.2.2.1
theorem gWell.in64 (h : gWell a p W x y s u) : xHas (a 6) (a 4) = yIn (a 6) (a 4) := by
  rw [h.2.2.1]
  exact h.in6 h.2.2.2.2.2.2.2.2.1.2.1
/-- kinds: 0 to 3 -/
theorem x03 (k : Int32) : xIn k 0 3 = (!decide (k < 0) && decide (k ≤ 3)) := by
  unfold xIn
  by_cases c : k ≤ 3
  · rw [decide_eq_true c, decide_eq_false (Int32.not_lt.mpr c)]; rfl
  · rw [decide_eq_false c, decide_eq_true (Int32.not_le.mp c)]; rfl
theorem k03_of {k : Int32} (h1 : ¬ k < 0) (h2 : k ≤ 3) : ∃ j, j < 4 ∧ k = nI j := by
  obtain ⟨j, hj, rfl⟩ := nI_of h1
  have := (nI_leI (b := 3) hj (by decide)).mp h2
  exact ⟨j, by omega, rfl⟩
theorem kVo_eq (h : gWell a p W x y s u) (q r : Int32) : kVo a q r = kYv a q r := by
  unfold kVo kYv
  by_cases c0 : a 0 = 1
  · rw [if_neg (fun h9 => h9 c0), if_pos c0, h.pl q, h.pl r]
    cases c1 : yPl a q with
    | false => rfl
    | true =>
      cases c2 : yPl a r with
      | false => rfl
      | true =>
        obtain ⟨i, _, hi, rfl⟩ := h.plj c1
        obtain ⟨j, _, hj, rfl⟩ := h.plj c2
        rw [h.in6 hi, h.in6 hj]
  · rw [if_pos c0, if_neg c0]
theorem kPr_eq (h : gWell a p W x y s u) (q : Int32) : kPr a q = kYp a q := by
  unfold kPr kYp
  by_cases c0 : a 0 = 2
  · rw [if_neg (fun h9 => h9 c0), if_pos c0, h.pl q, h.in65]
    cases c1 : yPl a q with
    | false => rfl
    | true =>
      obtain ⟨i, _, hi, rfl⟩ := h.plj c1
      rw [h.in6 hi]
  · rw [if_pos c0, if_neg c0]
theorem kAt_eq (h : gWell a p W x y s u) (q : Int32) : kAt a q = kYt a q := by
  unfold kAt kYt
  by_cases c0 : a 0 = 2
  · rw [if_neg (fun h9 => h9 c0), if_pos c0, h.pl q]
    cases c1 : yPl a q with
    | false => rfl
    | true =>
      obtain ⟨i, _, hi, rfl⟩ := h.plj c1
      rw [h.in6 hi, h.in3 hi]
  · rw [if_pos c0, if_neg c0]
theorem kLo_eq (h : gWell a p W x y s u) (q : Int32) : kLo a q = kYl a q := by
  unfold kLo kYl
  by_cases c0 : a 0 = 2
  · rw [if_neg (fun h9 => h9 c0), if_pos c0, h.pl q, h.in64]
    cases c1 : yPl a q with
    | false => rfl
    | true =>
      obtain ⟨i, _, hi, rfl⟩ := h.plj c1
      rw [h.in6 hi]
  · rw [if_pos c0, if_neg c0]
theorem tf_02 (b : Bool) : (if b = true then (0 : Int32) else 2) = (if b = false then 2 else 0) := by cases b <;> rfl
theorem kAs_eq (h : gWell a p W x y s u) (q : Int32) : kAs a q = kYw a q := by
  unfold kAs kYw
  rw [h.vw q, tf_02]
theorem kVf_eq (h : gWell a p W x y s u) (q : Int32) : kVf a q = kYo a q := by
  unfold kVf kYo
  rw [h.pl q, tf_02]
theorem kWw_eq (h : gWell a p W x y s u) (q r k : Int32) : kWw a q r k = kYx a q r k := by
  unfold kWw kYx
  rw [h.vw q, h.pl r, x03]
  by_cases c1 : k < 0
  · rw [decide_eq_true c1, if_pos c1]; rfl
  · rw [decide_eq_false c1, if_neg c1]
    by_cases c2 : k ≤ 3
    · rw [decide_eq_true c2, if_pos c2]; rfl
    · rw [decide_eq_false c2, if_neg c2]; rfl
theorem kPo_eq (h : gWell a p W x y s u) (q r t : Int32) : kPo a q r t = kYi a q r t := by
  unfold kPo kYi
  rw [h.vw q, h.pl r, h.pl t, tf_02]
theorem may_eq (h : gWell a p W x y s u) {i j k : Nat} (hj : j < 8) (hi : i < 8) (hk : k < 4) : xMay a (nI j) (xTrue (xTr a) (nI k) (nI i)) = yMay a (nI (eN W x y)) (nI j) (yCb (nI k) (nI i)) (!decide (nI k = 1)) := by
  have hw := h.2.2.2.2.2.2.2.2.1
  obtain ⟨q1, q2, q3, q4⟩ := wtr hw
  have hw2 : wOk ((64 * W + 8 * x + y) / 64) ((64 * W + 8 * x + y) / 8 % 8) ((64 * W + 8 * x + y) % 8) := by rw [q2, q3, q4]; exact hw
  unfold xMay yMay
  rw [yAg_n hw.1 hw.2.1 hw.2.2.1 hk hi hj, h.tr.1, xTrue_n q1 hw2 hk hi, q2, q3, q4, h.in6 hj, h.in3 hj, h.2.1, yIn_n (by have := hw.1; omega) hj, Bool.or_comm]
theorem kCl_eq (h : gWell a p W x y s u) (q k r : Int32) : kCl a q k r = kYc a (nI (eN W x y)) q k r := by
  unfold kCl kYc
  rw [h.pl q, h.pl r, x03]
  cases c1 : yPl a q with
  | false => rfl
  | true =>
    cases c2 : yPl a r with
    | false => rfl
    | true =>
      by_cases d1 : k < 0
      · rw [decide_eq_true d1, if_pos d1]; rfl
      · rw [decide_eq_false d1, if_neg d1]
        by_cases d2 : k ≤ 3
        · obtain ⟨j, _, hj, rfl⟩ := h.plj c1
          obtain ⟨i, _, hi, rfl⟩ := h.plj c2
          obtain ⟨k9, hk, rfl⟩ := k03_of d1 d2
          rw [decide_eq_true d2, if_pos d2, may_eq h hj hi hk]; rfl
        · rw [decide_eq_false d2, if_neg d2]; rfl
theorem mya_eq (h : gWell a p W x y s u) {S j : Nat} (hj : j < 8) (hS : S < 256) : xMay a (nI j) (!decide (a 3 &&& nI S = 0)) = yMay a (nI (eN W x y)) (nI j) (nI S) true := by
  have hw := h.2.2.2.2.2.2.2.2.1
  unfold xMay yMay
  rw [yAm_n hw.1 hw.2.1 hw.2.2.1 hS hj, h.in6 hj, h.in3 hj, h.2.1, yIn_n (by have := hw.1; omega) hj, Bool.or_comm]
theorem kAm_eq (h : gWell a p W x y s u) (q st : Int32) : kAm a q st = kYa a (nI (eN W x y)) q st := by
  have hp := h.2.2.2.2.2.2.2.1
  obtain ⟨_, _, a3⟩ := allE p hp
  have e : decide (st &&& (xAll (a 2) ^^^ (-1)) = 0) = xIn st 0 (((1 : Int32) <<< (a 2 &&& 31)) - 1) := by
    rw [h.1]; exact mk_eq hp st
  unfold kAm kYa
  rw [h.pl q, ← e]
  cases c1 : yPl a q with
  | false => rfl
  | true =>
    by_cases c2 : st &&& (xAll (a 2) ^^^ (-1)) = 0
    · rw [decide_eq_true c2, if_pos c2]
      obtain ⟨j, _, hj, rfl⟩ := h.plj c1
      rw [h.1] at c2
      obtain ⟨S, hS, rfl⟩ := mk_of hp c2
      rw [mya_eq h hj (by omega)]; rfl
    · rw [decide_eq_false c2, if_neg c2]; rfl
end Codes
/-! the steps: claims -/
theorem cl_and {a : Nat → Int32} {cl o : Nat → Bool} {p W x y s u : Nat} {X : Int32 → Bool} {F : Nat → Bool} (ho : ∀ n, n < 16384 → o n = (cl n && yAgr (yEnc n) (nI (eN W x y)) (yKd a))) (hX : ∀ n, n < 16384 → cl n = true → F n = X (yEnc n)) : ∀ n, n < 16384 → oUp (fun m => o m && F m) o 16384 n = ((cl n && X (yEnc n)) && yAgr (yEnc n) (nI (eN W x y)) (yKd a)) := by
  intro n hn
  have e : oUp (fun m => o m && F m) o 16384 n = (o n && F n) := if_pos hn
  rw [e, ho n hn]
  cases hc : cl n with
  | false => rfl
  | true =>
    rw [hX n hn hc, Bool.true_and, Bool.true_and, Bool.and_comm]
theorem cl_in {a g v : Nat → Int32} {tr : Int32} {o : Nat → Bool} {cl : Nat → Bool} {p W x y s u : Nat} {X : Int32 → Bool} {F : Nat → Bool} (hw : gWell a p W x y s u) (hc : gCl cl p W x y) (ho : ∀ n, n < 16384 → o n = (cl n && yAgr (yEnc n) (nI (eN W x y)) (yKd a))) (i0 : ¬ a 0 = 0) (i1 : a 0 = 1 → aF a = a) (i2 : a 0 = 2 → iUp vM v 8 = v) (i9 : a 9 = -1 ∨ ∃ j, j < p ∧ a 9 = nI j) (iA : a 10 = -1 ∨ ∃ j, j < p ∧ a 10 = nI j) (hX : ∀ n, n < 16384 → cl n = true → F n = X (yEnc n)) (ht : X (nI (eN W x y)) = true) : gIn a (kcF X (pgF cl 16384) (nCt cl 16384)) (nI (eN W x y)) v (oUp (fun m => o m && F m) o 16384) ∧ xCnt (pAg (kcF X (pgF cl 16384) (nCt cl 16384)) (nI (eN W x y)) (yKn a (-1))) (nCt (kcP X (pgF cl 16384)) (nCt cl 16384)) = xCnt (oUp (fun m => o m && F m) o 16384) 16384 := by
  have ho2 := cl_and (p := p) (s := s) (u := u) ho hX
  have hw9 := hw.2.2.2.2.2.2.2.2.1
  obtain ⟨q1, q2, q3, q4⟩ := wtr hw9
  have hc2 : gCl (fun m => cl m && X (yEnc m)) p W x y := by
    refine ⟨fun n hn h => ?_, ?_⟩
    · simp only [Bool.and_eq_true] at h
      exact hc.1 n hn h.1
    · show (cl (64 * W + 8 * x + y) && X (yEnc (64 * W + 8 * x + y))) = true
      rw [hc.2, yEnc_n, q2, q3, q4, ht]; rfl
  refine ⟨⟨p, W, x, y, s, u, _, hw, hc2, ho2, kc_pgF, rfl, i0, i1, i2, i9, iA⟩, ?_⟩
  rw [kc_pgF, kc_count 16384 (Nat.le_refl _)]
  have hv : yVw a (-1) = true := rfl
  refine (wor_eq hw hc2.1 ho2 hv).trans ?_
  exact xCnt_cong 16384 (fun n _ => by
    unfold xFor
    cases oUp (fun m => o m && F m) o 16384 n <;> rfl)
theorem clm_in {a g v : Nat → Int32} {tr : Int32} {o : Nat → Bool} {q k r : Int32} (hI : gIn a g tr v o) (hk : kYc a tr q k r = 0) : ∃ K, K ≤ 1120 ∧ (∀ j, j < K → ¬ g j = 0) ∧ (K < 1120 → g K = 0) ∧ gIn a (kcF (pAc q (yCb k r) (!decide (k = 1))) g K) tr v (oUp (nCl o q k r) o 16384) ∧ xCnt (pAg (kcF (pAc q (yCb k r) (!decide (k = 1))) g K) tr (yKn a (-1))) (nCt (kcP (pAc q (yCb k r) (!decide (k = 1))) g) K) = xCnt (oUp (nCl o q k r) o 16384) 16384 := by
  obtain ⟨p, W, x, y, s, u, cl, hw, hc, ho, hg, ht, i0, i1, i2, i9, iA⟩ := hI
  subst hg
  subst ht
  have hct := hc.ct hw.2.2.2.2.2.2.1 hw.2.2.2.2.2.2.2.1 hw.2.2.2.2.2.2.2.2.2.2.2.2.1 hw.2.2.2.2.2.2.2.2.2.2.2.2.2.1
  obtain ⟨k1, k2⟩ := pgF_ok (P := cl) (fun b _ => yEnc_ne b) 16384
  refine ⟨nCt cl 16384, hct, k1, k2, ?_⟩
  unfold kYc at hk
  rw [if_neg i0] at hk
  split at hk
  · exact absurd hk (by decide)
  rename_i c1
  split at hk
  · exact absurd hk (by decide)
  rename_i c2
  split at hk
  · exact absurd hk (by decide)
  rename_i c3
  split at hk
  · rename_i c4
    split at hk
    · rename_i c5
      obtain ⟨j, _, hj, rfl⟩ := hw.plj (Bool.not_eq_false _ ▸ c1)
      obtain ⟨i, _, hi, rfl⟩ := hw.plj (Bool.not_eq_false _ ▸ c2)
      obtain ⟨k9, hk9, rfl⟩ := k03_of c3 c4
      unfold yMay at c5
      simp only [Bool.and_eq_true] at c5
      refine cl_in (g := pgF cl 16384) (tr := nI (eN W x y)) (X := pAc (nI j) (yCb (nI k9) (nI i)) (!decide (nI k9 = 1))) (F := fun n => xHas (nI n / 64) (nI j) || xTrue (nI n) (nI k9) (nI i)) hw hc ho i0 i1 i2 i9 iA (fun n hn hcl => ?_) c5.2
      have hk := (wN_ok hn (hc.1 n hn hcl)).1
      show (xHas (nI n / 64) (nI j) || xTrue (nI n) (nI k9) (nI i)) = yAg (yEnc n) (nI j) (yCb (nI k9) (nI i)) (!decide (nI k9 = 1))
      rw [yEnc_n, yAg_n hk.1 hk.2.1 hk.2.2.1 hk9 hi hj, xTrue_n hn hk hk9 hi, wdT hn, xHas_n (by have := hk.1; omega) hj]
    · exact absurd hk (by decide)
  · exact absurd hk (by decide)
theorem cam_in {a g v : Nat → Int32} {tr : Int32} {o : Nat → Bool} {q st : Int32} (hI : gIn a g tr v o) (hk : kYa a tr q st = 0) : ∃ K, K ≤ 1120 ∧ (∀ j, j < K → ¬ g j = 0) ∧ (K < 1120 → g K = 0) ∧ gIn a (kcF (pAc q st true) g K) tr v (oUp (nAm o q st) o 16384) ∧ xCnt (pAg (kcF (pAc q st true) g K) tr (yKn a (-1))) (nCt (kcP (pAc q st true) g) K) = xCnt (oUp (nAm o q st) o 16384) 16384 := by
  obtain ⟨p, W, x, y, s, u, cl, hw, hc, ho, hg, ht, i0, i1, i2, i9, iA⟩ := hI
  subst hg
  subst ht
  have hp := hw.2.2.2.2.2.2.2.1
  obtain ⟨_, _, a3⟩ := allE p hp
  have hct := hc.ct hw.2.2.2.2.2.2.1 hp hw.2.2.2.2.2.2.2.2.2.2.2.2.1 hw.2.2.2.2.2.2.2.2.2.2.2.2.2.1
  obtain ⟨k1, k2⟩ := pgF_ok (P := cl) (fun b _ => yEnc_ne b) 16384
  refine ⟨nCt cl 16384, hct, k1, k2, ?_⟩
  unfold kYa at hk
  rw [if_neg i0] at hk
  split at hk
  · exact absurd hk (by decide)
  rename_i c1
  split at hk
  · rename_i c2
    split at hk
    · rename_i c5
      obtain ⟨j, _, hj, rfl⟩ := hw.plj (Bool.not_eq_false _ ▸ c1)
      rw [hw.1] at c2
      obtain ⟨S, hS, rfl⟩ := mk_of hp c2
      unfold yMay at c5
      simp only [Bool.and_eq_true] at c5
      refine cl_in (g := pgF cl 16384) (tr := nI (eN W x y)) (X := pAc (nI j) (nI S) true) (F := fun n => xHas (nI n / 64) (nI j) || !decide ((nI n / 64) &&& nI S = 0)) hw hc ho i0 i1 i2 i9 iA (fun n hn hcl => ?_) c5.2
      have hk := (wN_ok hn (hc.1 n hn hcl)).1
      show (xHas (nI n / 64) (nI j) || !decide ((nI n / 64) &&& nI S = 0)) = yAg (yEnc n) (nI j) (nI S) true
      rw [yEnc_n, yAm_n hk.1 hk.2.1 hk.2.2.1 (by omega) hj, wdT hn, xHas_n (by have := hk.1; omega) hj]
    · exact absurd hk (by decide)
  · exact absurd hk (by decide)
/-! the steps: a new game -/
theorem sta_in {a a' g v : Nat → Int32} {o : Nat → Bool} {n W x y : Nat} (hG : 4 ≤ n ∧ n ≤ 8 ∧ wOk W x y ∧ W < 2 ^ n ∧ x < n ∧ y < n ∧ 1 ≤ bC W 8 ∧ 2 * bC W 8 < n) : gIn (aYs a (nI n) (nI W) (nI x) (nI y)) (pgF (wN n (bC W 8)) 16384) (yWo (nI W) (nI x) (nI y)) (iUp vM v 8) (oUp (nW (nI n) (xCt (nI W))) o 16384) ∧ xCnt (pAg (pgF (wN n (bC W 8)) 16384) (yWo (nI W) (nI x) (nI y)) (yKn (aYs a (nI n) (nI W) (nI x) (nI y)) (-1))) (nCt (wN n (bC W 8)) 16384) = xCnt (oUp (nW (nI n) (xCt (nI W))) o 16384) 16384 := by
  obtain ⟨n4, n8, hw, hW, hx, hy, h1, h2⟩ := hG
  obtain ⟨e, g1, g2⟩ := allE n n8
  have well : gWell (aYs a (nI n) (nI W) (nI x) (nI y)) n W x y (2 ^ n - 1) 0 := ⟨rfl, rfl, rfl, rfl, e, nI_0.symm, n4, n8, hw, hW, hx, hy, h1, h2, by omega, by decide⟩
  have hc : gCl (wN n (bC W 8)) n W x y := ⟨fun _ _ h => h, st_t hw hW hx hy⟩
  have hbc := bC_le W 8
  have ho : ∀ m, m < 16384 → oUp (nW (nI n) (xCt (nI W))) o 16384 m = (wN n (bC W 8) m && yAgr (yEnc m) (nI (eN W x y)) (yKd (aYs a (nI n) (nI W) (nI x) (nI y)))) := by
    intro m hm
    have e1 : oUp (nW (nI n) (xCt (nI W))) o 16384 m = nW (nI n) (xCt (nI W)) m := if_pos hm
    have e2 : yKd (aYs a (nI n) (nI W) (nI x) (nI y)) = 0 := by
      rw [well.kd.1]
      have : (2 ^ n - 1) ^^^ ((2 ^ n - 1) &&& (2 ^ n - 1)) = 0 := by rw [Nat.and_self, Nat.xor_self]
      rw [this]; decide
    have e3 : yAgr (yEnc m) (nI (eN W x y)) 0 = true := by
      unfold yAgr
      rw [Int32.and_zero]; rfl
    rw [e1, xCt_n hw.1, nW_n (by omega) n8 (by omega) hm, e2, e3, Bool.and_true]
  have etr : yWo (nI W) (nI x) (nI y) = nI (eN W x y) := yWo_n hw.2.1 hw.2.2.1
  refine ⟨⟨n, W, x, y, _, _, _, well, hc, ho, rfl, etr, (show ¬ (1 : Int32) = 0 by decide), fun _ => aF_idem _, fun _ => iUp_idem _ _ _, Or.inl rfl, Or.inl rfl⟩, ?_⟩
  rw [etr]
  have hv : yVw (aYs a (nI n) (nI W) (nI x) (nI y)) (-1) = true := rfl
  refine (wor_eq well hc.1 ho hv).trans ?_
  exact xCnt_cong 16384 (fun m _ => by
    unfold xFor
    cases oUp (nW (nI n) (xCt (nI W))) o 16384 m <;> rfl)
/-- before the first game: the states of both sides, and what a new game makes of them -/
def gNo (a a' : Nat → Int32) : Prop := a 0 = 0 ∧ a' 0 = 0
def aEq (a a' : Nat → Int32) : Prop := ∀ k, 12 ≤ k → a' k = a k
theorem sta_a {a a' : Nat → Int32} (h : aEq a a') (pl wi se gu : Int32) : aSt a' pl wi se gu = aYs a pl wi se gu := by
  funext k
  rcases Nat.lt_or_ge k 12 with h1 | h1
  · have : k = 0 ∨ k = 1 ∨ k = 2 ∨ k = 3 ∨ k = 4 ∨ k = 5 ∨ k = 6 ∨ k = 7 ∨ k = 8 ∨ k = 9 ∨ k = 10 ∨ k = 11 := by omega
    rcases this with h2 | h2 | h2 | h2 | h2 | h2 | h2 | h2 | h2 | h2 | h2 | h2 <;> subst h2 <;> rfl
  · unfold aSt aYs aF
    simp only [upd]
    rw [if_neg (by omega), if_neg (by omega), if_neg (by omega), if_neg (by omega), if_neg (by omega), if_neg (by omega), if_neg (by omega), if_neg (by omega), if_neg (by omega), if_neg (by omega), if_neg (by omega), if_neg (by omega), if_neg (by omega), if_neg (by omega), if_neg (by omega), if_neg (by omega), if_neg (by omega), if_neg (by omega), if_neg (by omega), if_neg (by omega), if_neg (by omega), if_neg (by omega), if_neg (by omega), if_neg (by omega)]
    exact h k h1
