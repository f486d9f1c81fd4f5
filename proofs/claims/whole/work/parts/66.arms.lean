/-! the invariant at each of the law's arms -/
section Arms
variable {a a' g v : Nat → Int32} {tr : Int32} {o : Nat → Bool}
theorem iv_0 (hI : Inv a a' g tr v o) : a' 0 = a 0 := by
  rcases hI.2 with ⟨h1, h2, _⟩ | ⟨rfl, _⟩
  · rw [h1, h2]
  · rfl
theorem iv_on (hI : Inv a a' g tr v o) (h : ¬ a 0 = 0) : a' = a ∧ gIn a g tr v o := by
  rcases hI.2 with ⟨h1, _⟩ | h2
  · exact absurd h1 h
  · exact h2
theorem iv_kCl (hI : Inv a a' g tr v o) (q k r : Int32) : kCl a' q k r = kYc a tr q k r := by
  rcases hI.2 with ⟨h1, h2, _⟩ | ⟨rfl, p, W, x, y, s, u, cl, hw, _, _, _, rfl, _⟩
  · unfold kCl kYc; rw [if_pos h2, if_pos h1]
  · exact kCl_eq hw q k r
theorem iv_kAm (hI : Inv a a' g tr v o) (q st : Int32) : kAm a' q st = kYa a tr q st := by
  rcases hI.2 with ⟨h1, h2, _⟩ | ⟨rfl, p, W, x, y, s, u, cl, hw, _, _, _, rfl, _⟩
  · unfold kAm kYa; rw [if_pos h2, if_pos h1]
  · exact kAm_eq hw q st
theorem iv_kVo (hI : Inv a a' g tr v o) (q r : Int32) : kVo a' q r = kYv a q r := by
  rcases hI.2 with ⟨h1, h2, _⟩ | ⟨rfl, p, W, x, y, s, u, cl, hw, _⟩
  · unfold kVo kYv; rw [if_pos (by rw [h2]; decide), if_neg (by rw [h1]; decide)]
  · exact kVo_eq hw q r
theorem iv_kPr (hI : Inv a a' g tr v o) (q : Int32) : kPr a' q = kYp a q := by
  rcases hI.2 with ⟨h1, h2, _⟩ | ⟨rfl, p, W, x, y, s, u, cl, hw, _⟩
  · unfold kPr kYp; rw [if_pos (by rw [h2]; decide), if_neg (by rw [h1]; decide)]
  · exact kPr_eq hw q
theorem iv_kAt (hI : Inv a a' g tr v o) (q : Int32) : kAt a' q = kYt a q := by
  rcases hI.2 with ⟨h1, h2, _⟩ | ⟨rfl, p, W, x, y, s, u, cl, hw, _⟩
  · unfold kAt kYt; rw [if_pos (by rw [h2]; decide), if_neg (by rw [h1]; decide)]
  · exact kAt_eq hw q
theorem iv_kLo (hI : Inv a a' g tr v o) (q : Int32) : kLo a' q = kYl a q := by
  rcases hI.2 with ⟨h1, h2, _⟩ | ⟨rfl, p, W, x, y, s, u, cl, hw, _⟩
  · unfold kLo kYl; rw [if_pos (by rw [h2]; decide), if_neg (by rw [h1]; decide)]
  · exact kLo_eq hw q
theorem iv_kAs (hI : Inv a a' g tr v o) (q : Int32) : kAs a' q = kYw a q := by
  rcases hI.2 with ⟨h1, h2, _⟩ | ⟨rfl, p, W, x, y, s, u, cl, hw, _⟩
  · unfold kAs kYw; rw [if_pos h2, if_pos h1]
  · exact kAs_eq hw q
theorem iv_kVf (hI : Inv a a' g tr v o) (q : Int32) : kVf a' q = kYo a q := by
  rcases hI.2 with ⟨h1, h2, _⟩ | ⟨rfl, p, W, x, y, s, u, cl, hw, _⟩
  · unfold kVf kYo; rw [if_pos h2, if_pos h1]
  · exact kVf_eq hw q
theorem iv_kWw (hI : Inv a a' g tr v o) (q r k : Int32) : kWw a' q r k = kYx a q r k := by
  rcases hI.2 with ⟨h1, h2, _⟩ | ⟨rfl, p, W, x, y, s, u, cl, hw, _⟩
  · unfold kWw kYx; rw [if_pos h2, if_pos h1]
  · exact kWw_eq hw q r k
theorem iv_kPo (hI : Inv a a' g tr v o) (q r t : Int32) : kPo a' q r t = kYi a q r t := by
  rcases hI.2 with ⟨h1, h2, _⟩ | ⟨rfl, p, W, x, y, s, u, cl, hw, _⟩
  · unfold kPo kYi; rw [if_pos h2, if_pos h1]
  · exact kPo_eq hw q r t
theorem iv_kGm (hI : Inv a a' g tr v o) : kGm a' = kYg a := by
  unfold kGm kYg; rw [iv_0 hI]
theorem xGm_on (h : ¬ a 0 = 0) : xGm a = true := by
  unfold xGm
  rw [decide_eq_false h]; rfl
theorem xGm_no (h : ¬ kGm a = 0) : ¬ xGm a = true := by
  unfold kGm at h
  unfold xGm
  split at h
  · rename_i h1
    rw [decide_eq_true h1]; decide
  · exact absurd rfl h
/-! what the code 0 says -/
theorem kYc_ok {q k r : Int32} (h : kYc a tr q k r = 0) : ¬ a 0 = 0 ∧ yPl a q = true ∧ yPl a r = true ∧ ¬ k < 0 ∧ k ≤ 3 ∧ a 0 = 1 ∧ yIn (a 6) q = true ∧ yAg tr q (yCb k r) (!decide (k = 1)) = true := by
  unfold kYc yMay at h
  (repeat' split at h) <;> first | exact absurd h (by decide) | simp_all
theorem kYa_ok {q st : Int32} (h : kYa a tr q st = 0) : ¬ a 0 = 0 ∧ yPl a q = true ∧ st &&& (xAll (a 2) ^^^ (-1)) = 0 ∧ a 0 = 1 ∧ yIn (a 6) q = true ∧ yAg tr q st true = true := by
  unfold kYa yMay at h
  (repeat' split at h) <;> first | exact absurd h (by decide) | simp_all
theorem kYv_ok {q r : Int32} (h : kYv a q r = 0) : a 0 = 1 ∧ yPl a q = true ∧ yPl a r = true ∧ yIn (a 6) q = true ∧ yIn (a 6) r = true := by
  unfold kYv at h
  (repeat' split at h) <;> first | exact absurd h (by decide) | simp_all
theorem kYh_ok {k : Int32} (h : kYh a k = 0) : a 0 = k := by
  unfold kYh at h
  split at h
  · assumption
  · exact absurd h (by decide)
theorem kYh_no {k : Int32} (h : ¬ kYh a k = 0) : ¬ a 0 = k ∧ kYh a k = 1 := by
  unfold kYh at h ⊢
  split at h
  · exact absurd rfl h
  · rename_i h2
    exact ⟨h2, if_neg h2⟩
theorem kYp_ok {q : Int32} (h : kYp a q = 0) : a 0 = 2 ∧ yIn (a 6) (a 5) = true ∧ yPl a q = true ∧ yIn (a 6) q = true ∧ ¬ q = a 11 := by
  unfold kYp at h
  (repeat' split at h) <;> first | exact absurd h (by decide) | simp_all
theorem kYt_ok {q : Int32} (h : kYt a q = 0) : a 0 = 2 ∧ yPl a q = true ∧ yIn (a 6) q = true ∧ yIn (a 3) q = false := by
  unfold kYt at h
  (repeat' split at h) <;> first | exact absurd h (by decide) | simp_all
theorem kYl_ok {q : Int32} (h : kYl a q = 0) : a 0 = 2 ∧ yIn (a 6) (a 4) = true ∧ yPl a q = true ∧ yIn (a 6) q = true ∧ ¬ q = a 4 := by
  unfold kYl at h
  (repeat' split at h) <;> first | exact absurd h (by decide) | simp_all
theorem kYg_ok (h : kYg a = 0) : ¬ a 0 = 0 := by
  unfold kYg at h
  split at h
  · exact absurd h (by decide)
  · assumption
theorem kYo_ok {q : Int32} (h : kYo a q = 0) : ¬ a 0 = 0 ∧ yPl a q = true := by
  unfold kYo at h
  (repeat' split at h) <;> first | exact absurd h (by decide) | simp_all
theorem kYw_ok {q : Int32} (h : kYw a q = 0) : ¬ a 0 = 0 ∧ yVw a q = true := by
  unfold kYw at h
  (repeat' split at h) <;> first | exact absurd h (by decide) | simp_all
theorem kYx_ok {q r k : Int32} (h : kYx a q r k = 0) : ¬ a 0 = 0 ∧ yVw a q = true ∧ yPl a r = true ∧ ¬ k < 0 ∧ k ≤ 3 := by
  unfold kYx at h
  (repeat' split at h) <;> first | exact absurd h (by decide) | simp_all
theorem kYi_ok {q r u : Int32} (h : kYi a q r u = 0) : ¬ a 0 = 0 ∧ yVw a q = true ∧ yPl a r = true ∧ yPl a u = true := by
  unfold kYi at h
  (repeat' split at h) <;> first | exact absurd h (by decide) | simp_all
/-! the readers: the book's row, and the answers -/
theorem in_n (hg : gIn a g tr v o) : ∃ n, a 2 = nI n ∧ n ≤ 8 := by
  obtain ⟨p, W, x, y, s, u, cl, hw, _⟩ := hg
  exact ⟨p, hw.1, hw.2.2.2.2.2.2.2.1⟩
theorem in_pl (hg : gIn a g tr v o) {q : Int32} (h : yPl a q = true) : ∃ j, j < 8 ∧ q = nI j := by
  obtain ⟨p, W, x, y, s, u, cl, hw, _⟩ := hg
  obtain ⟨j, _, h1, h2⟩ := hw.plj h
  exact ⟨j, h1, h2⟩
theorem in_K (hg : gIn a g tr v o) : ∃ (K p W x y s u : Nat) (cl : Nat → Bool), K = nCt cl 16384 ∧ K ≤ 1120 ∧ (∀ j, j < K → ¬ g j = 0) ∧ (K < 1120 → g K = 0) ∧ gWell a p W x y s u ∧ gCl cl p W x y ∧ (∀ n, n < 16384 → o n = (cl n && yAgr (yEnc n) (nI (eN W x y)) (yKd a))) ∧ g = pgF cl 16384 ∧ tr = nI (eN W x y) := by
  obtain ⟨p, W, x, y, s, u, cl, hw, hc, ho, rfl, ht, _⟩ := hg
  have hct := hc.ct hw.2.2.2.2.2.2.1 hw.2.2.2.2.2.2.2.1 hw.2.2.2.2.2.2.2.2.2.2.2.2.1 hw.2.2.2.2.2.2.2.2.2.2.2.2.2.1
  obtain ⟨k1, k2⟩ := pgF_ok (P := cl) (fun b _ => yEnc_ne b) 16384
  exact ⟨_, p, W, x, y, s, u, cl, rfl, hct, k1, k2, hw, hc, ho, rfl, ht⟩
theorem a_worlds (hg : gIn a g tr v o) {q : Int32} (hq : yVw a q = true) : ∃ K, K ≤ 1120 ∧ (∀ j, j < K → ¬ g j = 0) ∧ (K < 1120 → g K = 0) ∧ xCnt (pAg g tr (yKn a q)) K = xCnt (xFor a o q) 16384 := by
  obtain ⟨K, p, W, x, y, s, u, cl, rfl, k0, k1, k2, hw, hc, ho, rfl, rfl⟩ := in_K hg
  exact ⟨_, k0, k1, k2, wor_eq hw hc.1 ho hq⟩
theorem a_worldsWith (hg : gIn a g tr v o) {q r k : Int32} (hq : yVw a q = true) (hr : yPl a r = true) (h1 : ¬ k < 0) (h2 : k ≤ 3) : ∃ K, K ≤ 1120 ∧ (∀ j, j < K → ¬ g j = 0) ∧ (K < 1120 → g K = 0) ∧ xCnt (pRo g tr (yKn a q) r k) K = xCnt (xWt a o q r k) 16384 := by
  obtain ⟨K, p, W, x, y, s, u, cl, rfl, k0, k1, k2, hw, hc, ho, rfl, rfl⟩ := in_K hg
  obtain ⟨j, _, hj, rfl⟩ := hw.plj hr
  obtain ⟨k9, hk9, rfl⟩ := k03_of h1 h2
  exact ⟨_, k0, k1, k2, wwt_eq hw hc.1 ho hq hj hk9⟩
theorem a_sureWitches (hg : gIn a g tr v o) {q : Int32} (hq : yVw a q = true) : ∃ K, K ≤ 1120 ∧ (∀ j, j < K → ¬ g j = 0) ∧ (K < 1120 → g K = 0) ∧ yWa g tr (yKn a q) K = xAll (a 2) &&& ((xSm a o q false 16384 &&& xAll (a 2)) ^^^ (-1)) := by
  obtain ⟨K, p, W, x, y, s, u, cl, rfl, k0, k1, k2, hw, hc, ho, rfl, rfl⟩ := in_K hg
  exact ⟨_, k0, k1, k2, swi_eq hw hc.1 ho hc.2 hq⟩
theorem a_sureHonest (hg : gIn a g tr v o) {q : Int32} (hq : yVw a q = true) : ∃ K, K ≤ 1120 ∧ (∀ j, j < K → ¬ g j = 0) ∧ (K < 1120 → g K = 0) ∧ xAll (a 2) &&& (yWy g tr (yKn a q) K ^^^ (-1)) = xAll (a 2) &&& ((xSm a o q true 16384 &&& xAll (a 2)) ^^^ (-1)) := by
  obtain ⟨K, p, W, x, y, s, u, cl, rfl, k0, k1, k2, hw, hc, ho, rfl, rfl⟩ := in_K hg
  exact ⟨_, k0, k1, k2, sho_eq hw hc.1 ho hq⟩
theorem a_witchSets (hg : gIn a g tr v o) {q : Int32} (hq : yVw a q = true) : ∃ K, K ≤ 1120 ∧ (∀ j, j < K → ¬ g j = 0) ∧ (K < 1120 → g K = 0) ∧ (yCs g tr (yKn a q) K).1 = xWs a o q 256 := by
  obtain ⟨K, p, W, x, y, s, u, cl, rfl, k0, k1, k2, hw, hc, ho, rfl, rfl⟩ := in_K hg
  exact ⟨_, k0, k1, k2, wse_eq hw hc.1 ho hq⟩
theorem a_suspect (hg : gIn a g tr v o) {q : Int32} (hq : yVw a q = true) (mn : Nat → Int32) : ∃ K n, K ≤ 1120 ∧ (∀ j, j < K → ¬ g j = 0) ∧ (K < 1120 → g K = 0) ∧ a 2 = nI n ∧ n ≤ 8 ∧ (ySu a (fun n9 => xCnt (pRo g tr (yKn a q) (nI n9) 1) K) q n).1 = xSus a (iUp (xNw a o q) mn n) q n := by
  obtain ⟨K, p, W, x, y, s, u, cl, rfl, k0, k1, k2, hw, hc, ho, rfl, rfl⟩ := in_K hg
  exact ⟨_, p, k0, k1, k2, hw.1, hw.2.2.2.2.2.2.2.1, sus_eq hw hc.1 ho hq mn⟩
theorem a_bestLook (hg : gIn a g tr v o) (mn : Nat → Int32) : ∃ K n, K ≤ 1120 ∧ (∀ j, j < K → ¬ g j = 0) ∧ (K < 1120 → g K = 0) ∧ a 2 = nI n ∧ n ≤ 8 ∧ (yBe a (fun n9 => xCnt (pRo g tr (yKn a (a 4)) (nI n9) 1) K) (xCnt (pAg g tr (yKn a (a 4))) K) n).1 = (xBl a (iUp (xNw a o (a 4)) mn n) (xCnt (xFor a o (a 4)) 16384) n).1 := by
  obtain ⟨K, p, W, x, y, s, u, cl, rfl, k0, k1, k2, hw, hc, ho, rfl, rfl⟩ := in_K hg
  exact ⟨_, p, k0, k1, k2, hw.1, hw.2.2.2.2.2.2.2.1, bes_eq hw hc.1 ho mn⟩
/-- isPossible: the set is out of range -/
theorem a_posz (hg : gIn a g tr v o) {q t r u : Int32} (hq : yVw a q = true) (hr : yPl a r = true) (hu : yPl a u = true) (ht : xIn t 0 (((1 : Int32) <<< (a 2 &&& 31)) - 1) = false) : ∃ K, K ≤ 1120 ∧ (∀ j, j < K → ¬ g j = 0) ∧ (K < 1120 → g K = 0) ∧ (decide (t &&& (-256) = 0) && (yHs g (yWo t r u) K && yAgr (yWo t r u) tr (yKn a q))) = false := by
  obtain ⟨K, p, W, x, y, s, u9, cl, rfl, k0, k1, k2, hw, hc, ho, rfl, rfl⟩ := in_K hg
  obtain ⟨j, _, hj, rfl⟩ := hw.plj hr
  obtain ⟨i, _, hi, rfl⟩ := hw.plj hu
  exact ⟨_, k0, k1, k2, posz_eq hw hc.1 ho hq ht hj hi⟩
/-- isPossible: the set is in range -/
theorem a_pos (hg : gIn a g tr v o) {q t r u : Int32} (hq : yVw a q = true) (hr : yPl a r = true) (hu : yPl a u = true) (ht : xIn t 0 (((1 : Int32) <<< (a 2 &&& 31)) - 1) = true) : ∃ K t9 r9 u9, K ≤ 1120 ∧ (∀ j, j < K → ¬ g j = 0) ∧ (K < 1120 → g K = 0) ∧ t = nI t9 ∧ r = nI r9 ∧ u = nI u9 ∧ 64 * t9 + 8 * r9 + u9 < 16384 ∧ (decide (t &&& (-256) = 0) && (yHs g (yWo t r u) K && yAgr (yWo t r u) tr (yKn a q))) = xFor a o q (64 * t9 + 8 * r9 + u9) := by
  obtain ⟨K, p, W, x, y, s, u9, cl, rfl, k0, k1, k2, hw, hc, ho, rfl, rfl⟩ := in_K hg
  obtain ⟨j, _, hj, rfl⟩ := hw.plj hr
  obtain ⟨i, _, hi, rfl⟩ := hw.plj hu
  have hp := hw.2.2.2.2.2.2.2.1
  obtain ⟨_, _, a3⟩ := allE p hp
  rw [hw.1] at ht
  obtain ⟨S, hS, rfl⟩ := xi_of hp ht
  refine ⟨_, S, j, i, k0, k1, k2, rfl, rfl, rfl, by omega, ?_⟩
  rw [m256 S (by omega), decide_eq_true rfl, Bool.true_and]
  exact pos_eq hw hc.1 ho hq (by omega) hj hi
/-! the invariant kept -/
theorem iv_claim {K : Nat} {X : Int32 → Bool} {o2 : Nat → Bool} (hI : Inv a a g tr v o) (hK : K ≤ 1120) (h : gIn a (kcF X g K) tr v o2) : Inv a a (kcF X g K) tr v o2 := by
  refine ⟨fun j hj => ?_, Or.inr ⟨rfl, h⟩⟩
  rw [kcF_ge X g K j (by omega)]
  exact hI.1 j hj
theorem iv_start {a9 : Nat → Int32} {P : Nat → Bool} {tr2 : Int32} {v2 : Nat → Int32} {o2 : Nat → Bool} (hB : nCt P 16384 ≤ 1120) (h : gIn a9 (pgF P 16384) tr2 v2 o2) : Inv a9 a9 (pgF P 16384) tr2 v2 o2 :=
  ⟨fun j hj => pgF_hi P 16384 j (by omega), Or.inr ⟨rfl, h⟩⟩
theorem iv_aSt (hI : Inv a a' g tr v o) (pl wi se gu : Int32) : aSt a' pl wi se gu = aYs a pl wi se gu := by
  rcases hI.2 with ⟨_, _, h3⟩ | ⟨rfl, _⟩
  · exact sta_a h3 pl wi se gu
  · exact sta_a (fun _ _ => rfl) pl wi se gu
theorem iv_vote (hI : Inv a a g tr v o) (h : a 0 = 1) (v2 : Nat → Int32) : Inv a a g tr v2 o := by
  obtain ⟨p, W, x, y, s, u, cl, hw, hc, ho, hg, ht, i0, i1, i2, i9, iA⟩ := (iv_on hI (by rw [h]; decide)).2
  exact ⟨hI.1, Or.inr ⟨rfl, p, W, x, y, s, u, cl, hw, hc, ho, hg, ht, i0, i1, fun h9 => absurd (h.symm.trans h9) (by decide), i9, iA⟩⟩
theorem iv_choice (hI : Inv a a g tr v o) (h : a 0 = 2) {q : Int32} (hq : yPl a q = true) {k : Nat} (hk : k = 8 ∨ k = 9 ∨ k = 10) : Inv (upd a k q) (upd a k q) g tr v o := by
  obtain ⟨p, W, x, y, s, u, cl, hw, hc, ho, hg, ht, i0, i1, i2, i9, iA⟩ := (iv_on hI (by rw [h]; decide)).2
  obtain ⟨j, hj, _, rfl⟩ := hw.plj hq
  refine ⟨hI.1, Or.inr ⟨rfl, ?_⟩⟩
  rcases hk with rfl | rfl | rfl
  · exact ⟨p, W, x, y, s, u, cl, hw, hc, ho, hg, ht, i0, fun h9 => absurd (h.symm.trans h9) (by decide), fun _ => i2 h, i9, iA⟩
  · exact ⟨p, W, x, y, s, u, cl, hw, hc, ho, hg, ht, i0, fun h9 => absurd (h.symm.trans h9) (by decide), fun _ => i2 h, Or.inr ⟨j, hj, rfl⟩, iA⟩
  · exact ⟨p, W, x, y, s, u, cl, hw, hc, ho, hg, ht, i0, fun h9 => absurd (h.symm.trans h9) (by decide), fun _ => i2 h, i9, Or.inr ⟨j, hj, rfl⟩⟩
end Arms
