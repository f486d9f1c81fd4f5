/-! a player dies: both sides -/
theorem bC_split (s W : Nat) : ∀ n, bC s n = bC (s &&& W) n + bC (s ^^^ (s &&& W)) n := by
  intro n
  induction n with
  | zero => rfl
  | succ n ih =>
    unfold bC
    rw [ih, Nat.testBit_xor, Nat.testBit_and]
    cases s.testBit n <;> cases W.testBit n <;> simp <;> omega
theorem nal (z t : Nat) : nI z &&& (nI t ^^^ (-1)) = nI (z ^^^ (z &&& t)) := by
  rw [← nI_xor, ← nI_and]
  apply i_ext
  intro i hi
  have := m1_bit hi
  simp only [Int32.toBitVec_and, Int32.toBitVec_xor, BitVec.getLsbD_and, BitVec.getLsbD_xor, this]
  cases (nI z).toBitVec.getLsbD i <;> cases (nI t).toBitVec.getLsbD i <;> rfl
theorem al_n {a : Nat → Int32} {s j : Nat} (h6 : a 6 = nI s) (hj : j < 8) : aAl a (nI j) = nI (s ^^^ (s &&& 2 ^ j)) := by
  rw [aAl_y, h6, yOf_n j hj, nal]
theorem xa_lt {s t n : Nat} (h : s < 2 ^ n) : s ^^^ (s &&& t) < 2 ^ n := Nat.xor_lt_two_pow h (Nat.lt_of_le_of_lt Nat.and_le_left h)
theorem dy_eq {a : Nat → Int32} {s W j : Nat} (h6 : a 6 = nI s) (hs : s < 256) (h3 : a 3 = nI W) (hj : j < 8) : aYd a (nI j) = aDi a (nI j) := by
  have hS : s ^^^ (s &&& 2 ^ j) < 2 ^ 8 := xa_lt (n := 8) hs
  have hSW : (s ^^^ (s &&& 2 ^ j)) &&& W < 2 ^ 8 := Nat.lt_of_le_of_lt Nat.and_le_left hS
  have hSX : (s ^^^ (s &&& 2 ^ j)) ^^^ ((s ^^^ (s &&& 2 ^ j)) &&& W) < 2 ^ 8 := xa_lt hS
  have hb := bC_split (s ^^^ (s &&& 2 ^ j)) W 8
  have b1 := bC_le ((s ^^^ (s &&& 2 ^ j)) &&& W) 8
  have b2 := bC_le ((s ^^^ (s &&& 2 ^ j)) ^^^ ((s ^^^ (s &&& 2 ^ j)) &&& W)) 8
  have b3 := bC_le (s ^^^ (s &&& 2 ^ j)) 8
  unfold aYd aDi
  rw [al_n h6 hj, h3, nal, nI_and, xBits_n (by omega) 8 (by decide), xBits_n (by omega) 8 (by decide), yPop_n _ hSW, yPop_n _ hSX, m2_n]
  by_cases c : nI (bC ((s ^^^ (s &&& 2 ^ j)) &&& W) 8) = 0
  · rw [if_pos c, if_pos c]
  · rw [if_neg c, if_neg c]
    by_cases d : bC ((s ^^^ (s &&& 2 ^ j)) &&& W) 8 < bC ((s ^^^ (s &&& 2 ^ j)) ^^^ ((s ^^^ (s &&& 2 ^ j)) &&& W)) 8
    · rw [if_pos (nI_lt d (by omega)), if_pos (nI_lt (show 2 * bC ((s ^^^ (s &&& 2 ^ j)) &&& W) 8 < bC (s ^^^ (s &&& 2 ^ j)) 8 by omega) (by omega))]
      exact (upd_self _ rfl).symm
    · rw [if_neg (nI_nlt (by omega) (by omega)), if_neg (nI_nlt (show bC (s ^^^ (s &&& 2 ^ j)) 8 ≤ 2 * bC ((s ^^^ (s &&& 2 ^ j)) &&& W) 8 by omega) (by omega))]
theorem di_0 (a : Nat → Int32) (q : Int32) : aDi a q 0 = a 0 ∨ aDi a q 0 = 3 ∨ aDi a q 0 = 4 := by
  show (if xBits (aAl a q &&& a 3) 8 = 0 then (3 : Int32) else if 2 * xBits (aAl a q &&& a 3) 8 < xBits (aAl a q) 8 then a 0 else 4) = a 0 ∨ _
  have e : aDi a q 0 = (if xBits (aAl a q &&& a 3) 8 = 0 then (3 : Int32) else if 2 * xBits (aAl a q &&& a 3) 8 < xBits (aAl a q) 8 then a 0 else 4) := rfl
  rw [e]
  split
  · exact Or.inr (Or.inl rfl)
  · split
    · exact Or.inl rfl
    · exact Or.inr (Or.inr rfl)
theorem di_well {a : Nat → Int32} {p W x y s u j : Nat} (h : gWell a p W x y s u) (hj : j < p) : gWell (aDi a (nI j)) p W x y (s ^^^ (s &&& 2 ^ j)) u := by
  obtain ⟨h2, h3, h4, h5, h6, h7, k1, k2, k3, k4, k5, k6, k7, k8, k9, kA⟩ := h
  exact ⟨h2, h3, h4, h5, al_n h6 (by omega), h7, k1, k2, k3, k4, k5, k6, k7, k8, xa_lt k9, kA⟩
theorem di_ag {t x y T X Y p s j : Nat} (h : wOk t x y) (H : wOk T X Y) (hp : p ≤ 8) (hj : j < p) : yAgr (nI (eN t x y)) (nI (eN T X Y)) (yRb (nI ((2 ^ p - 1) ^^^ ((2 ^ p - 1) &&& (s ^^^ (s &&& 2 ^ j)))))) = (yAgr (nI (eN t x y)) (nI (eN T X Y)) (yRb (nI ((2 ^ p - 1) ^^^ ((2 ^ p - 1) &&& s)))) && decide (rN t x y j = rN T X Y j)) := by
  have b : ∀ q, ((2 ^ p - 1) ^^^ ((2 ^ p - 1) &&& (s ^^^ (s &&& 2 ^ j)))).testBit q = true ↔ (((2 ^ p - 1) ^^^ ((2 ^ p - 1) &&& s)).testBit q = true ∨ q = j) := fun q => by
    rw [dead_bit, dead_bit, Nat.testBit_xor, Nat.testBit_and, Nat.testBit_two_pow]
    by_cases e : j = q
    · subst e
      simp [hj]
    · have e2 : ¬ q = j := fun e3 => e e3.symm
      simp [e, e2]
  apply Bool.eq_iff_iff.mpr
  rw [Bool.and_eq_true, agr_rb h.1 h.2.1 h.2.2.1 H.1 H.2.1 H.2.2.1 (dead_lt hp), agr_rb h.1 h.2.1 h.2.2.1 H.1 H.2.1 H.2.2.1 (dead_lt hp), decide_eq_true_iff, role_eq h H]
  constructor
  · intro k
    exact ⟨fun q hq hb => k q hq ((b q).mpr (Or.inl hb)), k j (by omega) ((b j).mpr (Or.inr rfl))⟩
  · rintro ⟨k1, k2⟩ q hq hb
    rcases (b q).mp hb with h1 | h1
    · exact k1 q hq h1
    · rw [h1]; exact k2
theorem di_o {a : Nat → Int32} {cl o : Nat → Bool} {p W x y s u j : Nat} (h : gWell a p W x y s u) (hc : ∀ n, n < 16384 → cl n = true → wN p (bC W 8) n = true) (ho : ∀ n, n < 16384 → o n = (cl n && yAgr (yEnc n) (nI (eN W x y)) (yKd a))) (hj : j < p) : ∀ n, n < 16384 → oUp (nDi a o (nI j)) o 16384 n = (cl n && yAgr (yEnc n) (nI (eN W x y)) (yKd (aDi a (nI j)))) := by
  intro n hn
  have e : oUp (nDi a o (nI j)) o 16384 n = nDi a o (nI j) n := if_pos hn
  have k1 := h.kd.1
  have k2 := (di_well h hj).kd.1
  have tr := h.tr.1
  have hp := h.2.2.2.2.2.2.2.1
  have hw := h.2.2.2.2.2.2.2.2.1
  obtain ⟨q1, q2, q3, q4⟩ := wtr hw
  rw [e, k2]
  unfold nDi
  rw [ho n hn, k1]
  cases hcl : cl n with
  | false => rfl
  | true =>
    have hk := (wN_ok hn (hc n hn hcl)).1
    rw [Bool.true_and, Bool.true_and, yEnc_n, di_ag hk hw hp hj, tr, xRole_n hn (by omega), xRole_n q1 (by omega), q2, q3, q4, nI_dec (by have := rN_lt (n / 64) (n / 8 % 8) (n % 8) j; omega) (by have := rN_lt W x y j; omega)]
/-! the state while a game goes on: both sides -/
def gIn (a g : Nat → Int32) (tr : Int32) (v : Nat → Int32) (o : Nat → Bool) : Prop := ∃ p W x y s u : Nat, ∃ cl : Nat → Bool, gWell a p W x y s u ∧ gCl cl p W x y ∧ (∀ n, n < 16384 → o n = (cl n && yAgr (yEnc n) (nI (eN W x y)) (yKd a))) ∧ g = pgF cl 16384 ∧ tr = nI (eN W x y) ∧ ¬ a 0 = 0 ∧ (a 0 = 1 → aF a = a) ∧ (a 0 = 2 → iUp vM v 8 = v) ∧ (a 9 = -1 ∨ ∃ j, j < p ∧ a 9 = nI j) ∧ (a 10 = -1 ∨ ∃ j, j < p ∧ a 10 = nI j)
theorem upd_upd (a : Nat → Int32) (i : Nat) (x y : Int32) : upd (upd a i x) i y = upd a i y := by
  funext k
  simp only [upd]
  by_cases h1 : k = i
  · simp [h1]
  · simp [h1]
theorem iUp_idem (f g : Nat → Int32) (n : Nat) : iUp f (iUp f g n) n = iUp f g n := by
  funext k
  unfold iUp
  by_cases h : k < n
  · simp [h]
  · simp [h]
theorem aF_idem (a : Nat → Int32) : aF (aF a) = aF a := by
  funext k
  unfold aF
  simp only [upd]
  by_cases h1 : k = 10
  · simp [h1]
  · by_cases h2 : k = 9
    · simp [h2]
    · by_cases h3 : k = 8
      · simp [h3]
      · simp [h1, h2, h3]
theorem xBM_in (v : Nat → Int32) : ∀ n, (xBM v n).1 = -1 ∨ ∃ j, j < n ∧ (xBM v n).1 = nI j := by
  intro n
  induction n with
  | zero => exact Or.inl rfl
  | succ n ih =>
    have up : (xBM v n).1 = -1 ∨ ∃ j, j < n + 1 ∧ (xBM v n).1 = nI j := by
      rcases ih with h | ⟨j, h1, h2⟩
      · exact Or.inl h
      · exact Or.inr ⟨j, by omega, h2⟩
    show (if xMv v (nI n) 8 ≤ (xBM v n).2 then (if xMv v (nI n) 8 = (xBM v n).2 then -1 else (xBM v n).1) else nI n) = -1 ∨ ∃ j, j < n + 1 ∧ (if xMv v (nI n) 8 ≤ (xBM v n).2 then (if xMv v (nI n) 8 = (xBM v n).2 then -1 else (xBM v n).1) else nI n) = nI j
    split
    · split
      · exact Or.inl rfl
      · exact up
    · exact Or.inr ⟨n, by omega, rfl⟩
theorem nIm (j : Nat) (h : j < 2 ^ 31) : ¬ nI j = -1 := fun h2 => absurd (by rw [h2]; decide) (nI_pos (n := j) h)
theorem cv_eq {a : Nat → Int32} {s W : Nat} {b : Int32} (h0 : a 0 = 1) (hF : aF a = a) (h6 : a 6 = nI s) (hs : s < 256) (h3 : a 3 = nI W) (hb : b = -1 ∨ ∃ j, j < 8 ∧ b = nI j) : aYv a b = aCv a b := by
  unfold aYv aCv
  rw [hF]
  rcases hb with h | ⟨j, hj, rfl⟩
  · rw [if_pos h, if_pos h]
  · rw [if_neg (nIm j (by omega)), if_neg (nIm j (by omega)), dy_eq (a := upd a 0 2) h6 hs h3 hj]
    have e1 : aDi (upd a 0 2) (nI j) = upd (upd (upd a 0 2) 6 (aAl a (nI j))) 0 (if xBits (aAl a (nI j) &&& a 3) 8 = 0 then 3 else if 2 * xBits (aAl a (nI j) &&& a 3) 8 < xBits (aAl a (nI j)) 8 then 2 else 4) := rfl
    have e2 : aDi a (nI j) 0 = (if xBits (aAl a (nI j) &&& a 3) 8 = 0 then 3 else if 2 * xBits (aAl a (nI j) &&& a 3) 8 < xBits (aAl a (nI j)) 8 then 1 else 4) := by rw [← h0]; rfl
    have e3 : ∀ z : Int32, upd (aDi a (nI j)) 0 z = upd (upd a 6 (aAl a (nI j))) 0 z := fun z => upd_upd _ _ _ _
    rw [e1, e2, e3, upd_comm a (show (0 : Nat) ≠ 6 by decide), upd_upd]
    congr 1
    split
    · rfl
    · split <;> rfl
theorem cv_in {a g v : Nat → Int32} {tr : Int32} {o : Nat → Bool} {n : Nat} (hI : gIn a g tr v o) (hn : a 2 = nI n) (hn8 : n ≤ 8) (h0 : a 0 = 1) : aYv a (xBM v n).1 = aCv a (xBM v n).1 ∧ gIn (aCv a (xBM v n).1) g tr (iUp vM v 8) (oDi (aF a) o (xBM v n).1) := by
  obtain ⟨p, W, x, y, s, u, cl, hw, hc, ho, hg, ht, i0, i1, i2, i9, iA⟩ := hI
  have hF := i1 h0
  have e9 : a 9 = -1 := by rw [← hF]; rfl
  have eA : a 10 = -1 := by rw [← hF]; rfl
  have hp := hw.2.2.2.2.2.2.2.1
  have hpn : n = p := nI_inj (by omega) (by omega) (hn.symm.trans hw.1)
  subst hpn
  have hs := hw.kd.2
  have hb : (xBM v n).1 = -1 ∨ ∃ j, j < 8 ∧ (xBM v n).1 = nI j := by
    rcases xBM_in v n with h | ⟨j, h1, h2⟩
    · exact Or.inl h
    · exact Or.inr ⟨j, by omega, h2⟩
  have e := cv_eq h0 hF hw.2.2.2.2.1 hs hw.2.1 hb
  refine ⟨e, ?_⟩
  rw [← e]
  unfold aYv oDi
  rcases xBM_in v n with h | ⟨j, hj, h⟩
  · rw [if_pos h, if_pos h]
    exact ⟨n, W, x, y, s, u, cl, hw, hc, ho, hg, ht, (show ¬ (2 : Int32) = 0 by decide), fun h9 => absurd (show (2 : Int32) = 1 from h9) (by decide), fun _ => iUp_idem _ _ _, Or.inl e9, Or.inl eA⟩
  · have hm : ¬ (xBM v n).1 = -1 := by rw [h]; exact nIm j (by omega)
    rw [if_neg hm, if_neg hm, h, dy_eq (a := upd a 0 2) hw.2.2.2.2.1 hs hw.2.1 (by omega), hF]
    have hw2 : gWell (upd a 0 2) n W x y s u := hw
    have d := di_0 (upd a 0 2) (nI j)
    have d2 : (upd a 0 2) 0 = 2 := rfl
    rw [d2] at d
    refine ⟨n, W, x, y, _, u, cl, di_well hw2 hj, hc, di_o (a := upd a 0 2) hw2 hc.1 ho hj, hg, ht, ?_, ?_, fun _ => iUp_idem _ _ _, Or.inl e9, Or.inl eA⟩
    · rcases d with d | d | d <;> rw [d] <;> decide
    · intro h9
      rcases d with d | d | d <;> rw [d] at h9 <;> exact absurd h9 (by decide)
theorem aYl_eq {b : Nat → Int32} {s j : Nat} (h6 : b 6 = nI s) (hs : s < 256) (h4 : b 4 = nI j) (hj : j < 8) : aYl b = upd b 7 (b 7 ||| (if xHas (b 6) (b 4) = true then (if b 10 = -1 then 0 else ((1 : Int32) <<< (b 10 &&& 31))) else 0)) := by
  have e : xHas (b 6) (b 4) = yIn (b 6) (b 4) := by rw [h6, h4]; exact has_in (by omega) hj
  have z : upd b 7 (b 7 ||| 0) = b := upd_self _ (Int32.or_zero).symm
  unfold aYl
  rw [e]
  by_cases c : b 10 = -1
  · rw [if_pos c, if_pos c]
    cases yIn (b 6) (b 4) with
    | true => rw [if_pos rfl, z]
    | false => rw [if_neg (by decide), z]
  · rw [if_neg c, if_neg c]
    cases yIn (b 6) (b 4) with
    | true => rfl
    | false => rw [if_neg (by decide), if_neg (by decide), z]
theorem xDead_in {a : Nat → Int32} {p : Nat} (h : a 9 = -1 ∨ ∃ j, j < p ∧ a 9 = nI j) : xDead a = -1 ∨ ∃ j, j < p ∧ xDead a = nI j := by
  unfold xDead
  split
  · exact Or.inl rfl
  · exact h
theorem en_in {a g v : Nat → Int32} {tr : Int32} {o : Nat → Bool} (hI : gIn a g tr v o) (h0 : a 0 = 2) : aYe a = aEn a ∧ gIn (aEn a) g tr v (oDi a o (xDead a)) ∧ iUp vM v 8 = v := by
  obtain ⟨p, W, x, y, s, u, cl, hw, hc, ho, hg, ht, i0, i1, i2, i9, iA⟩ := hI
  have hs := hw.kd.2
  have hp := hw.2.2.2.2.2.2.2.1
  have k : ∃ s2, gWell (aD1 a) p W x y s2 u ∧ (∀ n, n < 16384 → oDi a o (xDead a) n = (cl n && yAgr (yEnc n) (nI (eN W x y)) (yKd (aD1 a)))) ∧ aY1 a = aD1 a ∧ (aD1 a 0 = 2 ∨ aD1 a 0 = 3 ∨ aD1 a 0 = 4) ∧ aD1 a 10 = a 10 := by
    unfold aD1 aY1 oDi
    rcases xDead_in i9 with h | ⟨j, hj, h⟩
    · rw [if_pos h, if_pos h, if_pos h]
      exact ⟨s, hw, ho, rfl, Or.inl h0, rfl⟩
    · have hm : ¬ xDead a = -1 := by rw [h]; exact nIm j (by omega)
      rw [if_neg hm, if_neg hm, if_neg hm, h]
      have d := di_0 a (nI j)
      rw [h0] at d
      exact ⟨_, di_well hw hj, di_o hw hc.1 ho hj, dy_eq hw.2.2.2.2.1 hs hw.2.1 (by omega), d, rfl⟩
  obtain ⟨s2, w2, o2, e1, d, eA⟩ := k
  have hs2 := w2.kd.2
  have hx8 : x < 8 := by have := w2.2.2.2.2.2.2.2.2.2.2.1; omega
  have e2 : aY2 a = aD2 a := by
    unfold aY2 aD2
    rw [e1]
    split
    · rw [aYl_eq w2.2.2.2.2.1 hs2 w2.2.2.1 hx8]
      exact upd_comm _ (by decide) _ _
    · rfl
  refine ⟨by unfold aYe aEn; rw [e2], ?_, i2 h0⟩
  unfold aEn
  have hz : ∃ u2, gWell (aD2 a) p W x y s2 u2 ∧ yKd (aD2 a) = yKd (aD1 a) ∧ (aD2 a 0 = 1 ∨ aD2 a 0 = 3 ∨ aD2 a 0 = 4) := by
    unfold aD2
    split
    · obtain ⟨h2, h3, h4, h5, h6, h7, k1, k2, k3, k4, k5, k6, k7, k8, k9, kA⟩ := w2
      have hu : ∃ u2, u2 < 256 ∧ (aD1 a 7 ||| (if xHas (aD1 a 6) (aD1 a 4) = true then (if aD1 a 10 = -1 then 0 else ((1 : Int32) <<< (aD1 a 10 &&& 31))) else 0)) = nI u2 := by
        rw [h7]
        split
        · split
          · exact ⟨u, kA, Int32.or_zero⟩
          · rename_i c
            rw [eA] at c
            rcases iA with h | ⟨l, hl, h⟩
            · exact absurd h c
            · rw [eA, h]
              have := yOf_n l (by omega)
              unfold yOf at this
              rw [this, nI_or]
              exact ⟨_, Nat.or_lt_two_pow (n := 8) kA (p2_8 l (by omega)), rfl⟩
        · exact ⟨u, kA, Int32.or_zero⟩
      obtain ⟨u2, hu2, eu⟩ := hu
      exact ⟨u2, ⟨h2, h3, h4, h5, h6, eu, k1, k2, k3, k4, k5, k6, k7, k8, k9, hu2⟩, rfl, Or.inl rfl⟩
    · rename_i c
      refine ⟨u, w2, rfl, ?_⟩
      rcases d with d | d | d
      · exact absurd d c
      · exact Or.inr (Or.inl d)
      · exact Or.inr (Or.inr d)
  obtain ⟨u2, w3, ek, d3⟩ := hz
  have e0 : aF (upd (aD2 a) 11 (aD2 a 8)) 0 = aD2 a 0 := rfl
  refine ⟨p, W, x, y, s2, u2, cl, w3, hc, ?_, hg, ht, ?_, fun _ => aF_idem _, ?_, Or.inl rfl, Or.inl rfl⟩
  · intro n hn
    rw [o2 n hn, ← ek]
    rfl
  · rw [e0]
    rcases d3 with d | d | d <;> rw [d] <;> decide
  · rw [e0]
    intro h9
    exact i2 h0
