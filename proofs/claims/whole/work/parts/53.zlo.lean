/-! suspect, bestLook, isPossible: both sides' answers -/
theorem xCnt_n (P : Nat → Bool) : ∀ n, xCnt P n = nI (nCt P n) := by
  intro n
  induction n with
  | zero => exact nI_0.symm
  | succ n ih =>
    show xCnt P n + bI (P n) = nI (nCt P n + (if P n = true then 1 else 0))
    rw [ih]
    cases P n with
    | false => rw [show bI false = 0 from rfl, Int32.add_zero, if_neg (by decide), Nat.add_zero]
    | true => rw [show bI true = 1 from rfl, if_pos rfl, nI_1]
theorem nCt_sub {P Q : Nat → Bool} (h : ∀ n, P n = true → Q n = true) : ∀ n, nCt P n ≤ nCt Q n := by
  intro n
  induction n with
  | zero => exact Nat.le_refl _
  | succ n ih =>
    rw [nCt_succ, nCt_succ]
    refine Nat.add_le_add ih ?_
    cases hp : P n with
    | false => simp
    | true => rw [h n hp]; exact Nat.le_refl _
theorem ySu_cong {a : Nat → Int32} {f g : Nat → Int32} {q : Int32} : ∀ n, (∀ j, j < n → f j = g j) → ySu a f q n = ySu a g q n := by
  intro n
  induction n with
  | zero => intro _; rfl
  | succ n ih =>
    intro h
    unfold ySu
    rw [ih (fun j hj => h j (by omega)), h n (by omega)]
theorem yBe_cong {a : Nat → Int32} {f g : Nat → Int32} {al : Int32} : ∀ n, (∀ j, j < n → f j = g j) → yBe a f al n = yBe a g al n := by
  intro n
  induction n with
  | zero => intro _; rfl
  | succ n ih =>
    intro h
    unfold yBe
    rw [ih (fun j hj => h j (by omega)), h n (by omega)]
theorem xBl_cong {a : Nat → Int32} {f g : Nat → Int32} {al : Int32} : ∀ n, (∀ j, j < n → f j = g j) → xBl a f al n = xBl a g al n := by
  intro n
  induction n with
  | zero => intro _; rfl
  | succ n ih =>
    intro h
    unfold xBl
    rw [ih (fun j hj => h j (by omega)), h n (by omega)]
theorem iUp_lt (nw f : Nat → Int32) {i j : Nat} (h : j < i) : iUp nw f i j = nw j := if_pos h
section Look
variable {a : Nat → Int32} {cl o : Nat → Bool} {p W x y s u : Nat}
theorem sus_eq (h : gWell a p W x y s u) (hc : ∀ n, n < 16384 → cl n = true → wN p (bC W 8) n = true) (ho : ∀ n, n < 16384 → o n = (cl n && yAgr (yEnc n) (nI (eN W x y)) (yKd a))) {q : Int32} (hq : yVw a q = true) (mn : Nat → Int32) : (ySu a (fun n9 => xCnt (pRo (pgF cl 16384) (nI (eN W x y)) (yKn a q) (nI n9) 1) (nCt cl 16384)) q p).1 = xSus a (iUp (xNw a o q) mn p) q p := by
  have h6 := h.2.2.2.2.1
  have hp := h.2.2.2.2.2.2.2.1
  have hs := h.kd.2
  have e := ySu_cong (a := a) (f := fun n9 => xCnt (pRo (pgF cl 16384) (nI (eN W x y)) (yKn a q) (nI n9) 1) (nCt cl 16384)) (g := xNw a o q) (q := q) p (fun j hj => wwt_eq h hc ho hq (i := j) (r := 1) (by omega) (by decide))
  rw [e]
  rw [xSus_cong (g := xNw a o q) p hp (fun j hj => iUp_lt _ _ hj)]
  exact (su_eq h6 (by omega) (fun n _ => ⟨_, Nat.lt_of_le_of_lt (nCt_le _ _) (by decide), xCnt_n _ _⟩) p hp).1
theorem bes_eq (h : gWell a p W x y s u) (hc : ∀ n, n < 16384 → cl n = true → wN p (bC W 8) n = true) (ho : ∀ n, n < 16384 → o n = (cl n && yAgr (yEnc n) (nI (eN W x y)) (yKd a))) (mn : Nat → Int32) : (yBe a (fun n9 => xCnt (pRo (pgF cl 16384) (nI (eN W x y)) (yKn a (a 4)) (nI n9) 1) (nCt cl 16384)) (xCnt (pAg (pgF cl 16384) (nI (eN W x y)) (yKn a (a 4))) (nCt cl 16384)) p).1 = (xBl a (iUp (xNw a o (a 4)) mn p) (xCnt (xFor a o (a 4)) 16384) p).1 := by
  have h2 := h.1
  have h6 := h.2.2.2.2.1
  have hp := h.2.2.2.2.2.2.2.1
  have hs := h.kd.2
  have hx := h.2.2.2.2.2.2.2.2.2.2.1
  have hq : yVw a (a 4) = true := by
    unfold yVw
    rw [h.2.2.1, yPl_of h2 hp hx, Bool.or_true]
  have e := yBe_cong (a := a) (f := fun n9 => xCnt (pRo (pgF cl 16384) (nI (eN W x y)) (yKn a (a 4)) (nI n9) 1) (nCt cl 16384)) (g := xNw a o (a 4)) (al := xCnt (pAg (pgF cl 16384) (nI (eN W x y)) (yKn a (a 4))) (nCt cl 16384)) p (fun j hj => wwt_eq h hc ho hq (i := j) (r := 1) (by omega) (by decide))
  rw [e]
  rw [xBl_cong (g := xNw a o (a 4)) p (fun j hj => iUp_lt _ _ hj)]
  rw [wor_eq h hc ho hq, xCnt_n]
  refine (be_eq h6 (by omega) (Nat.lt_of_le_of_lt (nCt_le _ _) (by decide)) (fun n _ => ⟨_, ?_, xCnt_n _ _⟩) p hp).1
  refine nCt_sub (fun m hm => ?_) 16384
  unfold xWt at hm
  simp only [Bool.and_eq_true] at hm
  exact hm.2
theorem eNo {r u : Nat} (hr : r < 8) (hu : u < 8) (t : Nat) : yEnc (64 * t + 8 * r + u) = yWo (nI t) (nI r) (nI u) := by
  rw [Nat.add_assoc]
  exact yEnc_at hr hu
theorem pos_eq (h : gWell a p W x y s u) (hc : ∀ n, n < 16384 → cl n = true → wN p (bC W 8) n = true) (ho : ∀ n, n < 16384 → o n = (cl n && yAgr (yEnc n) (nI (eN W x y)) (yKd a))) {q : Int32} (hq : yVw a q = true) {t r v : Nat} (ht : t < 256) (hr : r < 8) (hv : v < 8) : (yHs (pgF cl 16384) (yWo (nI t) (nI r) (nI v)) (nCt cl 16384) && yAgr (yWo (nI t) (nI r) (nI v)) (nI (eN W x y)) (yKn a q)) = xFor a o q (64 * t + 8 * r + v) := by
  have hn : 64 * t + 8 * r + v < 16384 := by omega
  rw [xFor_n h hc ho hq hn, ← eNo hr hv, yHs_pg hn 16384 (Nat.le_refl _), decide_eq_true hn, Bool.true_and]
theorem m256 : ∀ z : Nat, z < 256 → nI z &&& (-256) = 0 := by
  have k : ∀ z : Fin 256, nI z.val &&& (-256) = 0 := by decide +kernel
  exact fun z h => k ⟨z, h⟩
theorem i_nat (z : Int32) : ∃ w : Nat, z = nI w := ⟨z.toBitVec.toNat, by
  apply Int32.toBitVec_inj.mp
  simp [nI, Int32.toBitVec_ofNat]⟩
/-- within a set of the first n players -/
theorem and_self_of {z m : Int32} (h : z &&& (m ^^^ (-1)) = 0) : z = z &&& m := by
  apply i_ext
  intro i hi
  have h2 := congrArg (fun v : Int32 => v.toBitVec.getLsbD i) h
  have := m1_bit hi
  simp only [Int32.toBitVec_and, Int32.toBitVec_xor, BitVec.getLsbD_and, BitVec.getLsbD_xor, this] at h2 ⊢
  have z0 : (0 : Int32).toBitVec.getLsbD i = false := by
    have k : ∀ j : Fin 32, (0 : Int32).toBitVec.getLsbD j.val = false := by decide +kernel
    exact k ⟨i, hi⟩
  rw [z0] at h2
  revert h2
  cases z.toBitVec.getLsbD i <;> cases m.toBitVec.getLsbD i <;> simp
theorem mk_in {n S : Nat} (hn : n ≤ 8) (h : S < 2 ^ n) : nI S &&& (xAll (nI n) ^^^ (-1)) = 0 := by
  obtain ⟨e, h1, h2⟩ := allE n hn
  rw [e]
  have k : ∀ z : Fin 9, ∀ t : Fin 256, t.val < 2 ^ z.val → nI t.val &&& (nI (2 ^ z.val - 1) ^^^ (-1)) = 0 := by decide +kernel
  exact k ⟨n, by omega⟩ ⟨S, by omega⟩ h
theorem mk_of {n : Nat} (hn : n ≤ 8) {z : Int32} (h : z &&& (xAll (nI n) ^^^ (-1)) = 0) : ∃ S, S < 2 ^ n ∧ z = nI S := by
  obtain ⟨e, h1, h2⟩ := allE n hn
  obtain ⟨w, rfl⟩ := i_nat z
  have h3 := and_self_of h
  rw [e, nI_and, Nat.and_two_pow_sub_one_eq_mod] at h3
  exact ⟨w % 2 ^ n, Nat.mod_lt _ (by omega), h3⟩
theorem xi_of {n : Nat} (hn : n ≤ 8) {z : Int32} (h : xIn z 0 (xAll (nI n)) = true) : ∃ S, S < 2 ^ n ∧ z = nI S := by
  obtain ⟨e, h1, h2⟩ := allE n hn
  have h3 := h
  unfold xIn at h3
  simp only [Bool.and_eq_true, Bool.not_eq_true', decide_eq_false_iff_not] at h3
  obtain ⟨S, hS, rfl⟩ := nI_of h3.1
  rw [e, xIn_n hS (by omega), decide_eq_true_iff] at h
  exact ⟨S, by omega, rfl⟩
theorem xi_in {n S : Nat} (hn : n ≤ 8) (h : S < 2 ^ n) : xIn (nI S) 0 (xAll (nI n)) = true := by
  obtain ⟨e, h1, h2⟩ := allE n hn
  rw [e, xIn_n (by omega) (by omega), decide_eq_true_iff]
  omega
theorem mk_eq {n : Nat} (hn : n ≤ 8) (z : Int32) : decide (z &&& (xAll (nI n) ^^^ (-1)) = 0) = xIn z 0 (xAll (nI n)) := by
  apply Bool.eq_iff_iff.mpr
  rw [decide_eq_true_iff]
  constructor
  · intro h
    obtain ⟨S, hS, rfl⟩ := mk_of hn h
    exact xi_in hn hS
  · intro h
    obtain ⟨S, hS, rfl⟩ := xi_of hn h
    exact mk_in hn hS
theorem posz_eq (h : gWell a p W x y s u) (hc : ∀ n, n < 16384 → cl n = true → wN p (bC W 8) n = true) (ho : ∀ n, n < 16384 → o n = (cl n && yAgr (yEnc n) (nI (eN W x y)) (yKd a))) {q : Int32} (hq : yVw a q = true) {t : Int32} (ht : xIn t 0 (xAll (a 2)) = false) {r v : Nat} (hr : r < 8) (hv : v < 8) : (decide (t &&& (-256) = 0) && (yHs (pgF cl 16384) (yWo t (nI r) (nI v)) (nCt cl 16384) && yAgr (yWo t (nI r) (nI v)) (nI (eN W x y)) (yKn a q))) = false := by
  by_cases c : t &&& (-256) = 0
  · have e256 : (-256 : Int32) = xAll (nI 8) ^^^ (-1) := by decide
    rw [e256] at c
    obtain ⟨S, hS, rfl⟩ := mk_of (Nat.le_refl 8) c
    have hp := h.2.2.2.2.2.2.2.1
    rw [h.1] at ht
    have hn : 64 * S + 8 * r + v < 16384 := by omega
    rw [m256 S hS, decide_eq_true rfl, Bool.true_and, pos_eq h hc ho hq hS hr hv, xFor_n h hc ho hq hn]
    cases hcl : cl (64 * S + 8 * r + v) with
    | false => rfl
    | true =>
      obtain ⟨_, h1, _⟩ := wN_ok hn (hc _ hn hcl)
      rw [show (64 * S + 8 * r + v) / 64 = S by omega] at h1
      rw [xi_in hp h1] at ht
      cases ht
  · rw [decide_eq_false c]; rfl
end Look
