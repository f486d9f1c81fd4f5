/-! how many sets of witches: both sides -/
theorem bC_0 : ∀ n, bC 0 n = 0 := by
  intro n
  induction n with
  | zero => rfl
  | succ n ih => unfold bC; rw [ih, Nat.zero_testBit]; rfl
section Sets
variable {a : Nat → Int32} {cl o : Nat → Bool} {p W x y s u : Nat}
/-- the class's way through the worlds -/
def zWs (X : Nat → Bool) : Nat → Int32 × Int32
  | 0 => (0, 0)
  | n + 1 => if X n = true then (if nI n / 64 = (zWs X n).2 then zWs X n else ((zWs X n).1 + 1, nI n / 64)) else zWs X n
theorem zWs_succ (X : Nat → Bool) (n : Nat) : zWs X (n + 1) = if X n = true then (if nI n / 64 = (zWs X n).2 then zWs X n else ((zWs X n).1 + 1, nI n / 64)) else zWs X n := rfl
theorem xWs_succ (q : Int32) (n : Nat) : xWs a o q (n + 1) = xWs a o q n + bI (xAny a o q n 64) := rfl
theorem xAny_succ (q : Int32) (t n : Nat) : xAny a o q t (n + 1) = (xAny a o q t n || xFor a o q (64 * t + n)) := rfl
theorem ycs_eq (h : gWell a p W x y s u) (hc : ∀ n, n < 16384 → cl n = true → wN p (bC W 8) n = true) (ho : ∀ n, n < 16384 → o n = (cl n && yAgr (yEnc n) (nI (eN W x y)) (yKd a))) {q : Int32} (hq : yVw a q = true) : ∀ n, n ≤ 16384 → yCs (pgF cl 16384) (nI (eN W x y)) (yKn a q) (nCt cl n) = zWs (xFor a o q) n := by
  intro n hn
  rw [yCs_fo, wFo_pg _ _ cl 16384 n hn]
  induction n with
  | zero => rfl
  | succ n ih =>
    have h1 := ih (by omega)
    have hf := xFor_n h hc ho hq (show n < 16384 by omega)
    unfold wFw zWs
    rw [h1, hf, enc_255 (by omega)]
    cases cl n with
    | false => rfl
    | true =>
      cases yAgr (yEnc n) (nI (eN W x y)) (yKn a q) with
      | false => rfl
      | true => rfl
theorem zWs_blk {q : Int32} {T l : Nat} {c : Int32} (hT : T < 256) (hl : l < T ∨ l = 0) (hz : ∀ n, n < 64 → xFor a o q n = false) (h0 : zWs (xFor a o q) (64 * T) = (c, nI l)) : ∀ j, j ≤ 64 → zWs (xFor a o q) (64 * T + j) = if xAny a o q T j = true then (c + 1, nI T) else (c, nI l) := by
  intro j
  induction j with
  | zero => intro _; exact h0
  | succ j ih =>
    intro hj
    have h1 := ih (by omega)
    have e : nI (64 * T + j) / 64 = nI T := by rw [wdT (by omega), show (64 * T + j) / 64 = T by omega]
    rw [← Nat.add_assoc, zWs_succ, e, h1]
    rw [xAny_succ]
    cases hx : xFor a o q (64 * T + j) with
    | false => rw [Bool.or_false, if_neg (by decide)]
    | true =>
      have hT0 : T ≠ 0 := fun h2 => by
        subst h2
        rw [hz _ (by omega)] at hx
        cases hx
      have h3 : l < T := by omega
      have h4 : ¬ nI T = nI l := fun h5 => by have := nI_inj (by omega) (by omega) h5; omega
      rw [Bool.or_true, if_pos rfl, if_pos rfl]
      cases xAny a o q T j with
      | false => exact if_neg h4
      | true => exact if_pos rfl
theorem zWs_all {q : Int32} (hz : ∀ n, n < 64 → xFor a o q n = false) : ∀ T, T ≤ 256 → ∃ l, (l < T ∨ l = 0) ∧ zWs (xFor a o q) (64 * T) = (xWs a o q T, nI l) := by
  intro T
  induction T with
  | zero => intro _; exact ⟨0, Or.inr rfl, rfl⟩
  | succ T ih =>
    intro hT
    obtain ⟨l, hl, h1⟩ := ih (by omega)
    have h2 := zWs_blk (by omega) hl hz h1 64 (Nat.le_refl _)
    rw [show 64 * (T + 1) = 64 * T + 64 by omega, h2]
    rw [xWs_succ]
    cases hx : xAny a o q T 64 with
    | false =>
      exact ⟨l, by omega, by rw [if_neg (by decide), show bI false = 0 from rfl, Int32.add_zero]⟩
    | true => exact ⟨T, by omega, by rw [if_pos rfl]; rfl⟩
theorem wse_eq (h : gWell a p W x y s u) (hc : ∀ n, n < 16384 → cl n = true → wN p (bC W 8) n = true) (ho : ∀ n, n < 16384 → o n = (cl n && yAgr (yEnc n) (nI (eN W x y)) (yKd a))) {q : Int32} (hq : yVw a q = true) : (yCs (pgF cl 16384) (nI (eN W x y)) (yKn a q) (nCt cl 16384)).1 = xWs a o q 256 := by
  have hz : ∀ n, n < 64 → xFor a o q n = false := by
    intro n hn
    rw [xFor_n h hc ho hq (by omega)]
    cases hcl : cl n with
    | false => rfl
    | true =>
      obtain ⟨_, _, h1, _⟩ := wN_ok (show n < 16384 by omega) (hc n (by omega) hcl)
      rw [show n / 64 = 0 by omega, bC_0] at h1
      obtain ⟨_, _, _, _, _, _, _, _, _, _, _, _, h2, _⟩ := h
      omega
  obtain ⟨l, _, h1⟩ := zWs_all hz 256 (Nat.le_refl _)
  rw [ycs_eq h hc ho hq 16384 (Nat.le_refl _), show (16384 : Nat) = 64 * 256 by decide, h1]
end Sets
