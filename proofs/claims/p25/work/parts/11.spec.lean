/-! the reference's functions, as its bytecode has them: a is its state (0 phase, 1 day, 2 players, 3 witches, 4 seer, 5 guard, 6 alive, 7 looked, 8 shielded, 9 attacked, 10 watched, 11 shieldedBefore), o its worlds, v its votes -/
theorem geN {i N : Nat} (hi : i ≤ N) (hN : N ≤ 65536) {k : Int32} (hk : k = nI N) (c : k ≤ nI i) : i = N := by
  rw [hk] at c
  have := (nI_leI (by omega) (by omega)).mp c
  omega
theorem ltN {i N : Nat} (hi : i ≤ N) (hN : N ≤ 65536) {k : Int32} (hk : k = nI N) (c : ¬ k ≤ nI i) : i < N := by
  rcases Nat.lt_or_ge i N with h | h
  · exact h
  · exact absurd (by rw [hk]; exact nI_le h (by omega)) c
def xIn (v lo hi : Int32) : Bool := !decide (v < lo) && !decide (hi < v)
def xHas (st q : Int32) : Bool := decide ((st >>> (q &&& 31)) &&& 1 = 1)
def xBits (st : Int32) : Nat → Int32
  | 0 => 0
  | n + 1 => xBits st n + ((st >>> (nI n &&& 31)) &&& 1)
def xPl (a : Nat → Int32) (q : Int32) : Bool := xIn q 0 (a 2 - 1)
def xVw (a : Nat → Int32) (q : Int32) : Bool := decide (q = -1) || xPl a q
def xAll (pl : Int32) : Int32 := ((1 : Int32) <<< (pl &&& 31)) - 1
def xWorld (pl ct st se gu : Int32) : Bool := (xIn st 0 (((1 : Int32) <<< (pl &&& 31)) - 1) && decide (xBits st 8 = ct) && xIn se 0 (pl - 1) && xIn gu 0 (pl - 1)) && !decide (se = gu) && !xHas st se && !xHas st gu
def xRole (wd q : Int32) : Int32 := if xHas (wd / 64) q = true then 1 else if wd / 8 - wd / 8 / 8 * 8 = q then 2 else if wd - wd / 8 * 8 = q then 3 else 0
def xTr (a : Nat → Int32) : Int32 := 64 * a 3 + 8 * a 4 + a 5
def xCnt (o : Nat → Bool) : Nat → Int32
  | 0 => 0
  | n + 1 => xCnt o n + bI (o n)
def xFor (a : Nat → Int32) (o : Nat → Bool) (q : Int32) (n : Nat) : Bool :=
  if o n = false then false else if q = -1 then o n else
    decide (xRole (nI n) q = xRole (xTr a) q) && (!decide (xRole (xTr a) q = 1) || decide (nI n / 64 = a 3)) && (!decide (xRole (xTr a) q = 2) || decide ((nI n / 64) &&& a 7 = a 3 &&& a 7))
def xTrue (wd k q : Int32) : Bool := if k = 0 then decide (xRole wd q = 1) else if k = 1 then !decide (xRole wd q = 1) else if k = 2 then decide (xRole wd q = 2) else decide (xRole wd q = 3)
def xMay (a : Nat → Int32) (q : Int32) (b : Bool) : Bool := decide (a 0 = 1) && xHas (a 6) q && (b || xHas (a 3) q)
/-- the first i places of a row made anew -/
def oUp (nw o : Nat → Bool) (i : Nat) : Nat → Bool := fun n => if n < i then nw n else o n
theorem oUp_0 (nw o : Nat → Bool) : oUp nw o 0 = o := by
  funext n
  simp [oUp]
theorem oUp_at (nw o : Nat → Bool) (i : Nat) : oUp nw o i i = o i := if_neg (Nat.lt_irrefl i)
theorem oUp_step {nw o : Nat → Bool} {i : Nat} {x : Int32} (hx : x = bI (nw i)) : (fun w => bI (oUp nw o (i + 1) w)) = upd (fun w => bI (oUp nw o i w)) i (vp_nar .boolean x) := by
  funext w
  rw [hx, bI_vnar]
  by_cases h : w = i
  · subst h
    simp [oUp, upd]
  · have h2 : (w < i + 1) = (w < i) := propext (by omega)
    simp [oUp, upd, h, h2]
def iUp (nw f : Nat → Int32) (i : Nat) : Nat → Int32 := fun n => if n < i then nw n else f n
theorem iUp_0 (nw f : Nat → Int32) : iUp nw f 0 = f := by
  funext n
  simp [iUp]
theorem iUp_step {nw f : Nat → Int32} {i : Nat} {x : Int32} (hx : x = nw i) : iUp nw f (i + 1) = upd (iUp nw f i) i x := by
  funext w
  rw [hx]
  by_cases h : w = i
  · subst h
    simp [iUp, upd]
  · have h2 : (w < i + 1) = (w < i) := propext (by omega)
    simp [iUp, upd, h, h2]
def xCt (wi : Int32) : Int32 := if 0 ≤ wi then xBits wi 8 else 0
def xGood (pl wi se gu : Int32) : Bool := xIn pl 4 8 && !decide (xCt wi ≤ 0) && !decide (pl ≤ 2 * xCt wi) && xWorld pl (xCt wi) wi se gu
def nW (pl ct : Int32) (n : Nat) : Bool := xWorld pl ct (nI n / 64) (nI n / 8 - nI n / 8 / 8 * 8) (nI n - nI n / 8 * 8)
def vM : Nat → Int32 := fun _ => -1
def aF (a : Nat → Int32) : Nat → Int32 := upd (upd (upd a 8 (-1)) 9 (-1)) 10 (-1)
def aSt (a : Nat → Int32) (pl wi se gu : Int32) : Nat → Int32 := aF (upd (upd (upd (upd (upd (upd (upd (upd (upd a 2 pl) 3 wi) 4 se) 5 gu) 6 (((1 : Int32) <<< (pl &&& 31)) - 1)) 0 1) 1 1) 7 0) 11 (-1))
def kCl (a : Nat → Int32) (q k r : Int32) : Int32 := if a 0 = 0 then 1 else if xPl a q = false then 2 else if xPl a r = false then 2 else if xIn k 0 3 = false then 3 else if xMay a q (xTrue (xTr a) k r) = true then 0 else 4
def nCl (o : Nat → Bool) (q k r : Int32) (n : Nat) : Bool := o n && (xHas (nI n / 64) q || xTrue (nI n) k r)
def kAm (a : Nat → Int32) (q st : Int32) : Int32 := if a 0 = 0 then 1 else if xPl a q = false then 2 else if xIn st 0 (((1 : Int32) <<< (a 2 &&& 31)) - 1) = false then 3 else if xMay a q (!decide (a 3 &&& st = 0)) = true then 0 else 4
def nAm (o : Nat → Bool) (q st : Int32) (n : Nat) : Bool := o n && (xHas (nI n / 64) q || !decide ((nI n / 64) &&& st = 0))
def xMv (v : Nat → Int32) (q : Int32) : Nat → Int32
  | 0 => 0
  | n + 1 => xMv v q n + bI (decide (v n = q))
def kVo (a : Nat → Int32) (q r : Int32) : Int32 := if ¬ a 0 = 1 then 1 else if xPl a q = false then 2 else if xPl a r = false then 2 else if xHas (a 6) q = false then 3 else if xHas (a 6) r = false then 3 else 0
def nDi (a : Nat → Int32) (o : Nat → Bool) (q : Int32) (n : Nat) : Bool := o n && decide (xRole (nI n) q = xRole (xTr a) q)
def aAl (a : Nat → Int32) (q : Int32) : Int32 := a 6 &&& (((1 : Int32) <<< (q &&& 31)) ^^^ (-1))
def aDi (a : Nat → Int32) (q : Int32) : Nat → Int32 := upd (upd a 6 (aAl a q)) 0 (if xBits (aAl a q &&& a 3) 8 = 0 then 3 else if 2 * xBits (aAl a q &&& a 3) 8 < xBits (aAl a q) 8 then a 0 else 4)
def xBM (v : Nat → Int32) : Nat → Int32 × Int32
  | 0 => (-1, 0)
  | n + 1 => (if xMv v (nI n) 8 ≤ (xBM v n).2 then (if xMv v (nI n) 8 = (xBM v n).2 then -1 else (xBM v n).1) else nI n, if xMv v (nI n) 8 ≤ (xBM v n).2 then (xBM v n).2 else xMv v (nI n) 8)
def aCv (a : Nat → Int32) (b : Int32) : Nat → Int32 := if b = -1 then upd (aF a) 0 2 else upd (aDi (aF a) b) 0 (if aDi (aF a) b 0 = 1 then 2 else aDi (aF a) b 0)
def oDi (a : Nat → Int32) (o : Nat → Bool) (b : Int32) : Nat → Bool := if b = -1 then o else oUp (nDi a o b) o 16384
def kPr (a : Nat → Int32) (q : Int32) : Int32 := if ¬ a 0 = 2 then 1 else if xHas (a 6) (a 5) = false then 1 else if xPl a q = false then 2 else if xHas (a 6) q = false then 3 else if q = a 11 then 3 else 0
def kAt (a : Nat → Int32) (q : Int32) : Int32 := if ¬ a 0 = 2 then 1 else if xPl a q = false then 2 else if xHas (a 6) q = false then 3 else if xHas (a 3) q = true then 3 else 0
def kLo (a : Nat → Int32) (q : Int32) : Int32 := if ¬ a 0 = 2 then 1 else if xHas (a 6) (a 4) = false then 1 else if xPl a q = false then 2 else if xHas (a 6) q = false then 3 else if q = a 4 then 3 else 0
def xDead (a : Nat → Int32) : Int32 := if a 9 = a 8 then -1 else a 9
def aD1 (a : Nat → Int32) : Nat → Int32 := if xDead a = -1 then a else aDi a (xDead a)
def aD2 (a : Nat → Int32) : Nat → Int32 := if aD1 a 0 = 2 then upd (upd (upd (aD1 a) 7 (aD1 a 7 ||| (if xHas (aD1 a 6) (aD1 a 4) = true then (if aD1 a 10 = -1 then 0 else ((1 : Int32) <<< (aD1 a 10 &&& 31))) else 0))) 0 1) 1 (aD1 a 1 + 1) else aD1 a
def aEn (a : Nat → Int32) : Nat → Int32 := aF (upd (aD2 a) 11 (aD2 a 8))
def kGm (a : Nat → Int32) : Int32 := if a 0 = 0 then 1 else 0
def xGm (a : Nat → Int32) : Bool := !decide (a 0 = 0)
def kAs (a : Nat → Int32) (q : Int32) : Int32 := if a 0 = 0 then 1 else if xVw a q = true then 0 else 2
def kVf (a : Nat → Int32) (q : Int32) : Int32 := if a 0 = 0 then 1 else if xPl a q = true then 0 else 2
def kWw (a : Nat → Int32) (q r k : Int32) : Int32 := if a 0 = 0 then 1 else if xVw a q = false then 2 else if xPl a r = false then 2 else if xIn k 0 3 = true then 0 else 3
def kPo (a : Nat → Int32) (q r t : Int32) : Int32 := if a 0 = 0 then 1 else if xVw a q = false then 2 else if xPl a r = false then 2 else if xPl a t = true then 0 else 2
def xWt (a : Nat → Int32) (o : Nat → Bool) (q r k : Int32) (n : Nat) : Bool := o n && decide (xRole (nI n) r = k) && xFor a o q n
def xSm (a : Nat → Int32) (o : Nat → Bool) (q : Int32) (b : Bool) : Nat → Int32
  | 0 => 0
  | n + 1 => if xFor a o q n = true then xSm a o q b n ||| (if b = true then nI n / 64 else (nI n / 64) ^^^ (-1)) else xSm a o q b n
def xAny (a : Nat → Int32) (o : Nat → Bool) (q : Int32) (t : Nat) : Nat → Bool
  | 0 => false
  | n + 1 => xAny a o q t n || xFor a o q (64 * t + n)
def xWs (a : Nat → Int32) (o : Nat → Bool) (q : Int32) : Nat → Int32
  | 0 => 0
  | n + 1 => xWs a o q n + bI (xAny a o q n 64)
def xNw (a : Nat → Int32) (o : Nat → Bool) (q : Int32) (n : Nat) : Int32 := xCnt (xWt a o q (nI n) 1) 16384
def xSus (a : Nat → Int32) (f : Nat → Int32) (q : Int32) : Nat → Int32
  | 0 => -1
  | n + 1 => if xHas (a 6) (nI n) = false then xSus a f q n else if nI n = q then xSus a f q n else if xSus a f q n = -1 then nI n else if f n ≤ f (xSus a f q n).toNatClampNeg then xSus a f q n else nI n
theorem xSus_in (a : Nat → Int32) (f : Nat → Int32) (q : Int32) : ∀ n, ¬ xSus a f q n = -1 → ∃ j, j < n ∧ xSus a f q n = nI j := by
  intro n
  induction n with
  | zero => intro h; exact absurd rfl h
  | succ n ih =>
    intro h
    have up : (¬ xSus a f q n = -1 → ∃ j, j < n + 1 ∧ xSus a f q n = nI j) := fun h2 => by
      obtain ⟨j, h3, h4⟩ := ih h2
      exact ⟨j, by omega, h4⟩
    unfold xSus at h ⊢
    split
    · rename_i h1; rw [if_pos h1] at h; exact up h
    · rename_i h1
      rw [if_neg h1] at h
      split
      · rename_i h2; rw [if_pos h2] at h; exact up h
      · rename_i h2
        rw [if_neg h2] at h
        split
        · exact ⟨n, by omega, rfl⟩
        · rename_i h3
          split
          · exact up h3
          · exact ⟨n, by omega, rfl⟩
def xBl (a : Nat → Int32) (f : Nat → Int32) (al : Int32) : Nat → Int32 × Int32
  | 0 => (-1, 0)
  | n + 1 =>
    if xHas (a 6) (nI n) = false then xBl a f al n else if nI n = a 4 then xBl a f al n else
      if (xBl a f al n).1 = -1 then (nI n, if f n ≤ al - f n then al - f n else f n) else if (xBl a f al n).2 ≤ (if f n ≤ al - f n then al - f n else f n) then xBl a f al n else (nI n, if f n ≤ al - f n then al - f n else f n)
theorem wsE (i : Nat) : nI (64 * i + 0) = 64 * nI i := by
  rw [Nat.add_zero]
  exact (pk_mul 64 i).symm
theorem wsB (i : Nat) : 64 * nI i + 64 = nI (64 * i + 64) := by
  rw [show (64 : Int32) = nI 64 from rfl, pk_mul, nI_add]
theorem wsG {i j : Nat} (hi : i < 256) (hj : j ≤ 64) (c : 64 * nI i + 64 ≤ nI (64 * i + j)) : 64 = j := by
  rw [wsB] at c
  have := (nI_leI (by omega) (by omega)).mp c
  omega
theorem wsL {i j : Nat} (hi : i < 256) (hj : j ≤ 64) (c : ¬ 64 * nI i + 64 ≤ nI (64 * i + j)) : j < 64 := by
  rcases Nat.lt_or_ge j 64 with h | h
  · exact h
  · exact absurd (by rw [wsB]; exact nI_le (by omega) (by omega)) c
theorem poE (t r u : Nat) : 64 * nI t + 8 * nI r + nI u = nI (64 * t + 8 * r + u) := by
  rw [show (64 : Int32) = nI 64 from rfl, show (8 : Int32) = nI 8 from rfl, pk_mul, pk_mul, nI_add, nI_add]
