/-! the class's functions, as its bytecode has them -/
def yOf (q : Int32) : Int32 := (1 : Int32) <<< (q &&& 31)
def yIn (st q : Int32) : Bool := !decide (st &&& yOf q = 0)
def yRb (x : Int32) : Int32 := x ||| (x <<< ((8 : Int32) &&& 31)) ||| (x <<< ((16 : Int32) &&& 31))
def yWo (wi se gu : Int32) : Int32 := wi ||| (yOf se <<< ((8 : Int32) &&& 31)) ||| (yOf gu <<< ((16 : Int32) &&& 31))
def yBr (q k : Int32) : Int32 := if k = 1 then yOf q else if k = 2 then yOf q <<< ((8 : Int32) &&& 31) else if k = 3 then yOf q <<< ((16 : Int32) &&& 31) else 0
def yCb (k r : Int32) : Int32 := if k = 2 then yBr r 2 else if k = 3 then yBr r 3 else yBr r 1
def yHo (pl wi q : Int32) : Bool := !decide (q < 0) && !decide (pl ≤ q) && decide (wi &&& yOf q = 0)
def yP1 (x : Int32) : Int32 := x - ((x.toUInt32 >>> ((1 : Int32).toUInt32 &&& Int32.toUInt32 31)).toInt32 &&& 1431655765)
def yP2 (x : Int32) : Int32 := (x &&& 858993459) + ((x.toUInt32 >>> ((2 : Int32).toUInt32 &&& Int32.toUInt32 31)).toInt32 &&& 858993459)
def yP3 (x : Int32) : Int32 := (x + (x.toUInt32 >>> ((4 : Int32).toUInt32 &&& Int32.toUInt32 31)).toInt32) &&& 252645135
def yP4 (x : Int32) : Int32 := x + (x.toUInt32 >>> ((8 : Int32).toUInt32 &&& Int32.toUInt32 31)).toInt32
def yP5 (x : Int32) : Int32 := x + (x.toUInt32 >>> ((16 : Int32).toUInt32 &&& Int32.toUInt32 31)).toInt32
def yPop (x : Int32) : Int32 := yP5 (yP4 (yP3 (yP2 (yP1 x)))) &&& 63
def yGood (pl wi se gu : Int32) : Bool := !decide (pl < 4) && !decide (8 < pl) && decide (wi &&& (xAll pl ^^^ (-1)) = 0) && !decide (wi = 0) && !decide (pl ≤ 2 * yPop wi) && yHo pl wi se && yHo pl wi gu && !decide (se = gu)
def yKd (a : Nat → Int32) : Int32 := yRb (xAll (a 2) &&& (a 6 ^^^ (-1)))
def yKn (a : Nat → Int32) (q : Int32) : Int32 := if q = -1 then yKd a else if yIn (a 3) q = true then (yKd a ||| yRb (yOf q)) ||| 255 else if q = a 4 then (yKd a ||| yRb (yOf q)) ||| a 7 else yKd a ||| yRb (yOf q)
def yPl (a : Nat → Int32) (q : Int32) : Bool := !decide (q < 0) && decide (q < a 2)
def yVw (a : Nat → Int32) (q : Int32) : Bool := decide (q = -1) || yPl a q
theorem sw123 {k : Int32} (h1 : ¬ k = 1) (h2 : ¬ k = 2) (h3 : ¬ k = 3) : k.toInt < 1 ∨ 3 < k.toInt := by
  have g1 : ¬ k.toInt = 1 := fun h => h1 (Int32.toInt_inj.mp h)
  have g2 : ¬ k.toInt = 2 := fun h => h2 (Int32.toInt_inj.mp h)
  have g3 : ¬ k.toInt = 3 := fun h => h3 (Int32.toInt_inj.mp h)
  omega
/-- worlds and the book: wd a world, tr the true one, kn the bits known -/
def yAgr (wd tr kn : Int32) : Bool := decide ((wd ^^^ tr) &&& kn = 0)
def yAg (wd q bits : Int32) (b : Bool) : Bool := !decide (wd &&& yOf q = 0) || ((!decide (wd &&& bits = 0)) == b)
def pAg (g : Nat → Int32) (tr kn : Int32) (n : Nat) : Bool := yAgr (g n) tr kn
def pRo (g : Nat → Int32) (tr kn q k : Int32) (n : Nat) : Bool := decide (g n &&& yRb (yOf q) = yBr q k) && yAgr (g n) tr kn
def yWa (g : Nat → Int32) (tr kn : Int32) : Nat → Int32
  | 0 => 255
  | n + 1 => if yAgr (g n) tr kn = true then yWa g tr kn n &&& (g n &&& 255) else yWa g tr kn n
def yWy (g : Nat → Int32) (tr kn : Int32) : Nat → Int32
  | 0 => 0
  | n + 1 => if yAgr (g n) tr kn = true then yWy g tr kn n ||| (g n &&& 255) else yWy g tr kn n
def yCs (g : Nat → Int32) (tr kn : Int32) : Nat → Int32 × Int32
  | 0 => (0, 0)
  | n + 1 => if yAgr (g n) tr kn = true then (if g n &&& 255 = (yCs g tr kn n).2 then yCs g tr kn n else ((yCs g tr kn n).1 + 1, g n &&& 255)) else yCs g tr kn n
def yHs (g : Nat → Int32) (wd : Int32) : Nat → Bool
  | 0 => false
  | n + 1 => yHs g wd n || decide (g n = wd)
theorem yHs_of {g : Nat → Int32} {wd : Int32} {i : Nat} (h : g i = wd) : ∀ n, i < n → yHs g wd n = true := by
  intro n
  induction n with
  | zero => intro h2; exact absurd h2 (Nat.not_lt_zero _)
  | succ n ih =>
    intro h2
    rcases Nat.lt_or_ge i n with h3 | h3
    · simp [yHs, ih h3]
    · have : i = n := by omega
      subst this
      simp [yHs, h]
/-- how many of the first n, as a number -/
def nCt (P : Nat → Bool) : Nat → Nat
  | 0 => 0
  | n + 1 => nCt P n + (if P n = true then 1 else 0)
theorem nCt_le (P : Nat → Bool) : ∀ n, nCt P n ≤ n := by
  intro n
  induction n with
  | zero => exact Nat.le_refl _
  | succ n ih => unfold nCt; split <;> omega
/-- the book where a claim strikes out: after the first n pages -/
def kcP (P : Int32 → Bool) (g : Nat → Int32) (n : Nat) : Bool := P (g n)
def kcF (P : Int32 → Bool) (g : Nat → Int32) : Nat → Nat → Int32
  | 0 => g
  | n + 1 => if P (g n) = true then upd (upd (kcF P g n) n 0) (nCt (kcP P g) n) (g n) else upd (kcF P g n) n 0
theorem kcF_ge (P : Int32 → Bool) (g : Nat → Int32) : ∀ n j, n ≤ j → kcF P g n j = g j := by
  intro n
  induction n with
  | zero => intro j _; rfl
  | succ n ih =>
    intro j hj
    have h1 := nCt_le (kcP P g) n
    unfold kcF
    split
    · simp only [upd]
      rw [if_neg (by omega), if_neg (by omega)]
      exact ih j (by omega)
    · simp only [upd]
      rw [if_neg (by omega)]
      exact ih j (by omega)
theorem kcF_at (P : Int32 → Bool) (g : Nat → Int32) (n : Nat) : kcF P g n n = g n := kcF_ge P g n n (Nat.le_refl _)
theorem kEx1 {i K : Nat} (hi : i ≤ K) (hK : K ≤ 1120) (c : (1120 : Int32) ≤ nI i) : i = K := by
  have := geN (i := i) (N := 1120) (by omega) (by omega) rfl c
  omega
theorem kEx2 {i K : Nat} {g : Nat → Int32} (hi : i ≤ K) (hg : ∀ j, j < K → ¬ g j = 0) (c : g i = 0) : i = K := by
  rcases Nat.lt_or_ge i K with h | h
  · exact absurd c (hg i h)
  · omega
theorem kEx3 {i K : Nat} {g : Nat → Int32} (hi : i ≤ K) (hlt : i < 1120) (hz : K < 1120 → g K = 0) (c : ¬ g i = 0) : i < K := by
  rcases Nat.lt_or_ge i K with h | h
  · exact h
  · have : i = K := by omega
    subst this
    exact absurd (hz hlt) c
