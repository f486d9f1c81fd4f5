/-! the reference's small functions, as its bytecode has them -/
theorem geN {i N : Nat} (hi : i ≤ N) (hN : N ≤ 65536) {k : Int32} (hk : k = nI N) (c : k ≤ nI i) : i = N := by
  rw [hk] at c
  have := (nI_leI (by omega) (by omega)).mp c
  omega
theorem ltN {i N : Nat} (hi : i ≤ N) (hN : N ≤ 65536) {k : Int32} (hk : k = nI N) (c : ¬ k ≤ nI i) : i < N := by
  rcases Nat.lt_or_ge i N with h | h
  · exact h
  · exact absurd (by rw [hk]; exact nI_le h (by omega)) c
def xIn (v lo hi : Int32) : Bool := !decide (v < lo) && !decide (hi < v)
def xHas (st q : Int32) : Bool := decide ((st >>> (q &&& 31)) &&& 1 = 1)
def xBits (st : Int32) : Nat → Int32
  | 0 => 0
  | n + 1 => xBits st n + ((st >>> (nI n &&& 31)) &&& 1)
def xPl (a : Nat → Int32) (q : Int32) : Bool := xIn q 0 (a 2 - 1)
def xVw (a : Nat → Int32) (q : Int32) : Bool := decide (q = -1) || xPl a q
