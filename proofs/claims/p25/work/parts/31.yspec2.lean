/-! the book's rows: how they are laid, and struck out -/
def pAc (q bits : Int32) (b : Bool) (x : Int32) : Bool := yAg x q bits b
/-- a world's number (64 * witches + 8 * seer + guard) as the book has it -/
def yEnc (n : Nat) : Int32 := yWo (nI (n / 64)) (nI (n / 8 % 8)) (nI (n % 8))
theorem yEnc_at {W x y : Nat} (hx : x < 8) (hy : y < 8) : yEnc (64 * W + (8 * x + y)) = yWo (nI W) (nI x) (nI y) := by
  unfold yEnc
  rw [show (64 * W + (8 * x + y)) / 64 = W by omega, show (64 * W + (8 * x + y)) / 8 % 8 = x by omega, show (64 * W + (8 * x + y)) % 8 = y by omega]
def pgF (P : Nat → Bool) : Nat → Nat → Int32
  | 0 => fun _ => 0
  | n + 1 => if P n = true then upd (pgF P n) (nCt P n) (yEnc n) else pgF P n
theorem nCt_succ (P : Nat → Bool) (n : Nat) : nCt P (n + 1) = nCt P n + (if P n = true then 1 else 0) := rfl
theorem nCt_mono (P : Nat → Bool) {a b : Nat} (h : a ≤ b) : nCt P a ≤ nCt P b := by
  induction b with
  | zero => have : a = 0 := by omega
            subst this; exact Nat.le_refl _
  | succ b ih =>
    rcases Nat.lt_or_ge b a with h2 | h2
    · have : a = b + 1 := by omega
      subst this; exact Nat.le_refl _
    · have := ih h2
      rw [nCt_succ]
      omega
theorem nCt_lt {P : Nat → Bool} {a b : Nat} (h : a < b) (hp : P a = true) : nCt P a < nCt P b := by
  have h1 := nCt_mono P (show a + 1 ≤ b from h)
  have h2 : nCt P (a + 1) = nCt P a + 1 := by simp [nCt, hp]
  omega
theorem nCt_skip {P : Nat → Bool} {a : Nat} : ∀ {b : Nat}, a ≤ b → (∀ n, a ≤ n → n < b → P n = false) → nCt P b = nCt P a := by
  intro b
  induction b with
  | zero => intro h _
            have : a = 0 := by omega
            subst this; rfl
  | succ b ih =>
    intro h hp
    rcases Nat.lt_or_ge b a with h2 | h2
    · have : a = b + 1 := by omega
      subst this; rfl
    · have h3 := ih h2 (fun n h4 h5 => hp n h4 (by omega))
      have h4 := hp b h2 (by omega)
      simp [nCt, h4, h3]
theorem pgF_skip {P : Nat → Bool} {a : Nat} : ∀ {b : Nat}, a ≤ b → (∀ n, a ≤ n → n < b → P n = false) → pgF P b = pgF P a := by
  intro b
  induction b with
  | zero => intro h _
            have : a = 0 := by omega
            subst this; rfl
  | succ b ih =>
    intro h hp
    rcases Nat.lt_or_ge b a with h2 | h2
    · have : a = b + 1 := by omega
      subst this; rfl
    · have h3 := ih h2 (fun n h4 h5 => hp n h4 (by omega))
      have h4 := hp b h2 (by omega)
      simp [pgF, h4, h3]
theorem pgF_hi (P : Nat → Bool) : ∀ n j, nCt P n ≤ j → pgF P n j = 0 := by
  intro n
  induction n with
  | zero => intro j _; rfl
  | succ n ih =>
    intro j hj
    have hm := nCt_mono P (show n ≤ n + 1 by omega)
    unfold pgF
    split
    · rename_i hp
      have : nCt P (n + 1) = nCt P n + 1 := by simp [nCt, hp]
      simp only [upd]
      rw [if_neg (by omega)]
      exact ih j (by omega)
    · exact ih j (by omega)
theorem pgF_at (P : Nat → Bool) : ∀ n a, a < n → P a = true → pgF P n (nCt P a) = yEnc a := by
  intro n
  induction n with
  | zero => intro a h; exact absurd h (Nat.not_lt_zero _)
  | succ n ih =>
    intro a ha hp
    rcases Nat.lt_or_ge a n with h | h
    · have h1 := ih a h hp
      unfold pgF
      split
      · have h2 := nCt_lt h hp
        simp only [upd]
        rw [if_neg (by omega)]
        exact h1
      · exact h1
    · have : a = n := by omega
      subst this
      unfold pgF
      rw [if_pos hp]
      simp [upd]
theorem nCt_kth {P : Nat → Bool} : ∀ {n k : Nat}, k < nCt P n → ∃ a, a < n ∧ P a = true ∧ nCt P a = k := by
  intro n
  induction n with
  | zero => intro k h; exact absurd h (Nat.not_lt_zero _)
  | succ n ih =>
    intro k h
    rcases Nat.lt_or_ge k (nCt P n) with h2 | h2
    · obtain ⟨a, h3, h4, h5⟩ := ih h2
      exact ⟨a, by omega, h4, h5⟩
    · have h3 : P n = true := by
        cases hp : P n with
        | true => rfl
        | false =>
          rw [nCt_succ, hp] at h
          simp only [Bool.false_eq_true, if_false] at h
          omega
      have h4 : nCt P (n + 1) = nCt P n + 1 := by simp [nCt, h3]
      exact ⟨n, by omega, h3, by omega⟩
/-- what a row of the book is where the worlds P are in it -/
theorem pgF_ok {P : Nat → Bool} (hE : ∀ a, P a = true → ¬ yEnc a = 0) (n : Nat) : (∀ j, j < nCt P n → ¬ pgF P n j = 0) ∧ (nCt P n < 1120 → pgF P n (nCt P n) = 0) := by
  refine ⟨fun j hj => ?_, fun _ => pgF_hi P n _ (Nat.le_refl _)⟩
  obtain ⟨a, h1, h2, h3⟩ := nCt_kth hj
  rw [← h3, pgF_at P n a h1 h2]
  exact hE a h2
/-- striking out leaves the rows of the worlds that are left -/
theorem nCt_and (P Q : Nat → Bool) : ∀ n, nCt (fun a => P a && Q a) n ≤ nCt P n := by
  intro n
  induction n with
  | zero => exact Nat.le_refl _
  | succ n ih =>
    rw [nCt_succ, nCt_succ]
    exact Nat.add_le_add ih (by cases P n <;> cases Q n <;> decide)
theorem kcF_hi (X : Int32 → Bool) (g : Nat → Int32) : ∀ n j, nCt (kcP X g) n ≤ j → j < n → kcF X g n j = 0 := by
  intro n
  induction n with
  | zero => intro j _ h; exact absurd h (Nat.not_lt_zero _)
  | succ n ih =>
    intro j h1 h2
    have hm := nCt_mono (kcP X g) (show n ≤ n + 1 by omega)
    have hl := nCt_le (kcP X g) n
    unfold kcF
    split
    · rename_i hx
      have h3 : nCt (kcP X g) (n + 1) = nCt (kcP X g) n + 1 := by simp [nCt, kcP, hx]
      simp only [upd]
      rw [if_neg (by omega)]
      by_cases h4 : j = n
      · rw [if_pos h4]
      · rw [if_neg h4]; exact ih j (by omega) (by omega)
    · simp only [upd]
      by_cases h4 : j = n
      · rw [if_pos h4]
      · rw [if_neg h4]; exact ih j (by omega) (by omega)
theorem kcF_in (X : Int32 → Bool) (g : Nat → Int32) : ∀ n a, a < n → X (g a) = true → kcF X g n (nCt (kcP X g) a) = g a := by
  intro n
  induction n with
  | zero => intro a h; exact absurd h (Nat.not_lt_zero _)
  | succ n ih =>
    intro a ha hx
    have hla := nCt_le (kcP X g) a
    rcases Nat.lt_or_ge a n with h | h
    · have h1 := ih a h hx
      have h2 : nCt (kcP X g) a < nCt (kcP X g) n := nCt_lt h hx
      have hl := nCt_le (kcP X g) n
      unfold kcF
      split
      · simp only [upd]
        rw [if_neg (by omega), if_neg (by omega)]
        exact h1
      · simp only [upd]
        rw [if_neg (by omega)]
        exact h1
    · have : a = n := by omega
      subst this
      unfold kcF
      rw [if_pos hx]
      simp [upd]
/-- how many of the first rows that stay, by the worlds -/
theorem kc_count {P : Nat → Bool} {X : Int32 → Bool} {N : Nat} : ∀ n, n ≤ N → nCt (kcP X (pgF P N)) (nCt P n) = nCt (fun a => P a && X (yEnc a)) n := by
  intro n
  induction n with
  | zero => intro _; rfl
  | succ n ih =>
    intro hn
    have h1 := ih (by omega)
    cases hp : P n with
    | false => simp [nCt, hp, h1]
    | true =>
      have h2 : nCt P (n + 1) = nCt P n + 1 := by simp [nCt, hp]
      rw [h2]
      have h3 : kcP X (pgF P N) (nCt P n) = X (yEnc n) := by
        unfold kcP
        rw [pgF_at P N n (by omega) hp]
      simp [nCt, h3, h1, hp]
theorem kc_pgF {P : Nat → Bool} {X : Int32 → Bool} {N : Nat} : kcF X (pgF P N) (nCt P N) = pgF (fun a => P a && X (yEnc a)) N := by
  funext j
  have hc := kc_count (P := P) (X := X) N (Nat.le_refl N)
  rcases Nat.lt_or_ge j (nCt (fun a => P a && X (yEnc a)) N) with h | h
  · obtain ⟨a, h1, h2, h3⟩ := nCt_kth h
    have hpx : P a = true ∧ X (yEnc a) = true := by simpa using h2
    rw [← h3, pgF_at _ N a h1 h2]
    have h4 := pgF_at P N a h1 hpx.1
    have h5 := kcF_in X (pgF P N) (nCt P N) (nCt P a) (nCt_lt h1 hpx.1) (by rw [h4]; exact hpx.2)
    rw [kc_count a (by omega)] at h5
    rw [h5, h4]
  · rw [pgF_hi _ N j h]
    rcases Nat.lt_or_ge j (nCt P N) with h2 | h2
    · exact kcF_hi X (pgF P N) (nCt P N) j (by rw [hc]; exact h) h2
    · rw [kcF_ge X (pgF P N) (nCt P N) j h2]
      exact pgF_hi P N j h2
theorem allE : ∀ n, n ≤ 8 → xAll (nI n) = nI (2 ^ n - 1) ∧ 1 ≤ 2 ^ n ∧ 2 ^ n ≤ 256 := by
  intro n hn
  have : n = 0 ∨ n = 1 ∨ n = 2 ∨ n = 3 ∨ n = 4 ∨ n = 5 ∨ n = 6 ∨ n = 7 ∨ n = 8 := by omega
  rcases this with h | h | h | h | h | h | h | h | h <;> subst h <;> exact ⟨by decide, by decide, by decide⟩
theorem opG {n i : Nat} (hn : n ≤ 8) (hi : i ≤ 2 ^ n) (c : xAll (nI n) < nI i) : i = 2 ^ n := by
  obtain ⟨h1, h2, h3⟩ := allE n hn
  rw [h1] at c
  have := (nI_ltI (by omega) (by omega)).mp c
  omega
theorem opL {n i : Nat} (hn : n ≤ 8) (hi : i ≤ 2 ^ n) (c : ¬ xAll (nI n) < nI i) : i < 2 ^ n := by
  obtain ⟨h1, h2, h3⟩ := allE n hn
  rcases Nat.lt_or_ge i (2 ^ n) with h | h
  · exact h
  · exact absurd (by rw [h1]; exact nI_lt (by omega) (by omega)) c
theorem iUp_all {g : Nat → Int32} (h : ∀ j, 1120 ≤ j → g j = 0) : iUp (fun _ => 0) g 1120 = fun _ => 0 := by
  funext j
  unfold iUp
  split
  · rfl
  · exact h j (by omega)
theorem upd_comm (a : Nat → Int32) {i j : Nat} (h : i ≠ j) (x y : Int32) : upd (upd a i x) j y = upd (upd a j y) i x := by
  funext k
  simp only [upd]
  by_cases h1 : k = i
  · subst h1; simp [h]
  · by_cases h2 : k = j
    · subst h2; simp [h1]
    · simp [h1, h2]
theorem upd_self (a : Nat → Int32) {i : Nat} {x : Int32} (h : a i = x) : upd a i x = a := by
  funext k
  simp only [upd]
  by_cases h1 : k = i
  · subst h1; simp [h]
  · simp [h1]
def aYd (a : Nat → Int32) (q : Int32) : Nat → Int32 := if yPop (aAl a q &&& a 3) = 0 then upd (upd a 6 (aAl a q)) 0 3 else if yPop (aAl a q &&& a 3) < yPop (aAl a q &&& (a 3 ^^^ (-1))) then upd a 6 (aAl a q) else upd (upd a 6 (aAl a q)) 0 4
def aYl (a : Nat → Int32) : Nat → Int32 := if a 10 = -1 then a else if yIn (a 6) (a 4) = true then upd a 7 (a 7 ||| yOf (a 10)) else a
def aYv (a : Nat → Int32) (b : Int32) : Nat → Int32 := if b = -1 then upd a 0 2 else aYd (upd a 0 2) b
def aY1 (a : Nat → Int32) : Nat → Int32 := if xDead a = -1 then a else aYd a (xDead a)
def aY2 (a : Nat → Int32) : Nat → Int32 := if aY1 a 0 = 2 then upd (upd (aYl (aY1 a)) 1 (aYl (aY1 a) 1 + 1)) 0 1 else aY1 a
def aYe (a : Nat → Int32) : Nat → Int32 := aF (upd (aY2 a) 11 (aY2 a 8))
def aYs (a : Nat → Int32) (pl wi se gu : Int32) : Nat → Int32 := aF (upd (upd (upd (upd (upd (upd (upd (upd (upd a 2 pl) 3 wi) 4 se) 5 gu) 6 (xAll pl)) 7 0) 1 1) 0 1) 11 (-1))
/-- suspect and bestLook of the class -/
def ySu (a : Nat → Int32) (f : Nat → Int32) (q : Int32) : Nat → Int32 × Int32
  | 0 => (-1, -1)
  | n + 1 => if yIn (a 6) (nI n) = false then ySu a f q n else if nI n = q then ySu a f q n else if f n ≤ (ySu a f q n).2 then ySu a f q n else (nI n, f n)
def yMx (x z : Int32) : Int32 := if x < z then z else x
def yBe (a : Nat → Int32) (f : Nat → Int32) (al : Int32) : Nat → Int32 × Int32
  | 0 => (-1, al + 1)
  | n + 1 => if yIn (a 6) (nI n) = false then yBe a f al n else if nI n = a 4 then yBe a f al n else if (yBe a f al n).2 ≤ yMx (f n) (al - f n) then yBe a f al n else (nI n, yMx (f n) (al - f n))
theorem nCt_t {P : Nat → Bool} {n : Nat} (h : P n = true) : nCt P (n + 1) = nCt P n + 1 := by simp [nCt, h]
theorem nCt_f {P : Nat → Bool} {n : Nat} (h : P n = false) : nCt P (n + 1) = nCt P n := by simp [nCt, h]
theorem pgF_f {P : Nat → Bool} {n : Nat} (h : P n = false) : pgF P (n + 1) = pgF P n := by simp [pgF, h]
theorem pgF_t {P : Nat → Bool} {W x y n : Nat} (hx : x < n) (hy : y < n) (hn : n ≤ 8) (h : P (64 * W + (8 * x + y)) = true) : pgF P (64 * W + (8 * x + (y + 1))) = upd (pgF P (64 * W + (8 * x + y))) (nCt P (64 * W + (8 * x + y))) (yWo (nI W) (nI x) (nI y)) := by
  rw [← yEnc_at (W := W) (show x < 8 by omega) (show y < 8 by omega)]
  show pgF P (64 * W + (8 * x + y) + 1) = _
  simp [pgF, h]
theorem awS {P : Nat → Bool} {W n x : Nat} (hF : ∀ x y, x < 8 → y < 8 → (n ≤ x ∨ n ≤ y) → P (64 * W + (8 * x + y)) = false) (hx : x < n) (hn : n ≤ 8) : ∀ m, 64 * W + (8 * x + n) ≤ m → m < 64 * W + 8 * (x + 1) → P m = false := by
  intro m h1 h2
  have := hF x (m - 64 * W - 8 * x) (by omega) (by omega) (Or.inr (by omega))
  rwa [show 64 * W + (8 * x + (m - 64 * W - 8 * x)) = m by omega] at this
theorem awE {P : Nat → Bool} {W n : Nat} (hF : ∀ x y, x < 8 → y < 8 → (n ≤ x ∨ n ≤ y) → P (64 * W + (8 * x + y)) = false) (hn : n ≤ 8) : ∀ m, 64 * W + 8 * n ≤ m → m < 64 * W + 64 → P m = false := by
  intro m h1 h2
  have := hF ((m - 64 * W) / 8) ((m - 64 * W) % 8) (by omega) (by omega) (Or.inl (by omega))
  rwa [show 64 * W + (8 * ((m - 64 * W) / 8) + (m - 64 * W) % 8) = m by omega] at this
theorem awI {P : Nat → Bool} {m : Nat} (hB : nCt P 16384 ≤ 1120) (h : P m = true) (hm : m < 16384) : nCt P m < 1120 := by
  have := nCt_lt hm h
  omega
theorem awF {P : Nat → Bool} {m : Nat} (hB : nCt P 16384 ≤ 1120) (h : P m = true) (hm : m < 16384) : ¬ (1120 : Int32) ≤ nI (nCt P m) := by
  have := awI hB h hm
  intro c
  have := (nI_leI (a := 1120) (by omega) (by omega)).mp c
  omega
theorem op0 {P : Nat → Bool} {n : Nat} {B : Nat → Prop} (hF : ∀ W x y, W < 256 → x < 8 → y < 8 → (W = 0 ∨ 2 ^ n ≤ W ∨ B W ∨ n ≤ x ∨ n ≤ y) → P (64 * W + (8 * x + y)) = false) : ∀ m, 0 ≤ m → m < 64 * 1 → P m = false := by
  intro m _ h
  have := hF 0 (m / 8) (m % 8) (by omega) (by omega) (by omega) (Or.inl rfl)
  rwa [show 64 * 0 + (8 * (m / 8) + m % 8) = m by omega] at this
theorem opE {P : Nat → Bool} {n : Nat} {B : Nat → Prop} (hF : ∀ W x y, W < 256 → x < 8 → y < 8 → (W = 0 ∨ 2 ^ n ≤ W ∨ B W ∨ n ≤ x ∨ n ≤ y) → P (64 * W + (8 * x + y)) = false) : ∀ m, 64 * 2 ^ n ≤ m → m < 16384 → P m = false := by
  intro m h1 h2
  have := hF (m / 64) (m / 8 % 8) (m % 8) (by omega) (by omega) (by omega) (Or.inr (Or.inl (by omega)))
  rwa [show 64 * (m / 64) + (8 * (m / 8 % 8) + m % 8) = m by omega] at this
theorem opB {P : Nat → Bool} {n i : Nat} {B : Nat → Prop} (hF : ∀ W x y, W < 256 → x < 8 → y < 8 → (W = 0 ∨ 2 ^ n ≤ W ∨ B W ∨ n ≤ x ∨ n ≤ y) → P (64 * W + (8 * x + y)) = false) (hi : i < 256) (hb : B i) : ∀ m, 64 * i ≤ m → m < 64 * (i + 1) → P m = false := by
  intro m h1 h2
  have := hF i (m / 8 % 8) (m % 8) hi (by omega) (by omega) (Or.inr (Or.inr (Or.inl hb)))
  rwa [show 64 * i + (8 * (m / 8 % 8) + m % 8) = m by omega] at this
theorem kcO1 {X : Int32 → Bool} {g : Nat → Int32} {K : Nat} (h : K ≤ 1120) : nCt (kcP X g) K ≤ 1120 := Nat.le_trans (nCt_le _ _) h
theorem kcO2 {X : Int32 → Bool} {g : Nat → Int32} {K : Nat} (hg : ∀ j, j < K → ¬ g j = 0) : ∀ j, j < nCt (kcP X g) K → ¬ kcF X g K j = 0 := by
  intro j hj
  obtain ⟨a, h1, h2, h3⟩ := nCt_kth hj
  rw [← h3, kcF_in X g K a h1 h2]
  exact hg a h1
theorem kcO3 {X : Int32 → Bool} {g : Nat → Int32} {K : Nat} (hK : K ≤ 1120) (hz : K < 1120 → g K = 0) : nCt (kcP X g) K < 1120 → kcF X g K (nCt (kcP X g) K) = 0 := by
  intro h
  rcases Nat.lt_or_ge (nCt (kcP X g) K) K with h2 | h2
  · exact kcF_hi X g K _ (Nat.le_refl _) h2
  · have h3 := nCt_le (kcP X g) K
    have h4 : nCt (kcP X g) K = K := by omega
    rw [h4, kcF_at]
    exact hz (by omega)
theorem aAl_y (a : Nat → Int32) (q : Int32) : aAl a q = a 6 &&& (yOf q ^^^ (-1)) := rfl
