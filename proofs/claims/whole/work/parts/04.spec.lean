/-! What the methods answer, in plain functions: over a fleet as it lies (FR), and over the reference's row 'now' -/
def cnt (b : Nat → Bool) (a : Nat) : Nat → Nat
  | 0 => 0
  | n + 1 => cnt b a n + if b (a + n) then 1 else 0
theorem cnt_le (b : Nat → Bool) (a : Nat) : ∀ n, cnt b a n ≤ n
  | 0 => Nat.le_refl _
  | n + 1 => by have := cnt_le b a n; simp only [cnt]; split <;> omega
theorem cnt_T {b : Nat → Bool} {a n : Nat} (h : b (a + n) = true) : cnt b a (n + 1) = cnt b a n + 1 := by simp [cnt, h]
theorem cnt_F {b : Nat → Bool} {a n : Nat} (h : b (a + n) = false) : cnt b a (n + 1) = cnt b a n := by simp [cnt, h]
def sumI (f : Nat → Int32) : Nat → Int32
  | 0 => 0
  | n + 1 => sumI f n + f n
-- the reference
def ofN (now : Nat → Int32) (s w : Nat) : Int32 := now (1 + 75 * s + w)
def layN (now : Nat → Int32) (s w : Nat) (v : Int32) : Nat → Int32 := upd now (1 + 75 * s + w) v
def mb (now : Nat → Int32) (s n : Nat) : Bool := bt (ofN now s (11 + n / 32)) (n % 32)
def kindN (now : Nat → Int32) (s bay : Nat) : Int32 := ofN now s (3 + bay) - 1
def manyN (now : Nat → Int32) (s bay : Nat) : Nat := cnt (mb now s) (256 * bay) 256
def runB (b : Nat → Bool) (n : Nat) : Bool := b n && (decide (n % 256 = 0) || !b (n - 1))
def runsN (now : Nat → Int32) (s bay : Nat) : Nat := cnt (runB (mb now s)) (256 * bay) 256
def holdsI (kind many runs : Int32) : Bool := if kind = 0 then decide (many ≤ 24) else (decide (kind = 1) || decide (runs ≤ 8))
def unitsI (kind many runs : Int32) : Int32 := if kind = 0 then 2 * many else if kind = 1 then 32 else 3 * runs
def bestI (many runs : Int32) : Int32 :=
  let b : Int32 := if holdsI 2 many runs = true ∧ unitsI 2 many runs < unitsI 1 many runs then 2 else 1
  if holdsI 0 many runs = true ∧ unitsI 0 many runs ≤ unitsI b many runs then 0 else b
def bestN (now : Nat → Int32) (s bay : Nat) : Int32 := bestI (nI (manyN now s bay)) (nI (runsN now s bay))
def unitsN (now : Nat → Int32) (s bay : Nat) : Int32 := unitsI (kindN now s bay) (nI (manyN now s bay)) (nI (runsN now s bay))
def tollN (now : Nat → Int32) (s bay : Nat) : Int32 := if bestN now s bay = kindN now s bay then 0 else unitsI (bestN now s bay) (nI (manyN now s bay)) (nI (runsN now s bay))
theorem isIn_bit {now : Nat → Int32} {s n : Nat} (hn : n < 2048) : (ofN now s (11 + (n / 32))) >>> (nI (n % 32) &&& 31) &&& 1 = bI (mb now s n) := bit32 _ (Nat.mod_lt _ (by decide))
