/-! What the methods answer, in plain functions: over a fleet as it lies (FR), and over the reference's row 'now' -/
def cnt (b : Nat → Bool) (a : Nat) : Nat → Nat
  | 0 => 0
  | n + 1 => cnt b a n + if b (a + n) then 1 else 0
theorem cnt_le (b : Nat → Bool) (a : Nat) : ∀ n, cnt b a n ≤ n
  | 0 => Nat.le_refl _
  | n + 1 => by have := cnt_le b a n; simp only [cnt]; split <;> omega
theorem cnt_T {b : Nat → Bool} {a n : Nat} (h : b (a + n) = true) : cnt b a (n + 1) = cnt b a n + 1 := by simp [cnt, h]
theorem cnt_F {b : Nat → Bool} {a n : Nat} (h : b (a + n) = false) : cnt b a (n + 1) = cnt b a n := by simp [cnt, h]
def sumI (f : Nat → Int32) : Nat → Int32
  | 0 => 0
  | n + 1 => sumI f n + f n
-- the reference
def ofN (now : Nat → Int32) (s w : Nat) : Int32 := now (1 + 75 * s + w)
def layN (now : Nat → Int32) (s w : Nat) (v : Int32) : Nat → Int32 := upd now (1 + 75 * s + w) v
def mb (now : Nat → Int32) (s n : Nat) : Bool := bt (ofN now s (11 + n / 32)) (n % 32)
def kindN (now : Nat → Int32) (s bay : Nat) : Int32 := ofN now s (3 + bay) - 1
def manyN (now : Nat → Int32) (s bay : Nat) : Nat := cnt (mb now s) (256 * bay) 256
def runB (b : Nat → Bool) (n : Nat) : Bool := b n && (decide (n % 256 = 0) || !b (n - 1))
def runsN (now : Nat → Int32) (s bay : Nat) : Nat := cnt (runB (mb now s)) (256 * bay) 256
def holdsI (kind many runs : Int32) : Bool := if kind = 0 then decide (many ≤ 24) else (decide (kind = 1) || decide (runs ≤ 8))
def unitsI (kind many runs : Int32) : Int32 := if kind = 0 then 2 * many else if kind = 1 then 32 else 3 * runs
def bestI (many runs : Int32) : Int32 :=
  let b : Int32 := if holdsI 2 many runs = true ∧ unitsI 2 many runs < unitsI 1 many runs then 2 else 1
  if holdsI 0 many runs = true ∧ unitsI 0 many runs ≤ unitsI b many runs then 0 else b
def bestN (now : Nat → Int32) (s bay : Nat) : Int32 := bestI (nI (manyN now s bay)) (nI (runsN now s bay))
def unitsN (now : Nat → Int32) (s bay : Nat) : Int32 := unitsI (kindN now s bay) (nI (manyN now s bay)) (nI (runsN now s bay))
def tollN (now : Nat → Int32) (s bay : Nat) : Int32 := if bestN now s bay = kindN now s bay then 0 else unitsI (bestN now s bay) (nI (manyN now s bay)) (nI (runsN now s bay))
theorem isIn_bit {now : Nat → Int32} {s n : Nat} (hn : n < 2048) : (ofN now s (11 + (n / 32))) >>> (nI (n % 32) &&& 31) &&& 1 = bI (mb now s n) := bit32 _ (Nat.mod_lt _ (by decide))
def becomesN (now : Nat → Int32) (s b : Nat) : Nat → Int32 :=
  let n1 := layN now s (3 + b) (bestN now s b + 1)
  let n2 := layN n1 s 0 (ofN n1 s 0 - tollN now s b)
  layN n2 s 2 (ofN n2 s 2 + tollN now s b)
def bitI (n : Nat) : Int32 := (1 : Int32) <<< (nI (n % 32) &&& 31)
def putN (now : Nat → Int32) (s n : Nat) (is : Bool) : Nat → Int32 :=
  layN now s (11 + n / 32) (if is = true then ofN now s (11 + n / 32) ||| bitI n else ofN now s (11 + n / 32) &&& (bitI n ^^^ (-1)))
/-- a number comes or goes: the row, and whether its boat can hold what it has then -/
def goN1 (now : Nat → Int32) (s n : Nat) (comes : Bool) : Nat → Int32 :=
  let n1 := putN now s n comes
  if kindN n1 s (n / 256) < 0 then layN n1 s (3 + n / 256) 1 else n1
def goN2 (n2 : Nat → Int32) (s b : Nat) : Nat → Int32 :=
  if ofN n2 s 1 = 0 ∧ ¬ bestN n2 s b = kindN n2 s b ∧ tollN n2 s b ≤ ofN n2 s 0 then becomesN n2 s b else n2
def goesN (now : Nat → Int32) (s n : Nat) (comes : Bool) : (Nat → Int32) × Bool :=
  if manyN (goN1 now s n comes) s (n / 256) = 0 then (layN (goN1 now s n comes) s (3 + n / 256) 0, true)
  else (goN2 (goN1 now s n comes) s (n / 256), holdsI (kindN (goN2 (goN1 now s n comes) s (n / 256)) s (n / 256)) (nI (manyN (goN2 (goN1 now s n comes) s (n / 256)) s (n / 256))) (nI (runsN (goN2 (goN1 now s n comes) s (n / 256)) s (n / 256))))
/-- k numbers from n on come or go, many have already -/
def gaN (s : Nat) (comes : Bool) : Nat → Nat → Nat → (Nat → Int32) → (Nat → Int32) × Int32
  | 0, _, many, now => (now, nI many)
  | k + 1, n, many, now => if mb now s n = comes then gaN s comes k (n + 1) many now else
    if (goesN now s n comes).2 = true then gaN s comes k (n + 1) (many + 1) (goesN now s n comes).1 else ((goesN now s n comes).1, -1)
def cpyN (f g : Nat → Int32) (a c : Nat) : Nat → Int32 := fun j => if c ≤ j ∧ j < c + 451 then f (a + (j - c)) else g j
def isSB (now : Nat → Int32) (s : Int32) : Bool := decide ((0 : Int32) ≤ s ∧ s ≤ now 0 - 1)
def inB (v lo hi : Int32) : Bool := decide (lo ≤ v ∧ v ≤ hi)
def boatsN (now : Nat → Int32) (s : Nat) : Nat → Int32
  | 0 => 0
  | b + 1 => boatsN now s b + (if kindN now s b < 0 then 0 else 1)
/-- the best of the first bays to dock: which, and what it saves -/
def ndN (now : Nat → Int32) (looked : Int32) (s : Nat) : Nat → Int32 × Int32
  | 0 => (-5, 0)
  | b + 1 => if kindN now s b < 0 ∨ bt looked b = true ∨ tollN now s b ≤ 0 then ndN now looked s b
    else if (ndN now looked s b).1 = -5 ∨ (ndN now looked s b).2 < unitsN now s b - tollN now s b then (nI b, unitsN now s b - tollN now s b) else ndN now looked s b
def dkN1 (now : Nat → Int32) (s b : Nat) : Nat → Int32 := if tollN now s b ≤ ofN now s 0 then becomesN now s b else now
def dkN (s : Nat) : Nat → (Nat → Int32) → Int32 → (Nat → Int32) × Int32
  | 0, now, looked => (now, looked)
  | k + 1, now, looked => if (ndN now looked s 8).1 = -5 then (now, looked) else
    dkN s k (dkN1 now s (ndN now looked s 8).1.toNatClampNeg) (looked ||| (1 : Int32) <<< ((ndN now looked s 8).1 &&& 31))
theorem inB_lt {v lo hi : Int32} (h : v < lo) : inB v lo hi = false := decide_eq_false (fun g => absurd g.1 (Int32.not_le.mpr h))
theorem inB_gt {v lo hi : Int32} (h : hi < v) : inB v lo hi = false := decide_eq_false (fun g => absurd g.2 (Int32.not_le.mpr h))
theorem inB_in {v lo hi : Int32} (h : ¬ v < lo) (h2 : ¬ hi < v) : inB v lo hi = true := decide_eq_true ⟨Int32.not_lt.mp h, Int32.not_lt.mp h2⟩
theorem runB_F1 {b : Nat → Bool} {n : Nat} (h : b n = false) : runB b n = false := by simp [runB, h]
theorem runB_T2 {b : Nat → Bool} {n : Nat} (h : b n = true) (h2 : n % 256 = 0) : runB b n = true := by simp [runB, h, h2]
theorem runB_T3 {b : Nat → Bool} {n : Nat} (h : b n = true) (h3 : b (n - 1) = false) : runB b n = true := by simp [runB, h, h3]
theorem runB_F3 {b : Nat → Bool} {n : Nat} (h : b n = true) (h2 : n % 256 ≠ 0) (h3 : b (n - 1) = true) : runB b n = false := by simp [runB, h2, h3]
