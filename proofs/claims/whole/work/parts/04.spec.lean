/-! What the methods answer, in plain functions: over a fleet as it lies (FR), and over the reference's row 'now' -/
def cnt (b : Nat → Bool) (a : Nat) : Nat → Nat
  | 0 => 0
  | n + 1 => cnt b a n + if b (a + n) then 1 else 0
theorem cnt_le (b : Nat → Bool) (a : Nat) : ∀ n, cnt b a n ≤ n
  | 0 => Nat.le_refl _
  | n + 1 => by have := cnt_le b a n; simp only [cnt]; split <;> omega
theorem cnt_T {b : Nat → Bool} {a n : Nat} (h : b (a + n) = true) : cnt b a (n + 1) = cnt b a n + 1 := by simp [cnt, h]
theorem cnt_F {b : Nat → Bool} {a n : Nat} (h : b (a + n) = false) : cnt b a (n + 1) = cnt b a n := by simp [cnt, h]
def sumI (f : Nat → Int32) : Nat → Int32
  | 0 => 0
  | n + 1 => sumI f n + f n
-- the reference
def ofN (now : Nat → Int32) (s w : Nat) : Int32 := now (1 + 75 * s + w)
def layN (now : Nat → Int32) (s w : Nat) (v : Int32) : Nat → Int32 := upd now (1 + 75 * s + w) v
def mb (now : Nat → Int32) (s n : Nat) : Bool := bt (ofN now s (11 + n / 32)) (n % 32)
def kindN (now : Nat → Int32) (s bay : Nat) : Int32 := ofN now s (3 + bay) - 1
def manyN (now : Nat → Int32) (s bay : Nat) : Nat := cnt (mb now s) (256 * bay) 256
def runB (b : Nat → Bool) (n : Nat) : Bool := b n && (decide (n % 256 = 0) || !b (n - 1))
def runsN (now : Nat → Int32) (s bay : Nat) : Nat := cnt (runB (mb now s)) (256 * bay) 256
def holdsI (kind many runs : Int32) : Bool := if kind = 0 then decide (many ≤ 24) else (decide (kind = 1) || decide (runs ≤ 8))
def unitsI (kind many runs : Int32) : Int32 := if kind = 0 then 2 * many else if kind = 1 then 32 else 3 * runs
def bestI (many runs : Int32) : Int32 :=
  let b : Int32 := if holdsI 2 many runs = true ∧ unitsI 2 many runs < unitsI 1 many runs then 2 else 1
  if holdsI 0 many runs = true ∧ unitsI 0 many runs ≤ unitsI b many runs then 0 else b
def bestN (now : Nat → Int32) (s bay : Nat) : Int32 := bestI (nI (manyN now s bay)) (nI (runsN now s bay))
def unitsN (now : Nat → Int32) (s bay : Nat) : Int32 := unitsI (kindN now s bay) (nI (manyN now s bay)) (nI (runsN now s bay))
def tollN (now : Nat → Int32) (s bay : Nat) : Int32 := if bestN now s bay = kindN now s bay then 0 else unitsI (bestN now s bay) (nI (manyN now s bay)) (nI (runsN now s bay))
theorem isIn_bit {now : Nat → Int32} {s n : Nat} (hn : n < 2048) : (ofN now s (11 + (n / 32))) >>> (nI (n % 32) &&& 31) &&& 1 = bI (mb now s n) := bit32 _ (Nat.mod_lt _ (by decide))
def becomesN (now : Nat → Int32) (s b : Nat) : Nat → Int32 :=
  let n1 := layN now s (3 + b) (bestN now s b + 1)
  let n2 := layN n1 s 0 (ofN n1 s 0 - tollN now s b)
  layN n2 s 2 (ofN n2 s 2 + tollN now s b)
def bitI (n : Nat) : Int32 := (1 : Int32) <<< (nI (n % 32) &&& 31)
def putN (now : Nat → Int32) (s n : Nat) (is : Bool) : Nat → Int32 :=
  layN now s (11 + n / 32) (if is = true then ofN now s (11 + n / 32) ||| bitI n else ofN now s (11 + n / 32) &&& (bitI n ^^^ (-1)))
/-- a number comes or goes: the row, and whether its boat can hold what it has then -/
def goN1 (now : Nat → Int32) (s n : Nat) (comes : Bool) : Nat → Int32 :=
  let n1 := putN now s n comes
  if kindN n1 s (n / 256) < 0 then layN n1 s (3 + n / 256) 1 else n1
def goN2 (n2 : Nat → Int32) (s b : Nat) : Nat → Int32 :=
  if ofN n2 s 1 = 0 ∧ ¬ bestN n2 s b = kindN n2 s b ∧ tollN n2 s b ≤ ofN n2 s 0 then becomesN n2 s b else n2
def goesN (now : Nat → Int32) (s n : Nat) (comes : Bool) : (Nat → Int32) × Bool :=
  if manyN (goN1 now s n comes) s (n / 256) = 0 then (layN (goN1 now s n comes) s (3 + n / 256) 0, true)
  else (goN2 (goN1 now s n comes) s (n / 256), holdsI (kindN (goN2 (goN1 now s n comes) s (n / 256)) s (n / 256)) (nI (manyN (goN2 (goN1 now s n comes) s (n / 256)) s (n / 256))) (nI (runsN (goN2 (goN1 now s n comes) s (n / 256)) s (n / 256))))
/-- k numbers from n on come or go, many have already -/
def gaN (s : Nat) (comes : Bool) : Nat → Nat → Nat → (Nat → Int32) → (Nat → Int32) × Int32
  | 0, _, many, now => (now, nI many)
  | k + 1, n, many, now => if mb now s n = comes then gaN s comes k (n + 1) many now else
    if (goesN now s n comes).2 = true then gaN s comes k (n + 1) (many + 1) (goesN now s n comes).1 else ((goesN now s n comes).1, -1)
def cpyN (f g : Nat → Int32) (a c : Nat) : Nat → Int32 := fun j => if c ≤ j ∧ j < c + 451 then f (a + (j - c)) else g j
def isSB (now : Nat → Int32) (s : Int32) : Bool := decide ((0 : Int32) ≤ s ∧ s ≤ now 0 - 1)
def inB (v lo hi : Int32) : Bool := decide (lo ≤ v ∧ v ≤ hi)
def boatsN (now : Nat → Int32) (s : Nat) : Nat → Int32
  | 0 => 0
  | b + 1 => boatsN now s b + (if kindN now s b < 0 then 0 else 1)
/-- the best of the first bays to dock: which, and what it saves -/
def ndN (now : Nat → Int32) (looked : Int32) (s : Nat) : Nat → Int32 × Int32
  | 0 => (-5, 0)
  | b + 1 => if kindN now s b < 0 ∨ bt looked b = true ∨ tollN now s b ≤ 0 then ndN now looked s b
    else if (ndN now looked s b).1 = -5 ∨ (ndN now looked s b).2 < unitsN now s b - tollN now s b then (nI b, unitsN now s b - tollN now s b) else ndN now looked s b
def dkN1 (now : Nat → Int32) (s b : Nat) : Nat → Int32 := if tollN now s b ≤ ofN now s 0 then becomesN now s b else now
def dkN (s : Nat) : Nat → (Nat → Int32) → Int32 → (Nat → Int32) × Int32
  | 0, now, looked => (now, looked)
  | k + 1, now, looked => if (ndN now looked s 8).1 = -5 then (now, looked) else
    dkN s k (dkN1 now s (ndN now looked s 8).1.toNatClampNeg) (looked ||| (1 : Int32) <<< ((ndN now looked s 8).1 &&& 31))
theorem inB_lt {v lo hi : Int32} (h : v < lo) : inB v lo hi = false := decide_eq_false (fun g => absurd g.1 (Int32.not_le.mpr h))
theorem inB_gt {v lo hi : Int32} (h : hi < v) : inB v lo hi = false := decide_eq_false (fun g => absurd g.2 (Int32.not_le.mpr h))
theorem inB_in {v lo hi : Int32} (h : ¬ v < lo) (h2 : ¬ hi < v) : inB v lo hi = true := decide_eq_true ⟨Int32.not_lt.mp h, Int32.not_lt.mp h2⟩
theorem runB_F1 {b : Nat → Bool} {n : Nat} (h : b n = false) : runB b n = false := by simp [runB, h]
theorem runB_T2 {b : Nat → Bool} {n : Nat} (h : b n = true) (h2 : n % 256 = 0) : runB b n = true := by simp [runB, h, h2]
theorem runB_T3 {b : Nat → Bool} {n : Nat} (h : b n = true) (h3 : b (n - 1) = false) : runB b n = true := by simp [runB, h, h3]
theorem runB_F3 {b : Nat → Bool} {n : Nat} (h : b n = true) (h2 : n % 256 ≠ 0) (h3 : b (n - 1) = true) : runB b n = false := by simp [runB, h2, h3]
/-- the first k of 451 ints are copied, from place a of f to place c of g -/
def cpyK (f g : Nat → Int32) (a c k : Nat) : Nat → Int32 := fun j => if c ≤ j ∧ j < c + k then f (a + (j - c)) else g j
theorem cpyK_0 (f g : Nat → Int32) (a c : Nat) : cpyK f g a c 0 = g := by
  funext j
  unfold cpyK
  rw [if_neg (by omega)]
theorem cpyK_s (f g : Nat → Int32) (a c k : Nat) : upd (cpyK f g a c k) (c + k) (f (a + k)) = cpyK f g a c (k + 1) := by
  funext j
  unfold cpyK upd
  by_cases h : j = c + k
  · subst h
    rw [if_pos rfl, if_pos (by omega), show c + k - c = k by omega]
  · rw [if_neg h]
    dsimp only
    by_cases h2 : c ≤ j ∧ j < c + k
    · rw [if_pos h2, if_pos (by omega)]
    · rw [if_neg h2, if_neg (by omega)]
theorem cpyK_in {f g : Nat → Int32} {a c k j : Nat} (h : c ≤ j ∧ j < c + k) : cpyK f g a c k j = f (a + (j - c)) := if_pos h
theorem cpyK_out {f g : Nat → Int32} {a c k j : Nat} (h : ¬ (c ≤ j ∧ j < c + k)) : cpyK f g a c k j = g j := if_neg h
/-- the oldest of four states is dropped -/
def shK (f : Nat → Int32) (k : Nat) : Nat → Int32 := fun j => if j < k then f (j + 451) else f j
theorem shK_0 (f : Nat → Int32) : shK f 0 = f := by funext j; unfold shK; rw [if_neg (by omega)]
theorem shK_s (f : Nat → Int32) (k : Nat) : upd (shK f k) k (shK f k (k + 451)) = shK f (k + 1) := by
  funext j
  unfold shK upd
  by_cases h : j = k
  · subst h
    rw [if_pos rfl, if_neg (by omega), if_pos (by omega)]
  · rw [if_neg h]
    dsimp only
    by_cases h2 : j < k
    · rw [if_pos h2, if_pos (by omega)]
    · rw [if_neg h2, if_neg (by omega)]
def pushN (past state : Nat → Int32) (p : Nat) : Nat → Int32 := if p = 4 then cpyK state (shK past 1353) 0 (3 * 451) 451 else cpyK state past 0 (p * 451) 451
def pushZ (p : Nat) : Nat := if p = 4 then 4 else p + 1

def un (L : Int32) : Nat := cnt (fun j => !bt L j) 0 8
theorem bt_or1 {L : Int32} {b j : Nat} (hb : b < 32) (hj : j < 32) : bt (L ||| (1 : Int32) <<< (nI b &&& 31)) j = (bt L j || decide (j = b)) := by rw [b_or, bt_one b hb hj]
theorem cnt_lt {p q : Nat → Bool} {a : Nat} (h : ∀ j, q j = true → p j = true) : ∀ n, cnt q a n ≤ cnt p a n
  | 0 => Nat.le_refl _
  | n + 1 => by
    have ih := cnt_lt (a := a) h n
    simp only [cnt]
    have := h (a + n)
    by_cases hq : q (a + n) = true
    · rw [if_pos hq, if_pos (this hq)]; omega
    · rw [if_neg hq]; omega
theorem cnt_lt1 {p q : Nat → Bool} {a b : Nat} (h : ∀ j, q j = true → p j = true) (hp : p (a + b) = true) (hq : q (a + b) = false) : ∀ n, b < n → cnt q a n < cnt p a n
  | 0, hb => absurd hb (Nat.not_lt_zero _)
  | n + 1, hb => by
    simp only [cnt]
    by_cases hn : b = n
    · subst hn
      rw [hp, hq]
      have := cnt_lt (a := a) h b
      simp; omega
    · have ih := cnt_lt1 h hp hq n (by omega)
      have := h (a + n)
      by_cases hq2 : q (a + n) = true
      · rw [if_pos hq2, if_pos (this hq2)]; omega
      · rw [if_neg hq2]; omega
theorem cnt_cong {p q : Nat → Bool} {a : Nat} : ∀ n, (∀ j, j < n → p (a + j) = q (a + j)) → cnt p a n = cnt q a n
  | 0, _ => rfl
  | n + 1, h => by simp only [cnt]; rw [cnt_cong n (fun j hj => h j (by omega)), h n (by omega)]
theorem un_lt {L : Int32} {b : Nat} (hb : b < 8) (hL : bt L b = false) : un (L ||| (1 : Int32) <<< (nI b &&& 31)) < un L := by
  unfold un
  have e : cnt (fun j => !bt (L ||| (1 : Int32) <<< (nI b &&& 31)) j) 0 8 = cnt (fun j => !(bt L j || decide (j = b))) 0 8 := cnt_cong 8 (fun j hj => by rw [Nat.zero_add, bt_or1 (by omega) (by omega)])
  rw [e]
  refine cnt_lt1 (a := 0) (b := b) (fun j hj => ?_) ?_ ?_ 8 hb
  · simp at hj ⊢; exact hj.1
  · simp [hL]
  · simp
theorem ndN_some {now : Nat → Int32} {L : Int32} {s : Nat} : ∀ n, n ≤ 8 → (ndN now L s n).1 = -5 ∨ ∃ b, b < n ∧ (ndN now L s n).1 = nI b ∧ bt L b = false ∧ ¬ kindN now s b < 0 ∧ ¬ tollN now s b ≤ 0
  | 0, _ => Or.inl rfl
  | n + 1, hn => by
    have ih := ndN_some (now := now) (L := L) (s := s) n (by omega)
    simp only [ndN]
    by_cases h : kindN now s n < 0 ∨ bt L n = true ∨ tollN now s n ≤ 0
    · rw [if_pos h]
      rcases ih with h1 | ⟨b, h1, h2⟩
      · exact Or.inl h1
      · exact Or.inr ⟨b, by omega, h2⟩
    · rw [if_neg h]
      by_cases h3 : (ndN now L s n).1 = -5 ∨ (ndN now L s n).2 < unitsN now s n - tollN now s n
      · rw [if_pos h3]
        refine Or.inr ⟨n, by omega, rfl, ?_, fun g => h (Or.inl g), fun g => h (Or.inr (Or.inr g))⟩
        cases hb : bt L n with
        | true => exact absurd (Or.inr (Or.inl hb)) h
        | false => rfl
      · rw [if_neg h3]
        rcases ih with h1 | ⟨b, h1, h2⟩
        · exact Or.inl h1
        · exact Or.inr ⟨b, by omega, h2⟩
theorem ndN_some8 {now : Nat → Int32} {L : Int32} {s : Nat} (h : ¬ (ndN now L s 8).1 = -5) : ∃ b, b < 8 ∧ (ndN now L s 8).1 = nI b ∧ bt L b = false := by
  rcases ndN_some (now := now) (L := L) (s := s) 8 (Nat.le_refl _) with h1 | ⟨b, h1, h2, h3, -⟩
  · exact absurd h1 h
  · exact ⟨b, h1, h2, h3⟩
def isSBm (now : Nat → Int32) (s : Int32) : Bool := inB s 0 (now 0 - 1)
theorem isS_of {now : Nat → Int32} {s : Int32} {ns : Nat} (h0 : now 0 = nI ns) (hns : ns ≤ 6) (h : isSBm now s = true) : ∃ k, k < ns ∧ s = nI k := by
  have h1 := of_decide_eq_true h
  rw [h0] at h1
  obtain ⟨j, hj, rfl⟩ := nI_of (Int32.not_lt.mpr h1.1)
  by_cases hz : ns = 0
  · subst hz
    exfalso
    have : (0 : Int32) ≤ nI 0 - 1 := Int32.le_trans h1.1 h1.2
    exact absurd this (by decide)
  · refine ⟨j, ?_, rfl⟩
    have e : nI ns - 1 = nI (ns - 1) := pk_sub (b := 1) (by omega)
    rw [e] at h1
    have := (nI_leI hj (by omega)).mp h1.2
    omega
theorem isS_nI {now : Nat → Int32} {k ns : Nat} (h0 : now 0 = nI ns) (hns : ns ≤ 6) (hk : k < ns) : isSBm now (nI k) = true := by
  refine decide_eq_true ⟨nI_pos' (by omega), ?_⟩
  have e : nI ns - 1 = nI (ns - 1) := pk_sub (b := 1) (by omega)
  rw [h0, e]
  exact (nI_leI (by omega) (by omega)).mpr (by omega)
theorem isN_of {n : Int32} (h : inB n 0 2047 = true) : ∃ k, k < 2048 ∧ n = nI k := by
  have h1 := of_decide_eq_true h
  obtain ⟨j, hj, rfl⟩ := nI_of (Int32.not_lt.mpr h1.1)
  refine ⟨j, ?_, rfl⟩
  have := (nI_leI (b := 2047) hj (by decide)).mp h1.2
  omega
theorem isN_nI {k : Nat} (hk : k < 2048) : inB (nI k) 0 2047 = true := decide_eq_true ⟨nI_pos' (by omega), (nI_leI (b := 2047) (by omega) (by decide)).mpr (by omega)⟩
/-- what comes of a change that is made already: the answer and the reference then -/
def endsM (Y : YS) (p : Nat) (m : Int32) : Int32 × YS := if 0 < m then (m, yzS (ypS Y (pushN (yp Y) (yt Y) p)) (nI (pushZ p))) else (if m = 0 then -5 else -3, ynS Y (yt Y))
theorem manyN_le (now : Nat → Int32) (s b : Nat) : manyN now s b ≤ 256 := cnt_le _ _ _
theorem runsN_le (now : Nat → Int32) (s b : Nat) : runsN now s b ≤ 256 := cnt_le _ _ _
