/-! What the reference's further methods answer -/
def ix (x : Int32) : Nat := x.toNatClampNeg
theorem ix_nI {n : Nat} (h : n < 2 ^ 31) : ix (nI n) = n := nI_clamp h
/-- the first number from n on, of k -/
def upF (b : Nat → Bool) : Nat → Nat → Int32
  | 0, _ => -5
  | k + 1, n => if b n = true then nI n else upF b k (n + 1)
/-- the last number below n -/
def dnF (b : Nat → Bool) : Nat → Int32
  | 0 => -5
  | n + 1 => if b n = true then nI n else dnF b n
def sumN (now : Nat → Int32) (s : Nat) (what : Int32) : Nat → Int32
  | 0 => 0
  | b + 1 => if kindN now s b < 0 then sumN now s what b else sumN now s what b + (if what = 2 then unitsN now s b else if what = 6 then nI (runsN now s b) else unitsI (bestN now s b) (nI (manyN now s b)) (nI (runsN now s b)))
def swN (now : Nat → Int32) (ns n : Nat) : Nat := cnt (fun s => mb now s n) 0 ns
def givesB (how : Int32) (a b : Bool) : Bool := if how = 0 then a || b else if how = 1 then a && b else if how = 2 then a && !b else a != b
def zeroN (g : Nat → Int32) (k : Nat) : Nat → Int32 := fun j => if j < k then 0 else g j
theorem zeroN_0 (g : Nat → Int32) : zeroN g 0 = g := by funext j; unfold zeroN; rw [if_neg (by omega)]
theorem zeroN_s (g : Nat → Int32) (k : Nat) : upd (zeroN g k) k 0 = zeroN g (k + 1) := by
  funext j
  unfold zeroN upd
  by_cases h : j = k
  · subst h; rw [if_pos rfl, if_pos (by omega)]
  · rw [if_neg h]
    dsimp only
    by_cases h2 : j < k
    · rw [if_pos h2, if_pos (by omega)]
    · rw [if_neg h2, if_neg (by omega)]
/-- the row of bits of the first n numbers of b -/
def gvN (b : Nat → Bool) (g : Nat → Int32) : Nat → Nat → Int32
  | 0 => zeroN g 64
  | n + 1 => if b n = true then upd (gvN b g n) (n / 32) (gvN b g n (n / 32) ||| bitI n) else gvN b g n
def gbN (now : Nat → Int32) (how : Int32) (s o : Nat) : Nat → Bool := fun n => givesB how (mb now s n) (mb now o n)
def atN (b : Nat → Bool) : Nat → Nat → Int32 → Int32
  | 0, _, _ => -5
  | k + 1, n, left => if b n = true then (if left = 0 then nI n else atN b k (n + 1) (left + (-1))) else atN b k (n + 1) left
def gapN (b : Nat → Bool) (len : Nat) : Nat → Nat → Nat → Int32
  | 0, _, _ => -5
  | k + 1, n, many => if (if b n = true then 0 else many + 1) = len then nI n - nI len + 1 else gapN b len k (n + 1) (if b n = true then 0 else many + 1)
def oaN (c : Nat → Nat) : Nat → Nat → Int32 → Int32
  | 0, _, _ => -5
  | k + 1, n, left => if left < nI (c n) then nI n else oaN c k (n + 1) (left - nI (c n))
def mostN (c : Nat → Nat) : Nat → Int32 × Nat
  | 0 => (-5, 0)
  | n + 1 => if (mostN c n).2 < c n then (nI n, c n) else mostN c n
def setV (now : Nat → Int32) (s : Nat) (what : Int32) : Int32 :=
  if what = 0 then nI (cnt (mb now s) 0 2048) else if what = 1 then boatsN now s 8 else if what = 2 ∨ what = 6 ∨ what = 9 then sumN now s what 8
  else if what = 3 then ofN now s 0 else if what = 4 then ofN now s 1 else if what = 5 then ofN now s 2 else if what = 7 then upF (mb now s) 2048 0 else if what = 8 then dnF (mb now s) 2048 else -2
def setM (now : Nat → Int32) (s what : Int32) : Int32 := if isSBm now s = false then -1 else setV now (ix s) what
def kbN (now : Nat → Int32) (s : Nat) (kind : Int32) : Nat → Int32
  | 0 => 0
  | b + 1 => kbN now s kind b + (if kindN now s b = kind then 1 else 0)
def ovN (now : Nat → Int32) (what : Int32) : Nat → Int32
  | 0 => 0
  | s + 1 => ovN now what s + (if what < 20 then setV now s what else kbN now s (what - 20) 8)
def hasM (now : Nat → Int32) (s n : Int32) : Int32 := if isSBm now s = false then -1 else if inB n 0 2047 = false then -2 else bI (mb now (ix s) (ix n))
def rankM (now : Nat → Int32) (s n : Int32) : Int32 := if isSBm now s = false then -1 else if inB n 0 2047 = false then -2 else nI (cnt (mb now (ix s)) 0 (ix n))
def nextM (now : Nat → Int32) (s n : Int32) : Int32 := if isSBm now s = false then -1 else if inB n 0 2047 = false then -2 else upF (mb now (ix s)) (2048 - ix n) (ix n)
def nearV (n above below : Int32) : Int32 := if below = -5 ∨ (¬ above = -5 ∧ above - n < n - below) then above else below
def nearM (now : Nat → Int32) (s n : Int32) : Int32 := if isSBm now s = false then -1 else if inB n 0 2047 = false then -2 else nearV n (upF (mb now (ix s)) (2048 - ix n) (ix n)) (dnF (mb now (ix s)) (ix n + 1))
def atM (now : Nat → Int32) (s place : Int32) : Int32 := if isSBm now s = false then -1 else if place < 0 then -2 else atN (mb now (ix s)) 2048 0 place
def gapM (now : Nat → Int32) (s len : Int32) : Int32 := if isSBm now s = false then -1 else if inB len 1 2048 = false then -2 else gapN (mb now (ix s)) (ix len) 2048 0 0
def sizeM (now : Nat → Int32) (how s o : Int32) : Int32 := if isSBm now s = false then -1 else if isSBm now o = false then -1 else if inB how 0 3 = false then -2 else nI (cnt (gbN now how (ix s) (ix o)) 0 2048)
def boatV (now : Nat → Int32) (s b : Nat) (what : Int32) : Int32 :=
  if what = 0 then kindN now s b else if what = 1 then nI (manyN now s b) else if what = 2 then nI (runsN now s b) else if what = 3 then unitsN now s b else if what = 4 then bestN now s b else tollN now s b
def boatM (now : Nat → Int32) (s b what : Int32) : Int32 := if isSBm now s = false then -1 else if inB b 0 7 = false then -2 else if inB what 0 5 = false then -2 else if kindN now (ix s) (ix b) < 0 then -5 else boatV now (ix s) (ix b) what
def ofAllM (now : Nat → Int32) (ns : Nat) (place : Int32) : Int32 := if place < 0 then -2 else oaN (swN now ns) 2048 0 place
def diffN (now : Nat → Int32) (ns : Nat) : Nat := cnt (fun n => decide (0 < swN now ns n)) 0 2048
def countM (Y : YS) (ns : Nat) (what : Int32) : Int32 :=
  if what = 0 then nI ns else if what = 1 then ovN (yn Y) 4 ns else if what = 2 ∨ what = 3 ∨ what = 4 then ovN (yn Y) (18 + what) ns else if what = 5 then ovN (yn Y) 2 ns else if what = 6 then ovN (yn Y) 0 ns
  else if what = 7 then nI (diffN (yn Y) ns) else if what = 8 then ovN (yn Y) 5 ns else if what = 9 then yz Y else if what = 10 then yy Y else -2
theorem inR_of {n : Int32} {hi : Nat} (h : inB n 0 (nI hi) = true) (hh : hi < 2 ^ 31) : ∃ k, k ≤ hi ∧ n = nI k := by
  have h1 := of_decide_eq_true h
  obtain ⟨j, hj, rfl⟩ := nI_of (Int32.not_lt.mpr h1.1)
  exact ⟨j, (nI_leI hj hh).mp h1.2, rfl⟩
theorem in1_of {n : Int32} {hi : Nat} (h : inB n 1 (nI hi) = true) (hh : hi < 2 ^ 31) : ∃ k, 1 ≤ k ∧ k ≤ hi ∧ n = nI k := by
  have h1 := of_decide_eq_true h
  obtain ⟨j, hj, rfl⟩ := nI_of (Int32.not_lt.mpr (Int32.le_trans (by decide) h1.1))
  exact ⟨j, (nI_leI (a := 1) (by decide) hj).mp h1.1, (nI_leI hj hh).mp h1.2, rfl⟩
theorem inB_m1 {m : Nat} (hm : m ≤ 2048) : inB (nI m - 1) 0 2047 = decide (0 < m) := by
  cases m with
  | zero => decide
  | succ m =>
    rw [nI_pred]
    simp only [Nat.zero_lt_succ, decide_true]
    exact isN_nI (by omega)
theorem swN_le (now : Nat → Int32) (ns n : Nat) : swN now ns n ≤ ns := cnt_le _ _ _
theorem mostN_le (c : Nat → Nat) {m : Nat} (h : ∀ n, c n ≤ m) : ∀ n, (mostN c n).2 ≤ m
  | 0 => Nat.zero_le _
  | n + 1 => by
    simp only [mostN]
    split
    · exact h n
    · exact mostN_le c h n
