/-! What the methods answer, in plain functions: over a fleet as it lies (FR), and over the reference's row 'now' -/
def cnt (b : Nat → Bool) (a : Nat) : Nat → Nat
  | 0 => 0
  | n + 1 => cnt b a n + if b (a + n) then 1 else 0
theorem cnt_le (b : Nat → Bool) (a : Nat) : ∀ n, cnt b a n ≤ n
  | 0 => Nat.le_refl _
  | n + 1 => by have := cnt_le b a n; simp only [cnt]; split <;> omega
theorem cnt_T {b : Nat → Bool} {a n : Nat} (h : b (a + n) = true) : cnt b a (n + 1) = cnt b a n + 1 := by simp [cnt, h]
theorem cnt_F {b : Nat → Bool} {a n : Nat} (h : b (a + n) = false) : cnt b a (n + 1) = cnt b a n := by simp [cnt, h]
def sumI (f : Nat → Int32) : Nat → Int32
  | 0 => 0
  | n + 1 => sumI f n + f n
def runB (b : Nat → Bool) (n : Nat) : Bool := b n && (decide (n % 256 = 0) || !b (n - 1))
def inB (v lo hi : Int32) : Bool := decide (lo ≤ v ∧ v ≤ hi)
theorem inB_lt {v lo hi : Int32} (h : v < lo) : inB v lo hi = false := decide_eq_false (fun g => absurd g.1 (Int32.not_le.mpr h))
theorem inB_gt {v lo hi : Int32} (h : hi < v) : inB v lo hi = false := decide_eq_false (fun g => absurd g.2 (Int32.not_le.mpr h))
theorem inB_in {v lo hi : Int32} (h : ¬ v < lo) (h2 : ¬ hi < v) : inB v lo hi = true := decide_eq_true ⟨Int32.not_lt.mp h, Int32.not_lt.mp h2⟩
theorem runB_F1 {b : Nat → Bool} {n : Nat} (h : b n = false) : runB b n = false := by simp [runB, h]
theorem runB_T2 {b : Nat → Bool} {n : Nat} (h : b n = true) (h2 : n % 256 = 0) : runB b n = true := by simp [runB, h, h2]
theorem runB_T3 {b : Nat → Bool} {n : Nat} (h : b n = true) (h3 : b (n - 1) = false) : runB b n = true := by simp [runB, h, h3]
theorem runB_F3 {b : Nat → Bool} {n : Nat} (h : b n = true) (h2 : n % 256 ≠ 0) (h3 : b (n - 1) = true) : runB b n = false := by simp [runB, h2, h3]
def un (L : Int32) : Nat := cnt (fun j => !bt L j) 0 8
theorem bt_or1 {L : Int32} {b j : Nat} (hb : b < 32) (hj : j < 32) : bt (L ||| (1 : Int32) <<< (nI b &&& 31)) j = (bt L j || decide (j = b)) := by rw [b_or, bt_one b hb hj]
theorem cnt_lt {p q : Nat → Bool} {a : Nat} (h : ∀ j, q j = true → p j = true) : ∀ n, cnt q a n ≤ cnt p a n
  | 0 => Nat.le_refl _
  | n + 1 => by
    have ih := cnt_lt (a := a) h n
    simp only [cnt]
    have := h (a + n)
    by_cases hq : q (a + n) = true
    · rw [if_pos hq, if_pos (this hq)]; omega
    · rw [if_neg hq]; omega
theorem cnt_lt1 {p q : Nat → Bool} {a b : Nat} (h : ∀ j, q j = true → p j = true) (hp : p (a + b) = true) (hq : q (a + b) = false) : ∀ n, b < n → cnt q a n < cnt p a n
  | 0, hb => absurd hb (Nat.not_lt_zero _)
  | n + 1, hb => by
    simp only [cnt]
    by_cases hn : b = n
    · subst hn
      rw [hp, hq]
      have := cnt_lt (a := a) h b
      simp; omega
    · have ih := cnt_lt1 h hp hq n (by omega)
      have := h (a + n)
      by_cases hq2 : q (a + n) = true
      · rw [if_pos hq2, if_pos (this hq2)]; omega
      · rw [if_neg hq2]; omega
theorem cnt_cong {p q : Nat → Bool} {a : Nat} : ∀ n, (∀ j, j < n → p (a + j) = q (a + j)) → cnt p a n = cnt q a n
  | 0, _ => rfl
  | n + 1, h => by simp only [cnt]; rw [cnt_cong n (fun j hj => h j (by omega)), h n (by omega)]
theorem un_lt {L : Int32} {b : Nat} (hb : b < 8) (hL : bt L b = false) : un (L ||| (1 : Int32) <<< (nI b &&& 31)) < un L := by
  unfold un
  have e : cnt (fun j => !bt (L ||| (1 : Int32) <<< (nI b &&& 31)) j) 0 8 = cnt (fun j => !(bt L j || decide (j = b))) 0 8 := cnt_cong 8 (fun j hj => by rw [Nat.zero_add, bt_or1 (by omega) (by omega)])
  rw [e]
  refine cnt_lt1 (a := 0) (b := b) (fun j hj => ?_) ?_ ?_ 8 hb
  · simp at hj ⊢; exact hj.1
  · simp [hL]
  · simp
theorem isN_of {n : Int32} (h : inB n 0 2047 = true) : ∃ k, k < 2048 ∧ n = nI k := by
  have h1 := of_decide_eq_true h
  obtain ⟨j, hj, rfl⟩ := nI_of (Int32.not_lt.mpr h1.1)
  refine ⟨j, ?_, rfl⟩
  have := (nI_leI (b := 2047) hj (by decide)).mp h1.2
  omega
theorem isN_nI {k : Nat} (hk : k < 2048) : inB (nI k) 0 2047 = true := decide_eq_true ⟨nI_pos' (by omega), (nI_leI (b := 2047) (by omega) (by decide)).mpr (by omega)⟩
