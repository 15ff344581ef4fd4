-- out of whole: 05.spec2.lean.txt
/-- the first number from n on, of k -/
def upF (b : Nat → Bool) : Nat → Nat → Int32
  | 0, _ => -5
  | k + 1, n => if b n = true then nI n else upF b k (n + 1)
/-- the last number below n -/
def dnF (b : Nat → Bool) : Nat → Int32
  | 0 => -5
  | n + 1 => if b n = true then nI n else dnF b n
def givesB (how : Int32) (a b : Bool) : Bool := if how = 0 then a || b else if how = 1 then a && b else if how = 2 then a && !b else a != b
def atN (b : Nat → Bool) : Nat → Nat → Int32 → Int32
  | 0, _, _ => -5
  | k + 1, n, left => if b n = true then (if left = 0 then nI n else atN b k (n + 1) (left + (-1))) else atN b k (n + 1) left
def gapN (b : Nat → Bool) (len : Nat) : Nat → Nat → Nat → Int32
  | 0, _, _ => -5
  | k + 1, n, many => if (if b n = true then 0 else many + 1) = len then nI n - nI len + 1 else gapN b len k (n + 1) (if b n = true then 0 else many + 1)
def oaN (c : Nat → Nat) : Nat → Nat → Int32 → Int32
  | 0, _, _ => -5
  | k + 1, n, left => if left < nI (c n) then nI n else oaN c k (n + 1) (left - nI (c n))
def mostN (c : Nat → Nat) : Nat → Int32 × Nat
  | 0 => (-5, 0)
  | n + 1 => if (mostN c n).2 < c n then (nI n, c n) else mostN c n

-- out of whole: 50.count.lean.txt
/-! Counting over bits: ranks, places, the lowest bit of a word -/
theorem cnt_s (b : Nat → Bool) (a n : Nat) : cnt b a (n + 1) = cnt b a n + (if b (a + n) = true then 1 else 0) := rfl
theorem cnt_add (b : Nat → Bool) (a m : Nat) : ∀ n, cnt b a (m + n) = cnt b a m + cnt b (a + m) n
  | 0 => rfl
  | n + 1 => by
    have ih := cnt_add b a m n
    show cnt b a (m + n) + (if b (a + (m + n)) = true then 1 else 0) = cnt b a m + (cnt b (a + m) n + (if b (a + m + n) = true then 1 else 0))
    rw [ih, Nat.add_assoc a m n, Nat.add_assoc]
theorem cnt_sh (b : Nat → Bool) (a : Nat) : ∀ n, cnt b a n = cnt (fun j => b (a + j)) 0 n
  | 0 => rfl
  | n + 1 => by
    rw [cnt_s, cnt_s, cnt_sh b a n, Nat.zero_add]
theorem cnt_mono (b : Nat → Bool) (a : Nat) {m n : Nat} (h : m ≤ n) : cnt b a m ≤ cnt b a n := by
  obtain ⟨k, rfl⟩ := Nat.le.dest h
  rw [cnt_add]; omega
/-- one bit comes -/
theorem cnt_flip {b c : Nat → Bool} {a k : Nat} (hb : b (a + k) = false) (hc : c (a + k) = true) (h : ∀ j, j ≠ a + k → c j = b j) : ∀ n, cnt c a n = cnt b a n + (if k < n then 1 else 0)
  | 0 => by simp [cnt]
  | n + 1 => by
    rw [cnt_s, cnt_s, cnt_flip hb hc h n]
    by_cases e : n = k
    · subst e
      rw [hb, hc]
      simp
    · rw [h (a + n) (by omega)]
      by_cases h1 : k < n
      · rw [if_pos h1, if_pos (show k < n + 1 by omega)]; omega
      · rw [if_neg h1, if_neg (show ¬ k < n + 1 by omega)]; omega
theorem cnt_z {b : Nat → Bool} {a : Nat} : ∀ n, (∀ j, j < n → b (a + j) = false) → cnt b a n = 0
  | 0, _ => rfl
  | n + 1, h => by rw [cnt_s, cnt_z n (fun j hj => h j (by omega)), h n (by omega)]; rfl
theorem cnt_zz {b : Nat → Bool} {a : Nat} : ∀ n, cnt b a n = 0 → ∀ j, j < n → b (a + j) = false
  | 0, _, j, hj => absurd hj (Nat.not_lt_zero _)
  | n + 1, h, j, hj => by
    rw [cnt_s] at h
    by_cases e : j = n
    · subst e
      cases hb : b (a + j) with
      | false => rfl
      | true => rw [hb] at h; simp at h
    · exact cnt_zz n (by omega) j (by omega)
theorem cnt_mask (b : Nat → Bool) (k : Nat) : ∀ n, k ≤ n → cnt (fun i => b i && decide (i < k)) 0 n = cnt b 0 k
  | 0, h => by
    have : k = 0 := by omega
    subst this; rfl
  | n + 1, h => by
    by_cases e : k = n + 1
    · subst e
      refine cnt_cong _ (fun j hj => ?_)
      rw [Nat.zero_add, decide_eq_true hj, Bool.and_true]
    · rw [cnt_s, cnt_mask b k n (by omega)]
      rw [Nat.zero_add, decide_eq_false (show ¬ n < k by omega), Bool.and_false]
      rfl
theorem cnt_ex {b : Nat → Bool} {k : Nat} : ∀ n, k < cnt b 0 n → ∃ i, i < n ∧ b i = true ∧ cnt b 0 i = k
  | 0, h => absurd h (Nat.not_lt_zero _)
  | n + 1, h => by
    rw [cnt_s, Nat.zero_add] at h
    by_cases h1 : k < cnt b 0 n
    · obtain ⟨i, h2, h3⟩ := cnt_ex n h1
      exact ⟨i, by omega, h3⟩
    · cases hb : b n with
      | false => rw [hb] at h; simp at h; omega
      | true => rw [hb] at h; simp at h; exact ⟨n, by omega, hb, by omega⟩
/-- the number at place p: there is one at most -/
def Sel (b : Nat → Bool) (N p : Nat) (r : Int32) : Prop := (∃ n, n < N ∧ b n = true ∧ cnt b 0 n = p ∧ r = nI n) ∨ (cnt b 0 N ≤ p ∧ r = -5)
theorem sel_lt {b : Nat → Bool} {n n' : Nat} (h : n < n') (hb : b n = true) : cnt b 0 n < cnt b 0 n' := by
  have h1 := cnt_mono b 0 (show n + 1 ≤ n' by omega)
  rw [cnt_s, Nat.zero_add, if_pos hb] at h1
  omega
theorem Sel.one {b : Nat → Bool} {N p : Nat} {r r' : Int32} (h : Sel b N p r) (h' : Sel b N p r') : r = r' := by
  rcases h with ⟨n, h1, h2, h3, rfl⟩ | ⟨h1, rfl⟩ <;> rcases h' with ⟨n', g1, g2, g3, rfl⟩ | ⟨g1, rfl⟩
  · rcases Nat.lt_trichotomy n n' with h | h | h
    · have := sel_lt h h2; omega
    · rw [h]
    · have := sel_lt h g2; omega
  · have := sel_lt h1 h2; omega
  · have := sel_lt g1 g2; omega
  · rfl
theorem Sel.cong {b c : Nat → Bool} {N p : Nat} {r : Int32} (e : ∀ j, j < N → b j = c j) (h : Sel b N p r) : Sel c N p r := by
  have ec : ∀ n, n ≤ N → cnt b 0 n = cnt c 0 n := fun n hn => cnt_cong n (fun j hj => by rw [Nat.zero_add]; exact e j (by omega))
  rcases h with ⟨n, h1, h2, h3, h4⟩ | ⟨h1, h2⟩
  · exact Or.inl ⟨n, h1, by rw [← e n h1]; exact h2, by rw [← ec n (by omega)]; exact h3, h4⟩
  · exact Or.inr ⟨by rw [← ec N (Nat.le_refl _)]; exact h1, h2⟩
theorem upF_sel (b : Nat → Bool) {N : Nat} : ∀ k n, n + k = N → Sel b N (cnt b 0 n) (upF b k n)
  | 0, n, h => Or.inr ⟨by rw [← h]; exact Nat.le_refl _, rfl⟩
  | k + 1, n, h => by
    rw [upF]
    by_cases hb : b n = true
    · rw [if_pos hb]
      exact Or.inl ⟨n, by omega, hb, rfl, rfl⟩
    · rw [if_neg hb]
      have ih := upF_sel b (N := N) k (n + 1) (by omega)
      rw [cnt_s, Nat.zero_add, if_neg hb, Nat.add_zero] at ih
      exact ih
theorem dnF_sel (b : Nat → Bool) {N : Nat} : ∀ n, n ≤ N → (cnt b 0 n = 0 ∧ dnF b n = -5) ∨ (0 < cnt b 0 n ∧ Sel b N (cnt b 0 n - 1) (dnF b n))
  | 0, _ => Or.inl ⟨rfl, rfl⟩
  | n + 1, h => by
    rw [dnF, cnt_s, Nat.zero_add]
    by_cases hb : b n = true
    · rw [if_pos hb, if_pos hb]
      exact Or.inr ⟨by omega, Or.inl ⟨n, by omega, hb, by omega, rfl⟩⟩
    · rw [if_neg hb, if_neg hb]
      exact dnF_sel b n (by omega)
theorem nI_m1 {x : Nat} (h : x ≠ 0) : nI x + (-1) = nI (x - 1) := by
  obtain ⟨y, rfl⟩ := Nat.exists_eq_succ_of_ne_zero h
  rw [← Int32.sub_eq_add_neg, Nat.succ_eq_add_one, nI_pred, Nat.add_sub_cancel]
theorem nI_z {x : Nat} (h : x < 2 ^ 31) : nI x = 0 ↔ x = 0 := nI_eq (b := 0) h (by decide)
theorem atN_sel (b : Nat → Bool) {N : Nat} : ∀ k n x, n + k = N → x < 2 ^ 31 → Sel b N (cnt b 0 n + x) (atN b k n (nI x))
  | 0, n, x, h, _ => Or.inr ⟨by rw [← h]; show cnt b 0 n ≤ _; omega, rfl⟩
  | k + 1, n, x, h, hx => by
    rw [atN]
    by_cases hb : b n = true
    · rw [if_pos hb]
      by_cases h0 : x = 0
      · subst h0
        rw [if_pos (show nI 0 = 0 from rfl)]
        exact Or.inl ⟨n, by omega, hb, rfl, rfl⟩
      · rw [if_neg (fun e => h0 ((nI_z hx).mp e)), nI_m1 h0]
        have ih := atN_sel b (N := N) k (n + 1) (x - 1) (by omega) (by omega)
        rw [cnt_s, Nat.zero_add, if_pos hb, show cnt b 0 n + 1 + (x - 1) = cnt b 0 n + x by omega] at ih
        exact ih
    · rw [if_neg hb]
      have ih := atN_sel b (N := N) k (n + 1) x (by omega) hx
      rw [cnt_s, Nat.zero_add, if_neg hb, Nat.add_zero] at ih
      exact ih
-- words
theorem bl_tb (x : Int64) (i : Nat) : bl x i = (uL x).testBit i := rfl
theorem uL_ext {x y : Int64} (h : uL x = uL y) : x = y := Int64.toBitVec_inj.mp (BitVec.eq_of_toNat_eq h)
theorem cnt_word (w : Nat → Int64) (j : Nat) : cnt (fbit w) (64 * j) 64 = pcN (w j) := by
  rw [cnt_sh]
  refine cnt_cong 64 (fun i hi => ?_)
  show bl (w ((64 * j + (0 + i)) / 64)) ((64 * j + (0 + i)) % 64) = bl (w j) (0 + i)
  rw [show (64 * j + (0 + i)) / 64 = j by omega, show (64 * j + (0 + i)) % 64 = 0 + i by omega]
theorem sm_cnt (w : Nat → Int64) : ∀ j, smN (fun i => pcN (w i)) j = cnt (fbit w) 0 (64 * j)
  | 0 => rfl
  | j + 1 => by
    show smN (fun i => pcN (w i)) j + pcN (w j) = _
    rw [sm_cnt w j, show 64 * (j + 1) = 64 * j + 64 by omega, cnt_add, Nat.zero_add, cnt_word]
theorem onL_u : ∀ k, k < 64 → uL ((1 : Int64) <<< ((nI k).toInt64 &&& 63) - 1) = 2 ^ k - 1 := by decide +kernel
theorem onL_m (n : Nat) (i : Nat) : bl (onL n - 1) i = decide (i < n % 64) := by
  rw [bl_tb, onL, onL_u _ (Nat.mod_lt _ (by decide)), Nat.testBit_two_pow_sub_one]
theorem rk_cnt (w : Nat → Int64) (n : Nat) : rkC w n = cnt (fbit w) 0 n := by
  have e : n = 64 * (n / 64) + n % 64 := by omega
  have h1 : pcN (w (n / 64) &&& (onL n - 1)) = cnt (fbit w) (64 * (n / 64)) (n % 64) := by
    have h2 : pcN (w (n / 64) &&& (onL n - 1)) = cnt (bl (w (n / 64))) 0 (n % 64) := by
      rw [← cnt_mask (bl (w (n / 64))) (n % 64) 64 (by omega)]
      refine cnt_cong 64 (fun i hi => ?_)
      rw [l_and, onL_m]
    rw [h2, cnt_sh (fbit w)]
    refine cnt_cong _ (fun i hi => ?_)
    show bl (w (n / 64)) (0 + i) = bl (w ((64 * (n / 64) + (0 + i)) / 64)) ((64 * (n / 64) + (0 + i)) % 64)
    rw [show (64 * (n / 64) + (0 + i)) / 64 = n / 64 by omega, show (64 * (n / 64) + (0 + i)) % 64 = 0 + i by omega]
  unfold rkC
  rw [h1, sm_cnt]
  have h3 := cnt_add (fbit w) 0 (64 * (n / 64)) (n % 64)
  rw [Nat.zero_add, ← e] at h3
  exact h3.symm
-- the lowest bit
theorem odd_part : ∀ N, 0 < N → ∃ t q, N = 2 ^ t * (2 * q + 1) := by
  intro N
  induction N using Nat.strongRecOn with
  | _ N ih =>
    intro h
    by_cases h1 : N % 2 = 1
    · exact ⟨0, N / 2, by omega⟩
    · obtain ⟨t, q, e⟩ := ih (N / 2) (by omega) (by omega)
      refine ⟨t + 1, q, ?_⟩
      have e2 : N = 2 * (N / 2) := by omega
      rw [Nat.pow_succ, Nat.mul_comm (2 ^ t) 2, Nat.mul_assoc, ← e]
      exact e2
theorem tb_2q (q k : Nat) : (2 * q).testBit (k + 1) = q.testBit k := by rw [Nat.testBit_succ]; congr 1; omega
theorem tb_2q1 (q k : Nat) : (2 * q + 1).testBit (k + 1) = q.testBit k := by rw [Nat.testBit_succ]; congr 1; omega
theorem tb_e (q : Nat) : (2 * q).testBit 0 = false := by rw [Nat.testBit_zero]; exact decide_eq_false (by omega)
theorem tb_o (q : Nat) : (2 * q + 1).testBit 0 = true := by rw [Nat.testBit_zero]; exact decide_eq_true (by omega)
theorem low_n (N : Nat) (h : 0 < N) : ∃ t, N.testBit t = true ∧ (∀ i, i < t → N.testBit i = false) ∧ ∀ i, (N - 1).testBit i = if i < t then true else if i = t then false else N.testBit i := by
  obtain ⟨t, q, e⟩ := odd_part N h
  have p0 : 0 < 2 ^ t := Nat.two_pow_pos t
  have f1 : ∀ i, N.testBit i = if i < t then false else (2 * q + 1).testBit (i - t) := by
    intro i
    have := Nat.testBit_two_pow_mul_add (2 * q + 1) (b := 0) p0 i
    rw [Nat.add_zero, ← e, Nat.zero_testBit] at this
    exact this
  have e2 : N - 1 = 2 ^ t * (2 * q) + (2 ^ t - 1) := by
    rw [e, Nat.mul_add, Nat.mul_one]; omega
  have f2 : ∀ i, (N - 1).testBit i = if i < t then true else (2 * q).testBit (i - t) := by
    intro i
    have := Nat.testBit_two_pow_mul_add (2 * q) (b := 2 ^ t - 1) (i := t) (by omega) i
    rw [← e2, Nat.testBit_two_pow_sub_one] at this
    rw [this]
    by_cases hi : i < t
    · rw [if_pos hi, if_pos hi, decide_eq_true hi]
    · rw [if_neg hi, if_neg hi]
  refine ⟨t, ?_, fun i hi => ?_, fun i => ?_⟩
  · rw [f1, if_neg (Nat.lt_irrefl _), Nat.sub_self, tb_o]
  · rw [f1, if_pos hi]
  · rw [f2]
    by_cases hi : i < t
    · rw [if_pos hi, if_pos hi]
    · rw [if_neg hi, if_neg hi]
      by_cases hi2 : i = t
      · subst hi2
        rw [if_pos rfl, Nat.sub_self, tb_e]
      · rw [if_neg hi2, f1, if_neg hi]
        obtain ⟨k, hk⟩ : ∃ k, i - t = k + 1 := ⟨i - t - 1, by omega⟩
        rw [hk, tb_2q, tb_2q1]
theorem neg_not (y : Int64) (h : uL y ≠ 0) (i : Nat) (hi : i < 64) : bl (-y) i = !bl (y - 1) i := by
  have e : (-y).toBitVec = ~~~(y - 1).toBitVec := by
    apply BitVec.eq_of_toNat_eq
    have h1 : uL (y - 1) = uL y - 1 := uL_sub (y := 1) (by show 1 ≤ uL y; omega)
    have h2 : (y - 1).toBitVec.toNat = uL y - 1 := h1
    have h3 := uL_lt y
    rw [Int64.toBitVec_neg, BitVec.toNat_neg, BitVec.toNat_not, h2]
    show (2 ^ 64 - uL y) % 2 ^ 64 = 2 ^ 64 - 1 - (uL y - 1)
    omega
  show (-y).toBitVec.getLsbD i = !(y - 1).toBitVec.getLsbD i
  rw [e, BitVec.getLsbD_not]
  simp [hi]
theorem lowbit (y : Int64) (h : uL y ≠ 0) : ∃ t, t < 64 ∧ bl y t = true ∧ (∀ i, i < t → bl y i = false) ∧ pcN ((y &&& -y) - 1) = t ∧ ∀ i, i < 64 → bl (y &&& (y - 1)) i = (bl y i && decide (i ≠ t)) := by
  obtain ⟨t, h1, h2, h3⟩ := low_n (uL y) (by omega)
  have ht : t < 64 := by
    rcases Nat.lt_or_ge t 64 with g | g
    · exact g
    · have : bl y t = false := l_big g
      rw [bl_tb, h1] at this
      exact absurd this (by decide)
  have hs : uL (y - 1) = uL y - 1 := uL_sub (y := 1) (by show 1 ≤ uL y; omega)
  have h4 : ∀ i, bl (y - 1) i = if i < t then true else if i = t then false else bl y i := by
    intro i
    rw [bl_tb, hs, h3]
    rfl
  have h5 : ∀ i, i < 64 → bl (y &&& -y) i = decide (i = t) := by
    intro i hi
    rw [l_and, neg_not y h i hi, h4]
    by_cases g1 : i < t
    · rw [if_pos g1, bl_tb, h2 i g1, Bool.false_and, decide_eq_false (by omega)]
    · rw [if_neg g1]
      by_cases g2 : i = t
      · subst g2
        rw [if_pos rfl, bl_tb, h1, decide_eq_true rfl]; rfl
      · rw [if_neg g2, decide_eq_false g2]
        cases bl y i <;> rfl
  have h6 : (y &&& -y) = (1 : Int64) <<< ((nI t).toInt64 &&& 63) := l_ext (fun i hi => by rw [h5 i hi, bl_one t ht hi])
  refine ⟨t, ht, h1, h2, ?_, fun i hi => ?_⟩
  · rw [h6]
    have h7 : ∀ i, i < 64 → bl ((1 : Int64) <<< ((nI t).toInt64 &&& 63) - 1) (0 + i) = (fun i => (fun _ => true) i && decide (i < t)) (0 + i) := by
      intro i hi
      rw [bl_tb, onL_u t ht, Nat.testBit_two_pow_sub_one]
      rfl
    show cnt _ 0 64 = t
    rw [cnt_cong (q := fun i => (fun _ => true) i && decide (i < t)) 64 h7, cnt_mask (fun _ => true) t 64 (by omega)]
    have : ∀ k, cnt (fun _ => true) 0 k = k := by
      intro k
      induction k with
      | zero => rfl
      | succ k ih => rw [cnt_s, ih]; rfl
    exact this t
  · rw [l_and, h4]
    by_cases g1 : i < t
    · rw [if_pos g1, Bool.and_true, decide_eq_true (by omega), Bool.and_true]
    · rw [if_neg g1]
      by_cases g2 : i = t
      · subst g2
        rw [if_pos rfl, Bool.and_false, decide_eq_false (by simp), Bool.and_false]
      · rw [if_neg g2, decide_eq_true g2, Bool.and_true, Bool.and_self]
theorem uL_nz {y : Int64} {i : Nat} (h : bl y i = true) : uL y ≠ 0 := by
  intro e
  rw [bl_tb, e, Nat.zero_testBit] at h
  exact absurd h (by decide)
theorem drop_bits (x : Int64) : ∀ k, k ≤ pcN x → ∀ i, i < 64 → bl (dropL x k) i = (bl x i && decide (k ≤ cnt (bl x) 0 i))
  | 0, _, i, _ => by
    rw [decide_eq_true (Nat.zero_le _), Bool.and_true]
    rfl
  | k + 1, hk, i, hi => by
    have ih := drop_bits x k (by omega)
    obtain ⟨j, j1, j2, j3⟩ := cnt_ex (b := bl x) (k := k) 64 hk
    have hy : bl (dropL x k) j = true := by rw [ih j j1, j2, j3, decide_eq_true (Nat.le_refl _)]; rfl
    obtain ⟨t, t1, t2, t3, -, t5⟩ := lowbit (dropL x k) (uL_nz hy)
    show bl (dropL x k &&& (dropL x k - 1)) i = _
    rw [t5 i hi, ih i hi]
    rw [ih t t1] at t2
    simp only [Bool.and_eq_true, decide_eq_true_eq] at t2
    have ct : cnt (bl x) 0 t = k := by
      rcases Nat.lt_or_ge k (cnt (bl x) 0 t) with g | g
      · obtain ⟨i', g1, g2, g3⟩ := cnt_ex (b := bl x) (k := k) t g
        have := t3 i' g1
        rw [ih i' (by omega), g2, g3, decide_eq_true (Nat.le_refl _)] at this
        exact absurd this (by decide)
      · omega
    cases hb : bl x i with
    | false => rfl
    | true =>
      rw [Bool.true_and, Bool.true_and]
      by_cases e : i = t
      · subst e
        rw [decide_eq_false (show ¬ i ≠ i by simp), Bool.and_false, decide_eq_false (by omega)]
      · rw [decide_eq_true e, Bool.and_true]
        rcases Nat.lt_or_ge i t with g | g
        · have := t3 i g
          rw [ih i hi, hb, Bool.true_and] at this
          have h2 := of_decide_eq_false this
          rw [decide_eq_false h2, decide_eq_false (by omega)]
        · have := sel_lt (b := bl x) (show t < i by omega) t2.1
          rw [decide_eq_true (by omega), decide_eq_true (by omega)]
theorem pb_ok (x : Int64) {l : Nat} (h : l < pcN x) : pbC x l < 64 ∧ bl x (pbC x l) = true ∧ cnt (bl x) 0 (pbC x l) = l := by
  have ih := drop_bits x l (by omega)
  obtain ⟨j, j1, j2, j3⟩ := cnt_ex (b := bl x) (k := l) 64 h
  have hy : bl (dropL x l) j = true := by rw [ih j j1, j2, j3, decide_eq_true (Nat.le_refl _)]; rfl
  obtain ⟨t, t1, t2, t3, t4, -⟩ := lowbit (dropL x l) (uL_nz hy)
  unfold pbC
  rw [t4]
  rw [ih t t1] at t2
  simp only [Bool.and_eq_true, decide_eq_true_eq] at t2
  refine ⟨t1, t2.1, ?_⟩
  rcases Nat.lt_or_ge l (cnt (bl x) 0 t) with g | g
  · obtain ⟨i', g1, g2, g3⟩ := cnt_ex (b := bl x) (k := l) t g
    have := t3 i' g1
    rw [ih i' (by omega), g2, g3, decide_eq_true (Nat.le_refl _)] at this
    exact absurd this (by decide)
  · omega
theorem atC_sel (w : Nat → Int64) : ∀ k b l, b + k = 32 → Sel (fbit w) 2048 (cnt (fbit w) 0 (64 * b) + l) (atC w k b l)
  | 0, b, l, h => by
    have : b = 32 := by omega
    subst this
    exact Or.inr ⟨by show cnt (fbit w) 0 2048 ≤ cnt (fbit w) 0 2048 + l; omega, rfl⟩
  | k + 1, b, l, h => by
    rw [atC]
    by_cases hl : l < pcN (w b)
    · rw [if_pos hl]
      obtain ⟨h1, h2, h3⟩ := pb_ok (w b) hl
      refine Or.inl ⟨64 * b + pbC (w b) l, by omega, ?_, ?_, rfl⟩
      · show bl (w ((64 * b + pbC (w b) l) / 64)) ((64 * b + pbC (w b) l) % 64) = true
        rw [show (64 * b + pbC (w b) l) / 64 = b by omega, show (64 * b + pbC (w b) l) % 64 = pbC (w b) l by omega]
        exact h2
      · rw [cnt_add, Nat.zero_add]
        congr 1
        rw [cnt_sh]
        refine Eq.trans (cnt_cong _ (fun i hi => ?_)) h3
        show bl (w ((64 * b + (0 + i)) / 64)) ((64 * b + (0 + i)) % 64) = bl (w b) (0 + i)
        rw [show (64 * b + (0 + i)) / 64 = b by omega, show (64 * b + (0 + i)) % 64 = 0 + i by omega]
    · rw [if_neg hl]
      have ih := atC_sel w k (b + 1) (l - pcN (w b)) (by omega)
      have e := cnt_add (fbit w) 0 (64 * b) 64
      rw [Nat.zero_add, cnt_word, show 64 * b + 64 = 64 * (b + 1) by omega] at e
      rw [e, show cnt (fbit w) 0 (64 * b) + pcN (w b) + (l - pcN (w b)) = cnt (fbit w) 0 (64 * b) + l by omega] at ih
      exact ih
theorem atI_sel (w : Nat → Int64) {p : Nat} (hp : p < 2 ^ 31) : Sel (fbit w) 2048 p (atI w (nI p)) := by
  unfold atI
  rw [if_neg (nI_pos hp), ix_nI hp]
  have := atC_sel w 32 0 p rfl
  rw [Nat.mul_zero, show cnt (fbit w) 0 0 = 0 from rfl, Nat.zero_add] at this
  exact this

-- out of whole: 51.fleet.lean.txt
/-! One set on both sides: the fleet f of the class, the set s of the row g -/
def cm (w : Nat → Int64) (b : Nat) : Nat := cnt (fbit w) (256 * b) 256
def cr (w : Nat → Int64) (b : Nat) : Nat := cnt (runB (fbit w)) (256 * b) 256
theorem cm_le (w : Nat → Int64) (b : Nat) : cm w b ≤ 256 := cnt_le _ _ _
theorem cr_le (w : Nat → Int64) (b : Nat) : cr w b ≤ 256 := cnt_le _ _ _
/-- a boat's numbers and runs, as they are kept -/
def Ws (f : FR) : Prop := ∀ b, b < 8 → fs f b = nI (cm (fw f) b) ∧ fr f b = nI (cr (fw f) b)
def Kq (f : FR) : Prop := ∀ b, b < 8 → fk f b = 0 ∨ fk f b = 1 ∨ fk f b = 2
theorem b_not (x : Int32) {i : Nat} (hi : i < 32) : bt (x ^^^ (-1)) i = !bt x i := by rw [b_xor, b_m1 i hi, Bool.xor_true]
-- one number flips
theorem bl_xor1 (x : Int64) (n : Nat) {i : Nat} (hi : i < 64) : bl (x ^^^ onL n) i = (bl x i ^^ decide (i = n % 64)) := by
  rw [l_xor]
  unfold onL
  rw [bl_one _ (Nat.mod_lt _ (by decide)) hi]
theorem fb_fl (w : Nat → Int64) (n k : Nat) : fbit (flW w n) k = if k = n then !fbit w n else fbit w k := by
  unfold fbit flW vp_updL
  have hm := Nat.mod_lt k (show 0 < 64 by decide)
  by_cases h : k / 64 = n / 64
  · rw [if_pos h, bl_xor1 _ _ hm]
    by_cases e : k = n
    · subst e
      rw [if_pos rfl]; simp
    · have h3 : ¬ k % 64 = n % 64 := by omega
      rw [if_neg e, h]; simp [h3]
  · rw [if_neg h, if_neg (fun e => h (by rw [e]))]
theorem cnt_at {p q : Nat → Bool} {a k n : Nat} (h : ∀ j, j ≠ a + k → q j = p j) (hk : k < n) : cnt q a n + (if p (a + k) = true then 1 else 0) = cnt p a n + (if q (a + k) = true then 1 else 0) := by
  induction n with
  | zero => exact absurd hk (Nat.not_lt_zero _)
  | succ n ih =>
    rw [cnt_s, cnt_s]
    by_cases e : k = n
    · subst e
      rw [cnt_cong (q := p) k (fun j hj => h (a + j) (by omega))]
      omega
    · have := ih (by omega)
      rw [h (a + n) (by omega)]
      omega
theorem run_in {b c : Nat → Bool} {n : Nat} (hb : b n = false) (hc : c n = true) (h : ∀ j, j ≠ n → c j = b j) :
    cnt (runB c) (256 * (n / 256)) 256 + ((if 0 < n % 256 ∧ b (n - 1) = true then 1 else 0) + (if n % 256 < 255 ∧ b (n + 1) = true then 1 else 0)) = cnt (runB b) (256 * (n / 256)) 256 + 1 := by
  have en : 256 * (n / 256) + n % 256 = n := by omega
  have hm : n % 256 < 256 := Nat.mod_lt _ (by decide)
  have r1 : runB b n = false := by unfold runB; rw [hb]; rfl
  have r2 : runB c n = (decide (n % 256 = 0) || !b (n - 1)) := by
    unfold runB
    rw [hc, Bool.true_and]
    by_cases h0 : n % 256 = 0
    · rw [decide_eq_true h0, Bool.true_or, Bool.true_or]
    · rw [h (n - 1) (by omega)]
  have rj : ∀ j, j ≠ n → j ≠ n + 1 → runB c j = runB b j := by
    intro j h1 h2
    unfold runB
    rw [h j h1]
    by_cases h0 : j % 256 = 0
    · rw [decide_eq_true h0, Bool.true_or, Bool.true_or]
    · rw [h (j - 1) (by omega)]
  have s1 := cnt_at (p := runB b) (q := fun j => if j = n then runB c n else runB b j) (a := 256 * (n / 256)) (k := n % 256) (n := 256) (fun j hj => if_neg (by omega)) hm
  simp only [en, if_true, r1] at s1
  have s2 : cnt (runB c) (256 * (n / 256)) 256 + (if n % 256 < 255 ∧ b (n + 1) = true then 1 else 0) = cnt (fun j => if j = n then runB c n else runB b j) (256 * (n / 256)) 256 := by
    by_cases hp : n % 256 < 255
    · have s3 := cnt_at (p := fun j => if j = n then runB c n else runB b j) (q := runB c) (a := 256 * (n / 256)) (k := n % 256 + 1) (n := 256) (fun j hj => by
        by_cases e : j = n
        · subst e; exact (if_pos rfl).symm
        · show _ = if j = n then _ else _
          rw [if_neg e]; exact rj j e (by omega)) (by omega)
      have e1 : 256 * (n / 256) + (n % 256 + 1) = n + 1 := by omega
      have q1 : runB c (n + 1) = false := by
        unfold runB
        rw [Nat.add_sub_cancel, hc, decide_eq_false (show ¬ (n + 1) % 256 = 0 by omega)]
        simp
      have q2 : runB b (n + 1) = b (n + 1) := by
        unfold runB
        rw [Nat.add_sub_cancel, hb, decide_eq_false (show ¬ (n + 1) % 256 = 0 by omega)]
        simp
      simp only [e1, q1, show ¬ n + 1 = n by omega, if_false, q2] at s3
      by_cases hq : b (n + 1) = true
      · rw [if_pos hq] at s3
        rw [if_pos ⟨hp, hq⟩]
        simpa using s3
      · rw [if_neg hq] at s3
        rw [if_neg (fun h => hq h.2)]
        simpa using s3
    · rw [if_neg (fun h => hp h.1), Nat.add_zero]
      refine cnt_cong 256 (fun j hj => ?_)
      by_cases e : 256 * (n / 256) + j = n
      · rw [if_pos e, e]
      · rw [if_neg e]; exact rj _ e (by omega)
  have s4 : (if 0 < n % 256 ∧ b (n - 1) = true then 1 else 0) + (if runB c n = true then 1 else 0) = 1 := by
    rw [r2]
    by_cases h0 : n % 256 = 0
    · rw [decide_eq_true h0, if_neg (by omega)]; rfl
    · rw [decide_eq_false h0, Bool.false_or]
      cases hl : b (n - 1) with
      | true => rw [if_pos ⟨by omega, rfl⟩]; rfl
      | false => rw [if_neg (by simp)]; rfl
  simp only [Bool.false_eq_true, if_false, Nat.add_zero] at s1
  omega
theorem run_out {b c : Nat → Bool} {n b2 : Nat} (h : ∀ j, j ≠ n → c j = b j) (hb : b2 ≠ n / 256) : cnt (runB c) (256 * b2) 256 = cnt (runB b) (256 * b2) 256 := by
  refine cnt_cong 256 (fun j hj => ?_)
  unfold runB
  rw [h (256 * b2 + j) (by omega)]
  by_cases h0 : (256 * b2 + j) % 256 = 0
  · rw [decide_eq_true h0, Bool.true_or, Bool.true_or]
  · rw [h (256 * b2 + j - 1) (by omega)]
theorem cm_out {w : Nat → Int64} {n b2 : Nat} (hb : b2 ≠ n / 256) : cm (flW w n) b2 = cm w b2 := cnt_cong 256 (fun j hj => by rw [fb_fl, if_neg (by omega)])
theorem cr_out {w : Nat → Int64} {n b2 : Nat} (hb : b2 ≠ n / 256) : cr (flW w n) b2 = cr w b2 := run_out (n := n) (fun j hj => by rw [fb_fl, if_neg hj]) hb
theorem nb_fl (w : Nat → Int64) (n : Nat) : nbN (flW w n) n = nbN w n := by
  unfold nbN
  by_cases h0 : n = 0
  · subst h0
    have z : ∀ P : Prop, ¬ (0 < 0 % 256 ∧ P) := fun P h => absurd h.1 (by decide)
    rw [if_neg (z _), if_neg (z _), fb_fl, if_neg (show ¬ 0 + 1 = 0 by omega)]
  · rw [fb_fl, fb_fl, if_neg (show ¬ n - 1 = n by omega), if_neg (show ¬ n + 1 = n by omega)]
theorem cm_in (w : Nat → Int64) (n : Nat) : nI (cm (flW w n) (n / 256)) = nI (cm w (n / 256)) + chI (fbit w n) := by
  have en : 256 * (n / 256) + n % 256 = n := by omega
  have hm : n % 256 < 256 := Nat.mod_lt _ (by decide)
  unfold cm
  cases hb : fbit w n with
  | false =>
    rw [cnt_flip (b := fbit w) (c := fbit (flW w n)) (k := n % 256) (by rw [en]; exact hb) (by rw [en, fb_fl, if_pos rfl, hb]; rfl) (fun j hj => by rw [fb_fl, if_neg (by omega)]) 256, if_pos hm]
    exact (nI_add _ 1).symm
  | true =>
    rw [cnt_flip (b := fbit (flW w n)) (c := fbit w) (k := n % 256) (by rw [en, fb_fl, if_pos rfl, hb]; rfl) (by rw [en]; exact hb) (fun j hj => by rw [fb_fl, if_neg (by omega)]) 256, if_pos hm]
    show _ = _ + (-1)
    rw [nI_m1 (by omega), Nat.add_sub_cancel]
theorem i_ar1 (x y : Int32) : x + 1 * (1 - y) = x + 1 - y := by rw [Int32.one_mul, Int32.sub_eq_add_neg, Int32.sub_eq_add_neg, Int32.add_assoc]
theorem i_ar2 (x y : Int32) : x + -1 * (1 - y) = x + y - 1 := by
  rw [← Int32.neg_eq_neg_one_mul, Int32.neg_sub, Int32.sub_eq_add_neg, Int32.sub_eq_add_neg, Int32.add_assoc]
theorem cr_inn (w : Nat → Int64) (n : Nat) : nI (cr (flW w n) (n / 256)) = nI (cr w (n / 256)) + chI (fbit w n) * (1 - nI (nbN (flW w n) n)) := by
  have hnb : nbN (flW w n) n ≤ 2 := nbN_le _ _
  unfold cr
  cases hb : fbit w n with
  | false =>
    have h := run_in (b := fbit w) (c := fbit (flW w n)) hb (by rw [fb_fl, if_pos rfl, hb]; rfl) (fun j hj => by rw [fb_fl, if_neg hj])
    have h2 : cnt (runB (fbit (flW w n))) (256 * (n / 256)) 256 + nbN (flW w n) n = cnt (runB (fbit w)) (256 * (n / 256)) 256 + 1 := by rw [nb_fl]; exact h
    show _ = _ + 1 * _
    rw [i_ar1, show nI (cnt (runB (fbit w)) (256 * (n / 256)) 256) + 1 = nI (cnt (runB (fbit w)) (256 * (n / 256)) 256 + 1) from nI_add _ 1, ← h2, pk_sub (by omega), Nat.add_sub_cancel]
  | true =>
    have h := run_in (b := fbit (flW w n)) (c := fbit w) (by rw [fb_fl, if_pos rfl, hb]; rfl) hb (fun j hj => by rw [fb_fl, if_neg hj])
    have h2 : cnt (runB (fbit w)) (256 * (n / 256)) 256 + nbN (flW w n) n = cnt (runB (fbit (flW w n))) (256 * (n / 256)) 256 + 1 := h
    show _ = _ + -1 * _
    rw [i_ar2, nI_add, h2]
    exact (nI_pred _).symm
theorem ws_flip {f : FR} {n : Nat} (h : Ws f) (hn : n < 2048) : Ws (flipF f n) := by
  intro b hb
  show upd (fs f) (n / 256) (fs f (n / 256) + chI (fbit (fw f) n)) b = nI (cm (flW (fw f) n) b) ∧ upd (fr f) (n / 256) (fr f (n / 256) + chI (fbit (fw f) n) * (1 - nI (nbN (flW (fw f) n) n))) b = nI (cr (flW (fw f) n) b)
  unfold upd
  by_cases e : b = n / 256
  · subst e
    rw [if_pos rfl, if_pos rfl, cm_in, cr_inn, (h _ hb).1, (h _ hb).2]
    exact ⟨rfl, rfl⟩
  · rw [if_neg e, if_neg e, cm_out e, cr_out e]
    exact h b hb

-- out of whole: 52.moves.lean.txt
/-! Boats become others, numbers come and go, sets dock: both sides the same -/
theorem if_iff {α : Type} {p q : Prop} [Decidable p] [Decidable q] (h : p ↔ q) (x y : α) : (if p then x else y) = if q then x else y := by
  by_cases hp : p
  · rw [if_pos hp, if_pos (h.mp hp)]
  · rw [if_neg hp, if_neg (fun hq => hp (h.mpr hq))]
def bsT (m r : Nat) : Int32 := if m ≤ 16 then (if r ≤ 8 ∧ 3 * r < 2 * m then 2 else 0) else if r ≤ 8 then 2 else 1
def unT (k : Int32) (m r : Nat) : Nat := if k = 0 then 2 * m else if k = 1 then 32 else 3 * r
theorem unT_0 (m r : Nat) : unT 0 m r = 2 * m := rfl
theorem unT_1 (m r : Nat) : unT 1 m r = 32 := rfl
theorem unT_2 (m r : Nat) : unT 2 m r = 3 * r := rfl
theorem unT_le {k : Int32} {m r : Nat} (hm : m ≤ 256) (hr : r ≤ 256) : unT k m r < 2 ^ 31 := by
  unfold unT
  split
  · omega
  · split <;> omega
theorem unC_T {f : FR} {b : Nat} {k : Int32} {m r : Nat} (h1 : fs f b = nI m) (h2 : fr f b = nI r) (hk : k = 0 ∨ k = 1 ∨ k = 2) : unitsC f b k = nI (unT k m r) := by
  unfold unitsC
  rw [h1, h2]
  rcases hk with rfl | rfl | rfl
  · exact pk_mul 2 m
  · rfl
  · exact pk_mul 3 r
theorem hoC_0 {f : FR} {b m : Nat} (h1 : fs f b = nI m) (hm : m ≤ 256) : holdC f b 0 = decide (m ≤ 24) := by
  show decide (fs f b ≤ 24) = _
  rw [h1]
  exact decide_eq_decide.mpr (nI_leI (b := 24) (by omega) (by decide))
theorem hoC_2 {f : FR} {b r : Nat} (h2 : fr f b = nI r) (hr : r ≤ 256) : holdC f b 2 = decide (r ≤ 8) := by
  show decide (fr f b ≤ 8) = _
  rw [h2]
  exact decide_eq_decide.mpr (nI_leI (b := 8) (by omega) (by decide))
theorem hoC_1 (f : FR) (b : Nat) : holdC f b 1 = true := by
  unfold holdC
  rw [if_neg (by decide), if_neg (by decide)]
theorem bestC_T {f : FR} {b m r : Nat} (h1 : fs f b = nI m) (h2 : fr f b = nI r) (hm : m ≤ 256) (hr : r ≤ 256) : bestC f b = bsT m r := by
  have lt : ∀ k k', (nI (unT k m r) < nI (unT k' m r)) = (unT k m r < unT k' m r) := fun k k' => propext (nI_ltI (unT_le hm hr) (unT_le hm hr))
  have le : ∀ k k', (nI (unT k m r) ≤ nI (unT k' m r)) = (unT k m r ≤ unT k' m r) := fun k k' => propext (nI_leI (unT_le hm hr) (unT_le hm hr))
  have u0 := unC_T (k := 0) h1 h2 (Or.inl rfl)
  have u1 := unC_T (k := 1) h1 h2 (Or.inr (Or.inl rfl))
  have u2 := unC_T (k := 2) h1 h2 (Or.inr (Or.inr rfl))
  unfold bestC bsT
  simp only [hoC_2 h2 hr, hoC_0 h1 hm, u0, u1, u2, lt, le, decide_eq_true_eq]
  by_cases h16 : m ≤ 16
  · rw [if_pos (show m ≤ 24 ∧ unT 0 m r ≤ unT 1 m r from ⟨by omega, by rw [unT_0, unT_1]; omega⟩), if_pos h16]
    simp only [u0, lt]
    exact if_iff (by rw [unT_2, unT_0]) _ _
  · rw [if_neg (show ¬ (m ≤ 24 ∧ unT 0 m r ≤ unT 1 m r) from fun g => by rw [unT_0, unT_1] at g; omega), if_neg h16]
    simp only [u1, lt]
    refine Eq.trans (if_iff (q := r ≤ 8 ∧ 3 * r < 32) (by rw [unT_2, unT_1]) _ _) ?_
    by_cases h8 : r ≤ 8
    · rw [if_pos h8, if_pos (show r ≤ 8 ∧ 3 * r < 32 from ⟨h8, by omega⟩)]
    · rw [if_neg h8, if_neg (show ¬ (r ≤ 8 ∧ 3 * r < 32) from fun g => h8 g.1)]
theorem bsT_q (m r : Nat) : bsT m r = 0 ∨ bsT m r = 1 ∨ bsT m r = 2 := by
  unfold bsT
  split
  · split
    · exact Or.inr (Or.inr rfl)
    · exact Or.inl rfl
  · split
    · exact Or.inr (Or.inr rfl)
    · exact Or.inr (Or.inl rfl)
theorem bsT_0 (r : Nat) : bsT 0 r = 0 := by
  unfold bsT
  rw [if_pos (by omega), if_neg (by omega)]
theorem bsT_2 {m r : Nat} (h : bsT m r = 2) : r ≤ 8 := by
  unfold bsT at h
  split at h
  · split at h
    · omega
    · exact absurd h (by decide)
  · split at h
    · assumption
    · exact absurd h (by decide)
/-- no boat saves less than nothing -/
theorem bsT_le {k : Int32} {m r : Nat} (hk : k = 0 ∨ k = 1 ∨ k = 2) (h2 : k = 2 → r ≤ 8) : unT (bsT m r) m r ≤ unT k m r := by
  have h : ∀ q : Prop, [Decidable q] → ∀ x y : Int32, unT (if q then x else y) m r = if q then unT x m r else unT y m r := by
    intro q _ x y
    by_cases hq : q
    · rw [if_pos hq, if_pos hq]
    · rw [if_neg hq, if_neg hq]
  unfold bsT
  rw [h, h, h, unT_0, unT_1, unT_2]
  rcases hk with rfl | rfl | rfl
  · rw [unT_0]; split <;> first | omega | (split <;> omega)
  · rw [unT_1]; split <;> first | omega | (split <;> omega)
  · have := h2 rfl
    rw [unT_2]; split <;> first | omega | (split <;> omega)
theorem bsT_pos {m r : Nat} (hm : m ≠ 0) (hr : r ≠ 0) : 0 < unT (bsT m r) m r := by
  rcases bsT_q m r with h | h | h <;> rw [h]
  · rw [unT_0]; omega
  · rw [unT_1]; omega
  · rw [unT_2]; omega
theorem cm_cr {w : Nat → Int64} {b : Nat} (h : cm w b ≠ 0) : cr w b ≠ 0 := by
  intro e
  refine h (cnt_z 256 ?_)
  have hz := cnt_zz 256 e
  intro j
  induction j with
  | zero =>
    intro hj
    have := hz 0 hj
    unfold runB at this
    rw [decide_eq_true (show (256 * b + 0) % 256 = 0 by omega), Bool.true_or, Bool.and_true] at this
    exact this
  | succ j ih =>
    intro hj
    have h1 := hz (j + 1) hj
    have h2 := ih (by omega)
    unfold runB at h1
    rw [show 256 * b + (j + 1) - 1 = 256 * b + j by omega, h2, Bool.not_false, Bool.or_true, Bool.and_true] at h1
    exact h1
theorem kq_up {f : FR} {b : Nat} {k : Int32} (h : Kq f) (hk : k = 0 ∨ k = 1 ∨ k = 2) : ∀ b', b' < 8 → upd (fk f) b k b' = 0 ∨ upd (fk f) b k b' = 1 ∨ upd (fk f) b k b' = 2 := by
  intro b' hb'
  unfold upd
  split
  · exact hk
  · exact h b' hb'
theorem i_p1 (x : Int32) : x + 1 - 1 = x := by rw [Int32.sub_eq_add_neg, Int32.add_assoc]; show x + 0 = x; exact Int32.add_zero x
theorem bq_best {f : FR} {b : Nat} (h : Ws f) (hb : b < 8) : bestC f b = bsT (cm (fw f) b) (cr (fw f) b) := bestC_T (h b hb).1 (h b hb).2 (cm_le _ _) (cr_le _ _)
/-- a boat becomes one of the best kind -/
def bcF (f : FR) (b : Nat) : FR := fkS (fdS (fpS f (fp f - unitsC f b (bestC f b))) (fd f + unitsC f b (bestC f b))) (upd (fk f) b (bestC f b))
theorem bb_eq (f : FR) (b : Nat) : bbF f b = if bestC f b = fk f b ∨ fp f < unitsC f b (bestC f b) then (f, 0) else (bcF f b, unitsC f b (bestC f b)) := rfl
theorem go2_w {f : FR} {b : Nat} : fw (if fa f = false then (bbF f b).1 else f) = fw f ∧ ∀ b', b' ≠ b → fk (if fa f = false then (bbF f b).1 else f) b' = fk f b' := by
  by_cases ha : fa f = false
  · rw [if_pos ha, bb_eq]
    by_cases e : bestC f b = fk f b ∨ fp f < unitsC f b (bestC f b)
    · rw [if_pos e]; exact ⟨rfl, fun _ _ => rfl⟩
    · rw [if_neg e]; exact ⟨rfl, fun b' h => if_neg h⟩
  · rw [if_neg ha]; exact ⟨rfl, fun _ _ => rfl⟩
theorem nI_00 : nI 0 = 0 := rfl
theorem ad_w {f : FR} {b : Nat} : fw (adF f b).1 = fw f := by
  unfold adF
  split
  · rfl
  · split
    · rw [bb_eq]; split <;> rfl
    · rfl

-- out of whole: 53.dock.lean.txt
/-! Docking, and sets made of two others: both sides the same -/
theorem i_ar3 (t x y z : Int32) : t + x + (z - (y + x)) = t + (z - y) := by
  rw [Int32.sub_eq_add_neg, Int32.sub_eq_add_neg, Int32.neg_add, Int32.sub_eq_add_neg, Int32.add_assoc, Int32.add_comm z, ← Int32.add_assoc x, Int32.add_comm (-y), ← Int32.add_assoc x, Int32.add_right_neg, Int32.zero_add, Int32.add_comm z]
theorem i_xx (x : Int32) : x - x = 0 := Int32.sub_self x
theorem eh_none {f : FR} {L : Int32} (h : (bsN f L 8).1 = -5) : ∀ k tl, ehF k f tl L = (f, tl)
  | 0, _ => rfl
  | k + 1, tl => by
    unfold ehF
    rw [if_pos h]
    exact eh_none h k tl
theorem un_0 {L : Int32} (h : un L ≤ 0) {b : Nat} (hb : b < 8) : bt L b = true := by
  have := cnt_zz (b := fun j => !bt L j) (a := 0) 8 (by unfold un at h; omega) b hb
  rw [Nat.zero_add] at this
  revert this
  cases bt L b <;> simp
-- sets made of two others
/-- the first N numbers of gv have come -/
def Fp (gv : Nat → Bool) (N : Nat) (g : FR) : Prop := Ws g ∧ ∀ j, j < 2048 → fbit (fw g) j = (gv j && decide (j < N))
theorem fp_step {gv : Nat → Bool} {N : Nat} {g : FR} (h : Fp gv N g) (hN : N < 2048) : Fp gv (N + 1) (if gv N = true then flipF g N else g) := by
  have hz : fbit (fw g) N = false := by rw [h.2 N hN, decide_eq_false (Nat.lt_irrefl _), Bool.and_false]
  cases hv : gv N with
  | true =>
    rw [if_pos rfl]
    refine ⟨ws_flip h.1 hN, fun j hj => ?_⟩
    show fbit (flW (fw g) N) j = _
    rw [fb_fl]
    by_cases e : j = N
    · subst e
      rw [if_pos rfl, hz, hv, decide_eq_true (by omega)]; rfl
    · rw [if_neg e, h.2 j hj]
      congr 1
      exact decide_eq_decide.mpr (by omega)
  | false =>
    rw [if_neg (by decide)]
    refine ⟨h.1, fun j hj => ?_⟩
    rw [h.2 j hj]
    by_cases e : j = N
    · subst e
      rw [hv, Bool.false_and, Bool.false_and]
    · congr 1
      exact decide_eq_decide.mpr (by omega)
/-- the other fields stay -/
def Sm (g g' : FR) : Prop := fk g' = fk g ∧ fp g' = fp g ∧ fd g' = fd g ∧ fa g' = fa g
theorem sm_if {g : FR} {q : Prop} [Decidable q] {n : Nat} : Sm g (if q then flipF g n else g) := by
  by_cases h : q
  · rw [if_pos h]; exact ⟨rfl, rfl, rfl, rfl⟩
  · rw [if_neg h]; exact ⟨rfl, rfl, rfl, rfl⟩
theorem Sm.tr {g g' g'' : FR} (h : Sm g g') (h' : Sm g' g'') : Sm g g'' := ⟨h'.1.trans h.1, h'.2.1.trans h.2.1, h'.2.2.1.trans h.2.2.1, h'.2.2.2.trans h.2.2.2⟩
theorem fbI_ok {gv : Nat → Bool} {x : Int64} {b : Nat} (hb : b < 32) (hx : ∀ k, k < 64 → bl x k = gv (64 * b + k)) : ∀ (m k : Nat) (g : FR), k + m = 64 → Fp gv (64 * b + k) g → Fp gv (64 * (b + 1)) (fbI x b m k g) ∧ Sm g (fbI x b m k g)
  | 0, k, g, hk, h => by
    have : k = 64 := by omega
    subst this
    exact ⟨h, rfl, rfl, rfl, rfl⟩
  | m + 1, k, g, hk, h => by
    rw [fbI, hx k (by omega), show b * 64 + k = 64 * b + k by omega]
    have h2 := fp_step h (show 64 * b + k < 2048 by omega)
    obtain ⟨r1, r2⟩ := fbI_ok hb hx m (k + 1) _ (by omega) h2
    exact ⟨r1, sm_if.tr r2⟩
theorem fwO_ok {gv : Nat → Bool} {how : Int32} {o p : FR} (hx : ∀ b k, b < 32 → k < 64 → bl (joC how (fw o b) (fw p b)) k = gv (64 * b + k)) : ∀ (m b : Nat) (g : FR), b + m = 32 → Fp gv (64 * b) g → Fp gv 2048 (fwO how o p m b g) ∧ Sm g (fwO how o p m b g)
  | 0, b, g, hb, h => by
    have : b = 32 := by omega
    subst this
    exact ⟨h, rfl, rfl, rfl, rfl⟩
  | m + 1, b, g, hb, h => by
    rw [fwO]
    obtain ⟨r1, r2⟩ := fbI_ok (gv := gv) (show b < 32 by omega) (fun k hk => hx b k (by omega) hk) 64 0 g rfl h
    obtain ⟨t1, t2⟩ := fwO_ok hx m (b + 1) _ (by omega) r1
    exact ⟨t1, r2.tr t2⟩
theorem kbF_ok : ∀ (m b : Nat) (g : FR), fw (kbF m b g) = fw g ∧ fs (kbF m b g) = fs g ∧ fr (kbF m b g) = fr g ∧ fp (kbF m b g) = fp g ∧ fd (kbF m b g) = fd g ∧ fa (kbF m b g) = fa g ∧ ∀ j, fk (kbF m b g) j = if b ≤ j ∧ j < b + m then bestC g j else fk g j
  | 0, b, g => ⟨rfl, rfl, rfl, rfl, rfl, rfl, fun j => by rw [if_neg (by omega)]; rfl⟩
  | m + 1, b, g => by
    rw [kbF]
    obtain ⟨h1, h2, h3, h4, h5, h6, h7⟩ := kbF_ok m (b + 1) (fkS g (upd (fk g) b (bestC g b)))
    refine ⟨h1, h2, h3, h4, h5, h6, fun j => ?_⟩
    rw [h7 j]
    by_cases e : j = b
    · subst e
      rw [if_neg (by omega), if_pos (by omega)]
      exact if_pos rfl
    · by_cases e2 : b + 1 ≤ j ∧ j < b + 1 + m
      · rw [if_pos e2, if_pos (by omega)]; rfl
      · rw [if_neg e2, if_neg (by omega)]
        exact if_neg e
theorem fill_ok (f : FR) (gv : Nat → Bool) : Fp gv 0 (fillF f) := by
  have hz : ∀ j, j < 2048 → fbit (fw (fillF f)) j = false := by
    intro j hj
    show bl (filK 0 (fw f) 32 (j / 64)) (j % 64) = false
    unfold filK
    rw [if_pos (by omega)]
    exact l_0 _
  refine ⟨fun b hb => ⟨?_, ?_⟩, fun j hj => by rw [hz j hj, decide_eq_false (Nat.not_lt_zero _), Bool.and_false]⟩
  · show filK 0 (fs f) 8 b = _
    unfold filK cm
    rw [if_pos hb, cnt_z 256 (fun j hj => hz _ (by omega))]; rfl
  · show filK 0 (fr f) 8 b = _
    unfold filK cr
    rw [if_pos hb, cnt_z 256 (fun j hj => by unfold runB; rw [hz _ (by omega), Bool.false_and])]; rfl
theorem flF_ok {how : Int32} {o p f : FR} {gv : Nat → Bool} (hx : ∀ b k, b < 32 → k < 64 → bl (joC how (fw o b) (fw p b)) k = gv (64 * b + k)) :
    Ws (flF how o p f) ∧ (∀ j, j < 2048 → fbit (fw (flF how o p f)) j = gv j) ∧ (∀ b, b < 8 → fk (flF how o p f) b = bsT (cm (fw (flF how o p f)) b) (cr (fw (flF how o p f)) b)) ∧ fp (flF how o p f) = fp f ∧ fd (flF how o p f) = fd f ∧ fa (flF how o p f) = fa f := by
  obtain ⟨⟨r1, r2⟩, r3⟩ := fwO_ok hx 32 0 (fillF f) rfl (fill_ok f gv)
  obtain ⟨h1, h2, h3, h4, h5, h6, h7⟩ := kbF_ok 8 0 (fwO how o p 32 0 (fillF f))
  have w : Ws (flF how o p f) := fun b hb => by
    show fs (kbF 8 0 (fwO how o p 32 0 (fillF f))) b = nI (cm (fw (kbF 8 0 (fwO how o p 32 0 (fillF f)))) b) ∧ fr (kbF 8 0 (fwO how o p 32 0 (fillF f))) b = nI (cr (fw (kbF 8 0 (fwO how o p 32 0 (fillF f)))) b)
    rw [h1, h2, h3]
    exact r1 b hb
  refine ⟨w, fun j hj => ?_, fun b hb => ?_, h4.trans r3.2.1, h5.trans r3.2.2.1, h6.trans r3.2.2.2⟩
  · show fbit (fw (kbF 8 0 (fwO how o p 32 0 (fillF f)))) j = gv j
    rw [h1, r2 j hj, decide_eq_true hj, Bool.and_true]
  · show fk (kbF 8 0 (fwO how o p 32 0 (fillF f))) b = bsT (cm (fw (kbF 8 0 (fwO how o p 32 0 (fillF f)))) b) (cr (fw (kbF 8 0 (fwO how o p 32 0 (fillF f)))) b)
    rw [h7 b, if_pos (by omega), h1]
    exact bq_best r1 hb
theorem jo_bt {how : Int32} (hh : inB how 0 3 = true) (x y : Int64) {i : Nat} (hi : i < 64) : bl (joC how x y) i = givesB how (bl x i) (bl y i) := by
  have h3 := of_decide_eq_true hh
  obtain ⟨j, hj, rfl⟩ := nI_of (Int32.not_lt.mpr h3.1)
  have hj3 := (nI_leI (b := 3) hj (by decide)).mp h3.2
  have hn : ∀ a b, a < 4 → b < 4 → ((nI a = nI b) ↔ (a = b)) := fun a b ha hb => nI_eq (by omega) (by omega)
  rcases (show j = 0 ∨ j = 1 ∨ j = 2 ∨ j = 3 by omega) with rfl | rfl | rfl | rfl
  · show bl (x ||| y) i = (bl x i || bl y i)
    exact l_or x y i
  · show bl (x &&& y) i = (bl x i && bl y i)
    exact l_and x y i
  · show bl (x &&& (y ^^^ (-1))) i = (bl x i && !bl y i)
    rw [l_and, l_xor, l_m1 i hi, Bool.xor_true]
  · show bl (x ^^^ y) i = (bl x i != bl y i)
    rw [l_xor]

-- out of whole: 54.told.lean.txt
/-! What is told: both sides the same -/
theorem sum_cong {f g : Nat → Int32} : ∀ n, (∀ j, j < n → f j = g j) → sumI f n = sumI g n
  | 0, _ => rfl
  | n + 1, h => by
    show sumI f n + f n = sumI g n + g n
    rw [sum_cong n (fun j hj => h j (by omega)), h n (by omega)]
theorem sum_fs {f : FR} (h : Ws f) : ∀ k, k ≤ 8 → sumI (fs f) k = nI (cnt (fbit (fw f)) 0 (256 * k))
  | 0, _ => rfl
  | k + 1, hk => by
    show sumI (fs f) k + fs f k = _
    rw [sum_fs h k (by omega), (h k (by omega)).1, nI_add, show 256 * (k + 1) = 256 * k + 256 by omega, cnt_add, Nat.zero_add]
    rfl
theorem fs_0 {f : FR} (h : Ws f) {b : Nat} (hb : b < 8) : fs f b = 0 ↔ cm (fw f) b = 0 := by
  rw [(h b hb).1]
  exact nI_z (Nat.lt_of_le_of_lt (cm_le _ _) (by decide))
theorem fs_pos {f : FR} (h : Ws f) {b : Nat} (hb : b < 8) : 0 < fs f b ↔ cm (fw f) b ≠ 0 := by
  rw [(h b hb).1]
  have h1 : (nI 0 < nI (cm (fw f) b)) ↔ 0 < cm (fw f) b := nI_ltI (by decide) (Nat.lt_of_le_of_lt (cm_le _ _) (by decide))
  exact h1.trans (by omega)
theorem i_112 : ∀ x y z : Int32, x + 1 + y + z = x + y + z + 1 := fun x y z => by rw [Int32.add_assoc x, Int32.add_comm 1, ← Int32.add_assoc, Int32.add_assoc (x + y), Int32.add_comm 1, ← Int32.add_assoc]
theorem i_121 : ∀ x y z : Int32, x + (y + 1) + z = x + y + z + 1 := fun x y z => by rw [← Int32.add_assoc, Int32.add_assoc (x + y), Int32.add_comm 1, ← Int32.add_assoc]
theorem bkC_s (f : FR) (k : Int32) (n : Nat) : bkC f k (n + 1) = bkC f k n + (if 0 < fs f n ∧ fk f n = k then 1 else 0) := rfl
theorem cr_0 {w : Nat → Int64} {b : Nat} (h : cm w b = 0) : cr w b = 0 := cnt_z 256 (fun j hj => by unfold runB; rw [cnt_zz 256 h j hj, Bool.false_and])
theorem units_0 {f : FR} {b : Nat} {k : Int32} (h : Ws f) (hb : b < 8) (hc : cm (fw f) b = 0) (hk : k = 0) : unitsC f b k = 0 := by
  rw [unC_T (h b hb).1 (h b hb).2 (Or.inl hk), hk, unT_0, hc]; rfl
theorem best_0 {f : FR} {b : Nat} (h : Ws f) (hb : b < 8) (hc : cm (fw f) b = 0) : bestC f b = 0 := by rw [bq_best h hb, hc, bsT_0]
/-- what set(..) tells -/
def setF (f : FR) (what : Int32) : Int32 := if what = 0 then sumI (fs f) 8 else if what = 1 then bkC f 0 8 + bkC f 1 8 + bkC f 2 8 else
  if what = 2 then sumI (fun b => unitsC f b (fk f b)) 8 else if what = 3 then fp f else if what = 4 then bI (fa f) else
  if what = 5 then fd f else if what = 6 then sumI (fr f) 8 else if what = 7 then atI (fw f) 0 else
  if what = 8 then atI (fw f) (sumI (fs f) 8 - 1) else if what = 9 then sumI (fun b => unitsC f b (bestC f b)) 8 else -2
/-- what boat(..) tells -/
def boatF (f : FR) (b : Nat) (what : Int32) : Int32 := if what = 0 then fk f b else if what = 1 then fs f b else if what = 2 then fr f b else
  if what = 3 then unitsC f b (fk f b) else if what = 4 then bestC f b else tbC f b
theorem i_s1 (x y : Int32) : x - y + 1 = x + 1 - y := by rw [Int32.sub_eq_add_neg, Int32.sub_eq_add_neg, Int32.add_assoc, Int32.add_comm (-y), ← Int32.add_assoc]
theorem gap_ok (b : Nat → Bool) (b' : Nat → Bool) (e : ∀ n, n < 2048 → b n = b' n) {ln : Nat} (h1 : 1 ≤ ln) (h2 : ln ≤ 2048) : ∀ k n s, n + k = 2048 → s ≤ n → n - s < ln → gapF b (nI ln) k n s = gapN b' ln k n (n - s)
  | 0, _, _, _, _, _ => rfl
  | k + 1, n, s, hk, hs, hl => by
    unfold gapF gapN
    rw [← e n (by omega)]
    cases hb : b n with
    | true =>
      rw [if_pos rfl, if_pos rfl, if_neg (by omega)]
      have := gap_ok b b' e h1 h2 k (n + 1) (n + 1) (by omega) (Nat.le_refl _) (by omega)
      rw [Nat.sub_self] at this
      exact this
    | false =>
      have c0 : ∀ (α : Type) (x y : α), (if false = true then x else y) = y := fun _ _ _ => rfl
      rw [c0, c0]
      have e1 : nI n - nI s + 1 = nI (n - s + 1) := by rw [pk_sub hs]; exact nI_add _ 1
      rw [e1]
      by_cases c : n - s + 1 = ln
      · rw [if_pos ((nI_leI (by omega) (by omega)).mpr (by omega)), if_pos c, i_s1, show nI n + 1 = nI (n + 1) from nI_add _ 1, pk_sub (by omega)]
        congr 1; omega
      · rw [if_neg (fun z => by have := (nI_leI (by omega) (by omega)).mp z; omega), if_neg c]
        have := gap_ok b b' e h1 h2 k (n + 1) s (by omega) (by omega) (by omega)
        rw [show n + 1 - s = n - s + 1 by omega] at this
        exact this

-- out of whole: 55.harb.lean.txt
/-- a fleet may be said otherwise beyond its rows' ends -/
def Feq (f f' : FR) : Prop := (∀ j, j < 32 → fw f' j = fw f j) ∧ (∀ b, b < 8 → fk f' b = fk f b ∧ fs f' b = fs f b ∧ fr f' b = fr f b) ∧ fp f' = fp f ∧ fd f' = fd f ∧ fa f' = fa f
theorem feq_cp (o f : FR) : Feq o (cpF o f) := by
  refine ⟨fun j hj => ?_, fun b hb => ⟨?_, ?_, ?_⟩, rfl, rfl, rfl⟩
  · show va_cpy (fw o) (fw f) 0 0 32 j = _
    unfold va_cpy
    rw [if_pos (by omega), Nat.zero_add, Nat.sub_zero]
  · show va_cpy (fk o) (fk f) 0 0 8 b = _
    unfold va_cpy
    rw [if_pos (by omega), Nat.zero_add, Nat.sub_zero]
  · show va_cpy (fs o) (fs f) 0 0 8 b = _
    unfold va_cpy
    rw [if_pos (by omega), Nat.zero_add, Nat.sub_zero]
  · show va_cpy (fr o) (fr f) 0 0 8 b = _
    unfold va_cpy
    rw [if_pos (by omega), Nat.zero_add, Nat.sub_zero]
theorem or_bit {F : Nat → FR} (w : Nat) {i : Nat} : ∀ m, bl (orC F w m) i = decide (0 < cnt (fun j => bl (fw (F j) w) i) 0 m)
  | 0 => by
    show bl 0 i = _
    rw [l_0]; rfl
  | m + 1 => by
    show bl (orC F w m ||| fw (F m) w) i = _
    rw [l_or, or_bit w m, cnt_s, Nat.zero_add]
    cases bl (fw (F m) w) i with
    | true => rw [Bool.or_true, if_pos rfl, decide_eq_true (by omega)]
    | false => rw [Bool.or_false, if_neg (by decide), Nat.add_zero]
theorem ho_cnt (F : Nat → FR) (n : Nat) : ∀ m, hoC F n m = cnt (fun j => fbit (fw (F j)) n) 0 m
  | 0 => rfl
  | m + 1 => by
    show hoC F n m + _ = cnt _ 0 m + (if fbit (fw (F (0 + m))) n = true then 1 else 0)
    rw [ho_cnt F n m, Nat.zero_add]
theorem or_fb (F : Nat → FR) (m n : Nat) : fbit (fun w => orC F w m) n = decide (0 < hoC F n m) := by
  show bl (orC F (n / 64) m) (n % 64) = _
  rw [or_bit, ho_cnt]
  rfl
theorem lk_z {F : Nat → FR} {m w k : Nat} (h : orC F w m = 0) (hk : k < 64) : hoC F (w * 64 + k) m = 0 := by
  have : bl (orC F ((w * 64 + k) / 64) m) ((w * 64 + k) % 64) = decide (0 < hoC F (w * 64 + k) m) := or_fb F m (w * 64 + k)
  rw [show (w * 64 + k) / 64 = w by omega, show (w * 64 + k) % 64 = k by omega, h, l_0] at this
  have := of_decide_eq_false this.symm
  omega
theorem mostN_skip {c : Nat → Nat} {n : Nat} : ∀ k, (∀ j, j < k → c (n + j) = 0) → mostN c (n + k) = mostN c n
  | 0, _ => rfl
  | k + 1, h => by
    show (if (mostN c (n + k)).2 < c (n + k) then _ else mostN c (n + k)) = _
    rw [h k (by omega), if_neg (Nat.not_lt_zero _)]
    exact mostN_skip k (fun j hj => h j (by omega))
theorem mhI_ok {F : Nat → FR} {m w : Nat} : ∀ u k, mhI F m w u k (mostN (fun n => hoC F n m) (w * 64 + k)).1 (mostN (fun n => hoC F n m) (w * 64 + k)).2 = mostN (fun n => hoC F n m) (w * 64 + k + u)
  | 0, k => rfl
  | u + 1, k => by
    have ih := mhI_ok (F := F) (m := m) (w := w) u (k + 1)
    have e : mostN (fun n => hoC F n m) (w * 64 + (k + 1)) = if (mostN (fun n => hoC F n m) (w * 64 + k)).2 < hoC F (w * 64 + k) m then (nI (w * 64 + k), hoC F (w * 64 + k) m) else mostN (fun n => hoC F n m) (w * 64 + k) := rfl
    rw [mhI]
    rw [e] at ih
    rw [show w * 64 + k + (u + 1) = w * 64 + (k + 1) + u by omega]
    by_cases c : (mostN (fun n => hoC F n m) (w * 64 + k)).2 < hoC F (w * 64 + k) m
    · rw [if_pos c] at ih ⊢
      exact ih
    · rw [if_neg c] at ih ⊢
      exact ih
theorem mhO_ok {F : Nat → FR} {m : Nat} : ∀ u w, mhO F m u w (mostN (fun n => hoC F n m) (64 * w)).1 (mostN (fun n => hoC F n m) (64 * w)).2 = (mostN (fun n => hoC F n m) (64 * (w + u))).1
  | 0, w => rfl
  | u + 1, w => by
    rw [mhO]
    have e : mhI F m w (lkE F m w) 0 (mostN (fun n => hoC F n m) (64 * w)).1 (mostN (fun n => hoC F n m) (64 * w)).2 = mostN (fun n => hoC F n m) (64 * (w + 1)) := by
      have h1 := mhI_ok (F := F) (m := m) (w := w) (lkE F m w) 0
      rw [Nat.add_zero, Nat.mul_comm w 64] at h1
      rw [h1]
      unfold lkE
      by_cases c : orC F w m = 0
      · rw [if_pos c, Nat.add_zero]
        have h2 := mostN_skip (c := fun n => hoC F n m) (n := 64 * w) 64 (fun j hj => by
          have := lk_z c hj
          rw [Nat.mul_comm w 64] at this
          exact this)
        exact h2.symm
      · rw [if_neg c]
        rfl
    rw [e, mhO_ok u (w + 1), show w + 1 + u = w + (u + 1) by omega]
theorem i_lt {x c : Nat} (hx : x < 2 ^ 31) (hc : c ≤ 6) : (nI x - nI c < 0) ↔ x < c := by
  rcases Nat.lt_or_ge x c with h | h
  · refine ⟨fun _ => h, fun _ => ?_⟩
    have : ∀ c, c ≤ 6 → ∀ x, x < c → nI x - nI c < 0 := by decide
    exact this c hc x h
  · refine ⟨fun z => ?_, fun z => by omega⟩
    rw [pk_sub h] at z
    exact absurd z (nI_pos (by omega))
/-- at place x of all from n on -/
theorem oa_skip {c : Nat → Nat} {x : Nat} : ∀ k u n, (∀ j, j < k → c (n + j) = 0) → x < 2 ^ 31 → oaN c (k + u) n (nI x) = oaN c u (n + k) (nI x)
  | 0, u, n, _, _ => by rw [Nat.zero_add]; rfl
  | k + 1, u, n, h, hx => by
    rw [show k + 1 + u = (k + u) + 1 by omega, oaN]
    have h0 := h 0 (by omega)
    rw [Nat.add_zero] at h0
    rw [h0, if_neg (show ¬ nI x < nI 0 from nI_pos hx), pk_sub (Nat.zero_le _), Nat.sub_zero]
    have := oa_skip (c := c) (x := x) k u (n + 1) (fun j hj => by have := h (j + 1) (by omega); rw [show n + (j + 1) = n + 1 + j by omega] at this; exact this) hx
    rw [this, show n + 1 + k = n + (k + 1) by omega]
theorem naI_ok {F : Nat → FR} {m w : Nat} (hm : m ≤ 6) (hw : w < 32) {u : Nat} : ∀ v k x, k + v ≤ 64 → x < 2 ^ 31 → (¬ (naI F m w v k (nI x)).2 = -5 ∧ oaN (fun n => hoC F n m) (v + u) (w * 64 + k) (nI x) = (naI F m w v k (nI x)).2) ∨ (∃ y, y < 2 ^ 31 ∧ naI F m w v k (nI x) = (nI y, -5) ∧ oaN (fun n => hoC F n m) (v + u) (w * 64 + k) (nI x) = oaN (fun n => hoC F n m) u (w * 64 + k + v) (nI y))
  | 0, k, x, _, hx => Or.inr ⟨x, hx, rfl, by rw [Nat.zero_add]; rfl⟩
  | v + 1, k, x, hk, hx => by
    have hc : hoC F (w * 64 + k) m ≤ 6 := Nat.le_trans (hoC_le _ _ _) hm
    rw [show v + 1 + u = (v + u) + 1 by omega, oaN, naI]
    by_cases c : x < hoC F (w * 64 + k) m
    · rw [if_pos ((nI_ltI hx (by omega)).mpr c), if_pos ((i_lt hx hc).mpr c)]
      exact Or.inl ⟨nI_m5 (by omega), rfl⟩
    · rw [if_neg (fun z => c ((nI_ltI hx (by omega)).mp z)), if_neg (fun z => c ((i_lt hx hc).mp z)), pk_sub (by omega)]
      have := naI_ok (F := F) (m := m) (w := w) hm hw (u := u) v (k + 1) (x - hoC F (w * 64 + k) m) (by omega) (by omega)
      rw [show w * 64 + k + (v + 1) = w * 64 + (k + 1) + v by omega]
      exact this
theorem naO_ok {F : Nat → FR} {m : Nat} (hm : m ≤ 6) : ∀ u w x, w + u = 32 → x < 2 ^ 31 → naO F m u w (nI x) = oaN (fun n => hoC F n m) (64 * u) (64 * w) (nI x)
  | 0, w, x, _, _ => rfl
  | u + 1, w, x, hw, hx => by
    rw [naO]
    have ih := naO_ok (F := F) hm u (w + 1)
    by_cases c : orC F w m = 0
    · have e : lkE F m w = 0 := if_pos c
      rw [e]
      show (if (-5 : Int32) = -5 then naO F m u (w + 1) (nI x) else _) = _
      rw [if_pos rfl, ih x (by omega) hx]
      have h2 := oa_skip (c := fun n => hoC F n m) (x := x) 64 (64 * u) (64 * w) (fun j hj => by
        have := lk_z c hj
        rw [Nat.mul_comm w 64] at this
        exact this) hx
      rw [show 64 * (u + 1) = 64 + 64 * u by omega, h2]
      rfl
    · have e : lkE F m w = 64 := if_neg c
      rw [e]
      have h1 := naI_ok (F := F) (m := m) (w := w) hm (by omega) (u := 64 * u) 64 0 x (by omega) hx
      rw [show 64 * (u + 1) = 64 + 64 * u by omega]
      rw [Nat.add_zero, Nat.mul_comm w 64] at h1
      rcases h1 with ⟨a1, a2⟩ | ⟨y, y1, y2, y3⟩
      · rw [if_neg a1, a2]
      · rw [y2]
        show (if (-5 : Int32) = -5 then naO F m u (w + 1) (nI y) else _) = _
        rw [if_pos rfl, ih y (by omega) y1, y3]
        rfl
theorem oa_cong {c c' : Nat → Nat} : ∀ k n l, (∀ j, n ≤ j → j < n + k → c j = c' j) → oaN c k n l = oaN c' k n l
  | 0, _, _, _ => rfl
  | k + 1, n, l, h => by
    rw [oaN, oaN, h n (by omega) (by omega), oa_cong k (n + 1) _ (fun j h1 h2 => h j (by omega) (by omega))]

-- out of whole: 56.rel.lean.txt
theorem feq_rf (f : FR) : Feq f f := ⟨fun _ _ => rfl, fun _ _ => ⟨rfl, rfl, rfl⟩, rfl, rfl, rfl⟩
def Pq (q : Nat → Nat) : Prop := (∀ j, q j < 4) ∧ ∀ i j, i < 4 → j < 4 → q i = q j → i = j
def Hh (X : XS) : Prop := ∀ h, h < 6 → ∃ u, u ≤ 6 ∧ xh X h = nI u
/-- what a push leaves -/
theorem push_o {X : XS} {t m : Nat} : xn (pushX X t m) = xn X ∧ xc (pushX X t m) = xc X ∧ xl (pushX X t m) = xl X := by
  unfold pushX
  split <;> exact ⟨rfl, rfl, rfl⟩
theorem push_hh {X : XS} {t m : Nat} (h : Hh X) (hm : m ≤ 6) : Hh (pushX X t m) := by
  have key : ∀ (Z : XS) (t : Nat), Hh Z → Hh (pushA Z t m) := fun Z t hz h' hh' => by
    show ∃ u, u ≤ 6 ∧ va_up (xh Z) (2 + xq Z t) (nI m) h' = nI u
    by_cases e : h' = 2 + xq Z t
    · rw [e, va_up_self]; exact ⟨m, hm, rfl⟩
    · rw [va_up_ne _ _ e]; exact hz h' hh'
  unfold pushX
  split
  · exact key X t h
  · exact key (dropX X) 3 h
/-- but for the sets that are now, and the trial, nothing changed -/
def Ot (X X' : XS) : Prop := (∀ i, 6 ≤ i → i < 36 → X'.1 i = X.1 i) ∧ (∀ h, 1 ≤ h → h < 6 → xh X' h = xh X h) ∧ xq X' = xq X ∧ xz X' = xz X ∧ xn X' = xn X ∧ xc X' = xc X ∧ xl X' = xl X
theorem Ot.rf {X : XS} : Ot X X := ⟨fun _ _ _ => rfl, fun _ _ _ => rfl, rfl, rfl, rfl, rfl, rfl⟩
theorem Ot.tr {X X' X'' : XS} (h : Ot X X') (h' : Ot X' X'') : Ot X X'' := ⟨fun i a b => (h'.1 i a b).trans (h.1 i a b), fun i a b => (h'.2.1 i a b).trans (h.2.1 i a b), h'.2.2.1.trans h.2.2.1, h'.2.2.2.1.trans h.2.2.2.1, h'.2.2.2.2.1.trans h.2.2.2.2.1, h'.2.2.2.2.2.1.trans h.2.2.2.2.2.1, h'.2.2.2.2.2.2.trans h.2.2.2.2.2.2⟩
theorem Ot.fi {X : XS} {i : Nat} {f : FR} (hi : i < 6 ∨ i = 36) : Ot X (xFi X i f) := ⟨fun j h1 h2 => xFi_ne X f (by omega), fun _ _ _ => rfl, rfl, rfl, rfl, rfl, rfl⟩
theorem bF {b : Bool} (h : ¬ b = false) : b = true := by revert h; cases b <;> simp

-- out of whole: 57.acts.lean.txt
section ACTS
variable {X : XS} {Y : YS} {m t L : Nat} {sn : Bool}
theorem mv1 (c : Bool) (n : Nat) (f : FR) : mvF c (n + 1 - n) n 0 f = if fbit (fw f) n = c then (f, 0) else if (adF (flipF f n) (n / 256)).2 = true then ((adF (flipF f n) (n / 256)).1, 1) else ((adF (flipF f n) (n / 256)).1, -3) := by
  rw [show n + 1 - n = 1 by omega]
  rfl
theorem cm_at {w : Nat → Int64} {n : Nat} (h : fbit w n = true) : cm w (n / 256) ≠ 0 := fun e => by
  have := cnt_zz 256 e (n % 256) (Nat.mod_lt _ (by decide))
  rw [show 256 * (n / 256) + n % 256 = n by omega, h] at this
  exact absurd this (by decide)
theorem st_1 (Z : XS) (t m k : Nat) : stX Z t m k 1 = (1, xFi (pushX Z t m) k (cpF ((pushX Z t m).1 36) ((pushX Z t m).1 k))) := by
  unfold stX
  rw [if_neg (by decide), if_neg (by decide)]
theorem sum_feq {f f' : FR} (e : Feq f f') : sumI (fs f') 8 = sumI (fs f) 8 := sum_cong 8 (fun j hj => (e.2.1 j hj).2.1)
end ACTS
