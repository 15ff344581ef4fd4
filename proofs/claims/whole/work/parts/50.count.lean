/-! Counting over bits: ranks, places, the lowest bit of a word -/
theorem cnt_s (b : Nat → Bool) (a n : Nat) : cnt b a (n + 1) = cnt b a n + (if b (a + n) = true then 1 else 0) := rfl
theorem cnt_add (b : Nat → Bool) (a m : Nat) : ∀ n, cnt b a (m + n) = cnt b a m + cnt b (a + m) n
  | 0 => rfl
  | n + 1 => by
    have ih := cnt_add b a m n
    show cnt b a (m + n) + (if b (a + (m + n)) = true then 1 else 0) = cnt b a m + (cnt b (a + m) n + (if b (a + m + n) = true then 1 else 0))
    rw [ih, Nat.add_assoc a m n, Nat.add_assoc]
theorem cnt_sh (b : Nat → Bool) (a : Nat) : ∀ n, cnt b a n = cnt (fun j => b (a + j)) 0 n
  | 0 => rfl
  | n + 1 => by
    rw [cnt_s, cnt_s, cnt_sh b a n, Nat.zero_add]
theorem cnt_mono (b : Nat → Bool) (a : Nat) {m n : Nat} (h : m ≤ n) : cnt b a m ≤ cnt b a n := by
  obtain ⟨k, rfl⟩ := Nat.le.dest h
  rw [cnt_add]; omega
/-- one bit comes -/
theorem cnt_flip {b c : Nat → Bool} {a k : Nat} (hb : b (a + k) = false) (hc : c (a + k) = true) (h : ∀ j, j ≠ a + k → c j = b j) : ∀ n, cnt c a n = cnt b a n + (if k < n then 1 else 0)
  | 0 => by simp [cnt]
  | n + 1 => by
    rw [cnt_s, cnt_s, cnt_flip hb hc h n]
    by_cases e : n = k
    · subst e
      rw [hb, hc]
      simp
    · rw [h (a + n) (by omega)]
      by_cases h1 : k < n
      · rw [if_pos h1, if_pos (show k < n + 1 by omega)]; omega
      · rw [if_neg h1, if_neg (show ¬ k < n + 1 by omega)]; omega
theorem cnt_z {b : Nat → Bool} {a : Nat} : ∀ n, (∀ j, j < n → b (a + j) = false) → cnt b a n = 0
  | 0, _ => rfl
  | n + 1, h => by rw [cnt_s, cnt_z n (fun j hj => h j (by omega)), h n (by omega)]; rfl
theorem cnt_zz {b : Nat → Bool} {a : Nat} : ∀ n, cnt b a n = 0 → ∀ j, j < n → b (a + j) = false
  | 0, _, j, hj => absurd hj (Nat.not_lt_zero _)
  | n + 1, h, j, hj => by
    rw [cnt_s] at h
    by_cases e : j = n
    · subst e
      cases hb : b (a + j) with
      | false => rfl
      | true => rw [hb] at h; simp at h
    · exact cnt_zz n (by omega) j (by omega)
theorem cnt_mask (b : Nat → Bool) (k : Nat) : ∀ n, k ≤ n → cnt (fun i => b i && decide (i < k)) 0 n = cnt b 0 k
  | 0, h => by
    have : k = 0 := by omega
    subst this; rfl
  | n + 1, h => by
    by_cases e : k = n + 1
    · subst e
      refine cnt_cong _ (fun j hj => ?_)
      rw [Nat.zero_add, decide_eq_true hj, Bool.and_true]
    · rw [cnt_s, cnt_mask b k n (by omega)]
      rw [Nat.zero_add, decide_eq_false (show ¬ n < k by omega), Bool.and_false]
      rfl
theorem cnt_ex {b : Nat → Bool} {k : Nat} : ∀ n, k < cnt b 0 n → ∃ i, i < n ∧ b i = true ∧ cnt b 0 i = k
  | 0, h => absurd h (Nat.not_lt_zero _)
  | n + 1, h => by
    rw [cnt_s, Nat.zero_add] at h
    by_cases h1 : k < cnt b 0 n
    · obtain ⟨i, h2, h3⟩ := cnt_ex n h1
      exact ⟨i, by omega, h3⟩
    · cases hb : b n with
      | false => rw [hb] at h; simp at h; omega
      | true => rw [hb] at h; simp at h; exact ⟨n, by omega, hb, by omega⟩
/-- the number at place p: there is one at most -/
def Sel (b : Nat → Bool) (N p : Nat) (r : Int32) : Prop := (∃ n, n < N ∧ b n = true ∧ cnt b 0 n = p ∧ r = nI n) ∨ (cnt b 0 N ≤ p ∧ r = -5)
theorem sel_lt {b : Nat → Bool} {n n' : Nat} (h : n < n') (hb : b n = true) : cnt b 0 n < cnt b 0 n' := by
  have h1 := cnt_mono b 0 (show n + 1 ≤ n' by omega)
  rw [cnt_s, Nat.zero_add, if_pos hb] at h1
  omega
theorem Sel.one {b : Nat → Bool} {N p : Nat} {r r' : Int32} (h : Sel b N p r) (h' : Sel b N p r') : r = r' := by
  rcases h with ⟨n, h1, h2, h3, rfl⟩ | ⟨h1, rfl⟩ <;> rcases h' with ⟨n', g1, g2, g3, rfl⟩ | ⟨g1, rfl⟩
  · rcases Nat.lt_trichotomy n n' with h | h | h
    · have := sel_lt h h2; omega
    · rw [h]
    · have := sel_lt h g2; omega
  · have := sel_lt h1 h2; omega
  · have := sel_lt g1 g2; omega
  · rfl
theorem Sel.cong {b c : Nat → Bool} {N p : Nat} {r : Int32} (e : ∀ j, j < N → b j = c j) (h : Sel b N p r) : Sel c N p r := by
  have ec : ∀ n, n ≤ N → cnt b 0 n = cnt c 0 n := fun n hn => cnt_cong n (fun j hj => by rw [Nat.zero_add]; exact e j (by omega))
  rcases h with ⟨n, h1, h2, h3, h4⟩ | ⟨h1, h2⟩
  · exact Or.inl ⟨n, h1, by rw [← e n h1]; exact h2, by rw [← ec n (by omega)]; exact h3, h4⟩
  · exact Or.inr ⟨by rw [← ec N (Nat.le_refl _)]; exact h1, h2⟩
theorem upF_sel (b : Nat → Bool) {N : Nat} : ∀ k n, n + k = N → Sel b N (cnt b 0 n) (upF b k n)
  | 0, n, h => Or.inr ⟨by rw [← h]; exact Nat.le_refl _, rfl⟩
  | k + 1, n, h => by
    rw [upF]
    by_cases hb : b n = true
    · rw [if_pos hb]
      exact Or.inl ⟨n, by omega, hb, rfl, rfl⟩
    · rw [if_neg hb]
      have ih := upF_sel b (N := N) k (n + 1) (by omega)
      rw [cnt_s, Nat.zero_add, if_neg hb, Nat.add_zero] at ih
      exact ih
theorem dnF_sel (b : Nat → Bool) {N : Nat} : ∀ n, n ≤ N → (cnt b 0 n = 0 ∧ dnF b n = -5) ∨ (0 < cnt b 0 n ∧ Sel b N (cnt b 0 n - 1) (dnF b n))
  | 0, _ => Or.inl ⟨rfl, rfl⟩
  | n + 1, h => by
    rw [dnF, cnt_s, Nat.zero_add]
    by_cases hb : b n = true
    · rw [if_pos hb, if_pos hb]
      exact Or.inr ⟨by omega, Or.inl ⟨n, by omega, hb, by omega, rfl⟩⟩
    · rw [if_neg hb, if_neg hb]
      exact dnF_sel b n (by omega)
theorem nI_m1 {x : Nat} (h : x ≠ 0) : nI x + (-1) = nI (x - 1) := by
  obtain ⟨y, rfl⟩ := Nat.exists_eq_succ_of_ne_zero h
  rw [← Int32.sub_eq_add_neg, Nat.succ_eq_add_one, nI_pred, Nat.add_sub_cancel]
theorem nI_z {x : Nat} (h : x < 2 ^ 31) : nI x = 0 ↔ x = 0 := nI_eq (b := 0) h (by decide)
theorem atN_sel (b : Nat → Bool) {N : Nat} : ∀ k n x, n + k = N → x < 2 ^ 31 → Sel b N (cnt b 0 n + x) (atN b k n (nI x))
  | 0, n, x, h, _ => Or.inr ⟨by rw [← h]; show cnt b 0 n ≤ _; omega, rfl⟩
  | k + 1, n, x, h, hx => by
    rw [atN]
    by_cases hb : b n = true
    · rw [if_pos hb]
      by_cases h0 : x = 0
      · subst h0
        rw [if_pos (show nI 0 = 0 from rfl)]
        exact Or.inl ⟨n, by omega, hb, rfl, rfl⟩
      · rw [if_neg (fun e => h0 ((nI_z hx).mp e)), nI_m1 h0]
        have ih := atN_sel b (N := N) k (n + 1) (x - 1) (by omega) (by omega)
        rw [cnt_s, Nat.zero_add, if_pos hb, show cnt b 0 n + 1 + (x - 1) = cnt b 0 n + x by omega] at ih
        exact ih
    · rw [if_neg hb]
      have ih := atN_sel b (N := N) k (n + 1) x (by omega) hx
      rw [cnt_s, Nat.zero_add, if_neg hb, Nat.add_zero] at ih
      exact ih
-- words
theorem bl_tb (x : Int64) (i : Nat) : bl x i = (uL x).testBit i := rfl
theorem uL_ext {x y : Int64} (h : uL x = uL y) : x = y := Int64.toBitVec_inj.mp (BitVec.eq_of_toNat_eq h)
theorem cnt_word (w : Nat → Int64) (j : Nat) : cnt (fbit w) (64 * j) 64 = pcN (w j) := by
  rw [cnt_sh]
  refine cnt_cong 64 (fun i hi => ?_)
  show bl (w ((64 * j + (0 + i)) / 64)) ((64 * j + (0 + i)) % 64) = bl (w j) (0 + i)
  rw [show (64 * j + (0 + i)) / 64 = j by omega, show (64 * j + (0 + i)) % 64 = 0 + i by omega]
theorem sm_cnt (w : Nat → Int64) : ∀ j, smN (fun i => pcN (w i)) j = cnt (fbit w) 0 (64 * j)
  | 0 => rfl
  | j + 1 => by
    show smN (fun i => pcN (w i)) j + pcN (w j) = _
    rw [sm_cnt w j, show 64 * (j + 1) = 64 * j + 64 by omega, cnt_add, Nat.zero_add, cnt_word]
theorem onL_u : ∀ k, k < 64 → uL ((1 : Int64) <<< ((nI k).toInt64 &&& 63) - 1) = 2 ^ k - 1 := by decide +kernel
theorem onL_m (n : Nat) (i : Nat) : bl (onL n - 1) i = decide (i < n % 64) := by
  rw [bl_tb, onL, onL_u _ (Nat.mod_lt _ (by decide)), Nat.testBit_two_pow_sub_one]
theorem rk_cnt (w : Nat → Int64) (n : Nat) : rkC w n = cnt (fbit w) 0 n := by
  have e : n = 64 * (n / 64) + n % 64 := by omega
  have h1 : pcN (w (n / 64) &&& (onL n - 1)) = cnt (fbit w) (64 * (n / 64)) (n % 64) := by
    have h2 : pcN (w (n / 64) &&& (onL n - 1)) = cnt (bl (w (n / 64))) 0 (n % 64) := by
      rw [← cnt_mask (bl (w (n / 64))) (n % 64) 64 (by omega)]
      refine cnt_cong 64 (fun i hi => ?_)
      rw [l_and, onL_m]
    rw [h2, cnt_sh (fbit w)]
    refine cnt_cong _ (fun i hi => ?_)
    show bl (w (n / 64)) (0 + i) = bl (w ((64 * (n / 64) + (0 + i)) / 64)) ((64 * (n / 64) + (0 + i)) % 64)
    rw [show (64 * (n / 64) + (0 + i)) / 64 = n / 64 by omega, show (64 * (n / 64) + (0 + i)) % 64 = 0 + i by omega]
  unfold rkC
  rw [h1, sm_cnt]
  have h3 := cnt_add (fbit w) 0 (64 * (n / 64)) (n % 64)
  rw [Nat.zero_add, ← e] at h3
  exact h3.symm
-- the lowest bit
theorem odd_part : ∀ N, 0 < N → ∃ t q, N = 2 ^ t * (2 * q + 1) := by
  intro N
  induction N using Nat.strongRecOn with
  | _ N ih =>
    intro h
    by_cases h1 : N % 2 = 1
    · exact ⟨0, N / 2, by omega⟩
    · obtain ⟨t, q, e⟩ := ih (N / 2) (by omega) (by omega)
      refine ⟨t + 1, q, ?_⟩
      have e2 : N = 2 * (N / 2) := by omega
      rw [Nat.pow_succ, Nat.mul_comm (2 ^ t) 2, Nat.mul_assoc, ← e]
      exact e2
theorem tb_2q (q k : Nat) : (2 * q).testBit (k + 1) = q.testBit k := by rw [Nat.testBit_succ]; congr 1; omega
theorem tb_2q1 (q k : Nat) : (2 * q + 1).testBit (k + 1) = q.testBit k := by rw [Nat.testBit_succ]; congr 1; omega
theorem tb_e (q : Nat) : (2 * q).testBit 0 = false := by rw [Nat.testBit_zero]; exact decide_eq_false (by omega)
theorem tb_o (q : Nat) : (2 * q + 1).testBit 0 = true := by rw [Nat.testBit_zero]; exact decide_eq_true (by omega)
theorem low_n (N : Nat) (h : 0 < N) : ∃ t, N.testBit t = true ∧ (∀ i, i < t → N.testBit i = false) ∧ ∀ i, (N - 1).testBit i = if i < t then true else if i = t then false else N.testBit i := by
  obtain ⟨t, q, e⟩ := odd_part N h
  have p0 : 0 < 2 ^ t := Nat.two_pow_pos t
  have f1 : ∀ i, N.testBit i = if i < t then false else (2 * q + 1).testBit (i - t) := by
    intro i
    have := Nat.testBit_two_pow_mul_add (2 * q + 1) (b := 0) p0 i
    rw [Nat.add_zero, ← e, Nat.zero_testBit] at this
    exact this
  have e2 : N - 1 = 2 ^ t * (2 * q) + (2 ^ t - 1) := by
    rw [e, Nat.mul_add, Nat.mul_one]; omega
  have f2 : ∀ i, (N - 1).testBit i = if i < t then true else (2 * q).testBit (i - t) := by
    intro i
    have := Nat.testBit_two_pow_mul_add (2 * q) (b := 2 ^ t - 1) (i := t) (by omega) i
    rw [← e2, Nat.testBit_two_pow_sub_one] at this
    rw [this]
    by_cases hi : i < t
    · rw [if_pos hi, if_pos hi, decide_eq_true hi]
    · rw [if_neg hi, if_neg hi]
  refine ⟨t, ?_, fun i hi => ?_, fun i => ?_⟩
  · rw [f1, if_neg (Nat.lt_irrefl _), Nat.sub_self, tb_o]
  · rw [f1, if_pos hi]
  · rw [f2]
    by_cases hi : i < t
    · rw [if_pos hi, if_pos hi]
    · rw [if_neg hi, if_neg hi]
      by_cases hi2 : i = t
      · subst hi2
        rw [if_pos rfl, Nat.sub_self, tb_e]
      · rw [if_neg hi2, f1, if_neg hi]
        obtain ⟨k, hk⟩ : ∃ k, i - t = k + 1 := ⟨i - t - 1, by omega⟩
        rw [hk, tb_2q, tb_2q1]
theorem neg_not (y : Int64) (h : uL y ≠ 0) (i : Nat) (hi : i < 64) : bl (-y) i = !bl (y - 1) i := by
  have e : (-y).toBitVec = ~~~(y - 1).toBitVec := by
    apply BitVec.eq_of_toNat_eq
    have h1 : uL (y - 1) = uL y - 1 := uL_sub (y := 1) (by show 1 ≤ uL y; omega)
    have h2 : (y - 1).toBitVec.toNat = uL y - 1 := h1
    have h3 := uL_lt y
    rw [Int64.toBitVec_neg, BitVec.toNat_neg, BitVec.toNat_not, h2]
    show (2 ^ 64 - uL y) % 2 ^ 64 = 2 ^ 64 - 1 - (uL y - 1)
    omega
  show (-y).toBitVec.getLsbD i = !(y - 1).toBitVec.getLsbD i
  rw [e, BitVec.getLsbD_not]
  simp [hi]
theorem lowbit (y : Int64) (h : uL y ≠ 0) : ∃ t, t < 64 ∧ bl y t = true ∧ (∀ i, i < t → bl y i = false) ∧ pcN ((y &&& -y) - 1) = t ∧ ∀ i, i < 64 → bl (y &&& (y - 1)) i = (bl y i && decide (i ≠ t)) := by
  obtain ⟨t, h1, h2, h3⟩ := low_n (uL y) (by omega)
  have ht : t < 64 := by
    rcases Nat.lt_or_ge t 64 with g | g
    · exact g
    · have : bl y t = false := l_big g
      rw [bl_tb, h1] at this
      exact absurd this (by decide)
  have hs : uL (y - 1) = uL y - 1 := uL_sub (y := 1) (by show 1 ≤ uL y; omega)
  have h4 : ∀ i, bl (y - 1) i = if i < t then true else if i = t then false else bl y i := by
    intro i
    rw [bl_tb, hs, h3]
    rfl
  have h5 : ∀ i, i < 64 → bl (y &&& -y) i = decide (i = t) := by
    intro i hi
    rw [l_and, neg_not y h i hi, h4]
    by_cases g1 : i < t
    · rw [if_pos g1, bl_tb, h2 i g1, Bool.false_and, decide_eq_false (by omega)]
    · rw [if_neg g1]
      by_cases g2 : i = t
      · subst g2
        rw [if_pos rfl, bl_tb, h1, decide_eq_true rfl]; rfl
      · rw [if_neg g2, decide_eq_false g2]
        cases bl y i <;> rfl
  have h6 : (y &&& -y) = (1 : Int64) <<< ((nI t).toInt64 &&& 63) := l_ext (fun i hi => by rw [h5 i hi, bl_one t ht hi])
  refine ⟨t, ht, h1, h2, ?_, fun i hi => ?_⟩
  · rw [h6]
    have h7 : ∀ i, i < 64 → bl ((1 : Int64) <<< ((nI t).toInt64 &&& 63) - 1) (0 + i) = (fun i => (fun _ => true) i && decide (i < t)) (0 + i) := by
      intro i hi
      rw [bl_tb, onL_u t ht, Nat.testBit_two_pow_sub_one]
      rfl
    show cnt _ 0 64 = t
    rw [cnt_cong (q := fun i => (fun _ => true) i && decide (i < t)) 64 h7, cnt_mask (fun _ => true) t 64 (by omega)]
    have : ∀ k, cnt (fun _ => true) 0 k = k := by
      intro k
      induction k with
      | zero => rfl
      | succ k ih => rw [cnt_s, ih]; rfl
    exact this t
  · rw [l_and, h4]
    by_cases g1 : i < t
    · rw [if_pos g1, Bool.and_true, decide_eq_true (by omega), Bool.and_true]
    · rw [if_neg g1]
      by_cases g2 : i = t
      · subst g2
        rw [if_pos rfl, Bool.and_false, decide_eq_false (by simp), Bool.and_false]
      · rw [if_neg g2, decide_eq_true g2, Bool.and_true, Bool.and_self]
theorem uL_nz {y : Int64} {i : Nat} (h : bl y i = true) : uL y ≠ 0 := by
  intro e
  rw [bl_tb, e, Nat.zero_testBit] at h
  exact absurd h (by decide)
theorem drop_bits (x : Int64) : ∀ k, k ≤ pcN x → ∀ i, i < 64 → bl (dropL x k) i = (bl x i && decide (k ≤ cnt (bl x) 0 i))
  | 0, _, i, _ => by
    rw [decide_eq_true (Nat.zero_le _), Bool.and_true]
    rfl
  | k + 1, hk, i, hi => by
    have ih := drop_bits x k (by omega)
    obtain ⟨j, j1, j2, j3⟩ := cnt_ex (b := bl x) (k := k) 64 hk
    have hy : bl (dropL x k) j = true := by rw [ih j j1, j2, j3, decide_eq_true (Nat.le_refl _)]; rfl
    obtain ⟨t, t1, t2, t3, -, t5⟩ := lowbit (dropL x k) (uL_nz hy)
    show bl (dropL x k &&& (dropL x k - 1)) i = _
    rw [t5 i hi, ih i hi]
    rw [ih t t1] at t2
    simp only [Bool.and_eq_true, decide_eq_true_eq] at t2
    have ct : cnt (bl x) 0 t = k := by
      rcases Nat.lt_or_ge k (cnt (bl x) 0 t) with g | g
      · obtain ⟨i', g1, g2, g3⟩ := cnt_ex (b := bl x) (k := k) t g
        have := t3 i' g1
        rw [ih i' (by omega), g2, g3, decide_eq_true (Nat.le_refl _)] at this
        exact absurd this (by decide)
      · omega
    cases hb : bl x i with
    | false => rfl
    | true =>
      rw [Bool.true_and, Bool.true_and]
      by_cases e : i = t
      · subst e
        rw [decide_eq_false (show ¬ i ≠ i by simp), Bool.and_false, decide_eq_false (by omega)]
      · rw [decide_eq_true e, Bool.and_true]
        rcases Nat.lt_or_ge i t with g | g
        · have := t3 i g
          rw [ih i hi, hb, Bool.true_and] at this
          have h2 := of_decide_eq_false this
          rw [decide_eq_false h2, decide_eq_false (by omega)]
        · have := sel_lt (b := bl x) (show t < i by omega) t2.1
          rw [decide_eq_true (by omega), decide_eq_true (by omega)]
theorem pb_ok (x : Int64) {l : Nat} (h : l < pcN x) : pbC x l < 64 ∧ bl x (pbC x l) = true ∧ cnt (bl x) 0 (pbC x l) = l := by
  have ih := drop_bits x l (by omega)
  obtain ⟨j, j1, j2, j3⟩ := cnt_ex (b := bl x) (k := l) 64 h
  have hy : bl (dropL x l) j = true := by rw [ih j j1, j2, j3, decide_eq_true (Nat.le_refl _)]; rfl
  obtain ⟨t, t1, t2, t3, t4, -⟩ := lowbit (dropL x l) (uL_nz hy)
  unfold pbC
  rw [t4]
  rw [ih t t1] at t2
  simp only [Bool.and_eq_true, decide_eq_true_eq] at t2
  refine ⟨t1, t2.1, ?_⟩
  rcases Nat.lt_or_ge l (cnt (bl x) 0 t) with g | g
  · obtain ⟨i', g1, g2, g3⟩ := cnt_ex (b := bl x) (k := l) t g
    have := t3 i' g1
    rw [ih i' (by omega), g2, g3, decide_eq_true (Nat.le_refl _)] at this
    exact absurd this (by decide)
  · omega
theorem atC_sel (w : Nat → Int64) : ∀ k b l, b + k = 32 → Sel (fbit w) 2048 (cnt (fbit w) 0 (64 * b) + l) (atC w k b l)
  | 0, b, l, h => by
    have : b = 32 := by omega
    subst this
    exact Or.inr ⟨by show cnt (fbit w) 0 2048 ≤ cnt (fbit w) 0 2048 + l; omega, rfl⟩
  | k + 1, b, l, h => by
    rw [atC]
    by_cases hl : l < pcN (w b)
    · rw [if_pos hl]
      obtain ⟨h1, h2, h3⟩ := pb_ok (w b) hl
      refine Or.inl ⟨64 * b + pbC (w b) l, by omega, ?_, ?_, rfl⟩
      · show bl (w ((64 * b + pbC (w b) l) / 64)) ((64 * b + pbC (w b) l) % 64) = true
        rw [show (64 * b + pbC (w b) l) / 64 = b by omega, show (64 * b + pbC (w b) l) % 64 = pbC (w b) l by omega]
        exact h2
      · rw [cnt_add, Nat.zero_add]
        congr 1
        rw [cnt_sh]
        refine Eq.trans (cnt_cong _ (fun i hi => ?_)) h3
        show bl (w ((64 * b + (0 + i)) / 64)) ((64 * b + (0 + i)) % 64) = bl (w b) (0 + i)
        rw [show (64 * b + (0 + i)) / 64 = b by omega, show (64 * b + (0 + i)) % 64 = 0 + i by omega]
    · rw [if_neg hl]
      have ih := atC_sel w k (b + 1) (l - pcN (w b)) (by omega)
      have e := cnt_add (fbit w) 0 (64 * b) 64
      rw [Nat.zero_add, cnt_word, show 64 * b + 64 = 64 * (b + 1) by omega] at e
      rw [e, show cnt (fbit w) 0 (64 * b) + pcN (w b) + (l - pcN (w b)) = cnt (fbit w) 0 (64 * b) + l by omega] at ih
      exact ih
theorem atI_sel (w : Nat → Int64) {p : Nat} (hp : p < 2 ^ 31) : Sel (fbit w) 2048 p (atI w (nI p)) := by
  unfold atI
  rw [if_neg (nI_pos hp), ix_nI hp]
  have := atC_sel w 32 0 p rfl
  rw [Nat.mul_zero, show cnt (fbit w) 0 0 = 0 from rfl, Nat.zero_add] at this
  exact this
