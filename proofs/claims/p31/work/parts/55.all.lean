/-! What the law asks of all sets together -/
/-- how many sets have a number -/
def cA (X : XS) (m : Nat) (n : Nat) : Nat := hoC X.1 n m
theorem cA_le (X : XS) (m n : Nat) : cA X m n ≤ m := hoC_le _ _ _
theorem cA_pos {X : XS} {m n : Nat} : 0 < cA X m n ↔ ∃ s, s < m ∧ fbit (fw (X.1 s)) n = true := by
  unfold cA
  rw [ho_cnt]
  constructor
  · intro h
    refine Decidable.byContradiction (fun z => ?_)
    rw [cnt_z m (fun j hj => ?_)] at h
    · exact absurd h (Nat.lt_irrefl _)
    · rw [Nat.zero_add]
      cases e : fbit (fw (X.1 j)) n with
      | false => rfl
      | true => exact absurd ⟨j, hj, e⟩ z
  · rintro ⟨s, h1, h2⟩
    refine Nat.pos_of_ne_zero (fun z => ?_)
    have := cnt_zz m z s h1
    rw [Nat.zero_add, h2] at this
    exact absurd this (by decide)
theorem cA_s (X : XS) (m n : Nat) : cA X (m + 1) n = cA X m n + (if fbit (fw (X.1 m)) n = true then 1 else 0) := rfl
theorem sm_add (u v : Nat → Nat) : ∀ n, smN (fun j => u j + v j) n = smN u n + smN v n
  | 0 => rfl
  | n + 1 => by
    rw [smN_s, smN_s, smN_s, sm_add u v n]
    omega
theorem sm_zero : ∀ n, smN (fun _ => 0) n = 0
  | 0 => rfl
  | n + 1 => by rw [smN_s, sm_zero n]
theorem sm_ind (b : Nat → Bool) : ∀ n, smN (fun j => if b j = true then 1 else 0) n = cnt b 0 n
  | 0 => rfl
  | n + 1 => by rw [smN_s, sm_ind b n, cnt_s, Nat.zero_add]
/-- all numbers of all sets -/
def tA (X : XS) (m : Nat) : Nat := smN (cA X m) 2048
theorem tA_sum {X : XS} : ∀ m, (∀ s, s < m → Gd (X.1 s)) → sumI (fun j => sz (X.1 j)) m = nI (tA X m)
  | 0, _ => by
    have : tA X 0 = 0 := sm_zero 2048
    rw [this]
    rfl
  | m + 1, h => by
    rw [sumI_s, tA_sum m (fun s hs => h s (by omega)), sz_T (h m (by omega)), nI_add]
    refine congrArg nI ?_
    unfold tA
    rw [← sm_ind (fbit (fw (X.1 m))) 2048, ← sm_add]
    rfl
theorem tA_le (X : XS) {m : Nat} (hm : m ≤ 6) : tA X m ≤ 6 * 2048 := smN_B 2048 (fun j _ => Nat.le_trans (cA_le X m j) hm)
theorem sm_le (u : Nat → Nat) {a b : Nat} (h : a ≤ b) : smN u a ≤ smN u b := by
  obtain ⟨d, rfl⟩ : ∃ d, b = a + d := ⟨b - a, by omega⟩
  clear h
  induction d with
  | zero => exact Nat.le_refl _
  | succ d ih =>
    rw [show a + (d + 1) = a + d + 1 by omega, smN_s]
    omega
theorem oa_S {c : Nat → Nat} {x : Nat} (hx : x < 2 ^ 31) (hc : ∀ j, c j < 2 ^ 31) : ∀ k n, smN c n ≤ x → (oaN c k n (nI (x - smN c n)) = -5 ∧ smN c (n + k) ≤ x) ∨ ∃ i, n ≤ i ∧ i < n + k ∧ oaN c k n (nI (x - smN c n)) = nI i ∧ smN c i ≤ x ∧ x < smN c (i + 1)
  | 0, n, h => Or.inl ⟨rfl, h⟩
  | k + 1, n, h => by
    have hcn := hc n
    unfold oaN
    by_cases e : x - smN c n < c n
    · rw [if_pos ((nI_ltI (by omega) hcn).mpr e)]
      exact Or.inr ⟨n, Nat.le_refl _, by omega, rfl, h, by rw [smN_s]; omega⟩
    · rw [if_neg (fun z => e ((nI_ltI (by omega) hcn).mp z)), pk_sub (by omega), show x - smN c n - c n = x - smN c (n + 1) by rw [smN_s]; omega]
      rcases oa_S hx hc k (n + 1) (by rw [smN_s]; omega) with ⟨r1, r2⟩ | ⟨i, r1, r2, r3⟩
      · exact Or.inl ⟨r1, by rw [show n + (k + 1) = n + 1 + k by omega]; exact r2⟩
      · exact Or.inr ⟨i, by omega, by omega, r3⟩
theorem all_T {X : XS} {m x : Nat} (hm : m ≤ 6) (hx : x < 2 ^ 31) : (allC X m (nI x) = -5 ∧ tA X m ≤ x) ∨ ∃ i, i < 2048 ∧ allC X m (nI x) = nI i ∧ smN (cA X m) i ≤ x ∧ x < smN (cA X m) (i + 1) := by
  have e : allC X m (nI x) = oaN (cA X m) 2048 0 (nI x) := by
    unfold allC
    rw [if_neg (nI_pos hx), naO_ok hm 32 0 x rfl hx, hF_0]
    rfl
  rw [e]
  rcases oa_S (c := cA X m) hx (fun j => Nat.lt_of_le_of_lt (cA_le X m j) (by omega)) 2048 0 (Nat.zero_le _) with ⟨r1, r2⟩ | ⟨i, r1, r2, r3, r4⟩
  · rw [Nat.zero_add] at r2
    exact Or.inl ⟨r1, r2⟩
  · exact Or.inr ⟨i, by omega, r3, r4⟩
theorem most_S {c : Nat → Nat} : ∀ n, n ≤ 2048 → ((mostN c n).1 = -5 ∧ (mostN c n).2 = 0 ∧ ∀ j, j < n → c j = 0) ∨ (¬ (mostN c n).1 = -5 ∧ ∃ j, j < n ∧ 0 < c j)
  | 0, _ => Or.inl ⟨rfl, rfl, fun j hj => absurd hj (Nat.not_lt_zero _)⟩
  | n + 1, hn => by
    simp only [mostN]
    by_cases e : (mostN c n).2 < c n
    · rw [if_pos e]
      exact Or.inr ⟨nI_m5 (by omega), n, by omega, by omega⟩
    · rw [if_neg e]
      rcases most_S (c := c) n (by omega) with ⟨h1, h2, h3⟩ | ⟨h1, j, h2, h3⟩
      · refine Or.inl ⟨h1, h2, fun j hj => ?_⟩
        by_cases z : j = n
        · subst z; omega
        · exact h3 j (by omega)
      · exact Or.inr ⟨h1, j, by omega, h3⟩
theorem sm_pos {u : Nat → Nat} {n j : Nat} (hj : j < n) (h : 0 < u j) : 0 < smN u n := by
  have h1 := sm_le u (show j + 1 ≤ n by omega)
  rw [smN_s] at h1
  omega
theorem sm_all0 {u : Nat → Nat} : ∀ n, (∀ j, j < n → u j = 0) → smN u n = 0
  | 0, _ => rfl
  | n + 1, h => by rw [smN_s, sm_all0 n (fun j hj => h j (by omega)), h n (by omega)]
theorem most_T (X : XS) (m : Nat) : mhO (hF X 0) m 32 0 (-5) 0 = -5 ↔ tA X m = 0 := by
  have h1 : mhO (hF X 0) m 32 0 (-5) 0 = (mostN (cA X m) 2048).1 := by
    have h := mhO_ok (F := hF X 0) (m := m) 32 0
    rw [hF_0] at h ⊢
    exact h
  rw [h1]
  rcases most_S (c := cA X m) 2048 (Nat.le_refl _) with ⟨a1, a2, a3⟩ | ⟨a1, j, a2, a3⟩
  · exact ⟨fun _ => sm_all0 2048 a3, fun _ => a1⟩
  · exact ⟨fun z => absurd z a1, fun z => absurd (sm_pos (u := cA X m) a2 a3) (by unfold tA at z; omega)⟩
/-- how many different numbers -/
def dA (X : XS) (m : Nat) : Nat := cnt (fun n => decide (0 < cA X m n)) 0 2048
theorem diff_T (X : XS) (m t L : Nat) : cntC X m t L 7 = nI (dA X m) := by
  rw [ct_7, hF_0, sm_cnt (fun v => orC X.1 v m)]
  exact congrArg nI (cnt_cong 2048 (fun j hj => or_fb X.1 m (0 + j)))
theorem dA_le (X : XS) (m : Nat) : dA X m ≤ tA X m ∧ tA X m ≤ dA X m * m := by
  have h : ∀ n, cnt (fun n => decide (0 < cA X m n)) 0 n ≤ smN (cA X m) n ∧ smN (cA X m) n ≤ cnt (fun n => decide (0 < cA X m n)) 0 n * m := by
    intro n
    induction n with
    | zero => exact ⟨Nat.le_refl _, by rw [show smN (cA X m) 0 = 0 from rfl]; omega⟩
    | succ n ih =>
      have hc := cA_le X m n
      rw [cnt_s, smN_s, Nat.zero_add]
      by_cases e : 0 < cA X m n
      · rw [if_pos (decide_eq_true e), Nat.add_mul, Nat.one_mul]
        omega
      · rw [if_neg (by rw [decide_eq_false e]; decide), Nat.add_zero]
        omega
  exact h 2048
theorem dA_2048 (X : XS) (m : Nat) : dA X m ≤ 2048 := cnt_le _ _ _
/-- the least of the first k sets' least numbers, 4096 if there is none -/
def Lst (X : XS) (k v : Nat) : Prop := (∀ s x, s < k → x < 2048 → fbit (fw (X.1 s)) x = true → v ≤ x) ∧ (v = 4096 ∨ (v < 2048 ∧ ∃ s, s < k ∧ fbit (fw (X.1 s)) v = true))
theorem lst_0 (X : XS) : Lst X 0 4096 := ⟨fun s x hs => absurd hs (Nat.not_lt_zero _), Or.inl rfl⟩
/-- the least number of a set -/
theorem first_T (w : Nat → Int64) : (atI w 0 = -5 ∧ ∀ x, x < 2048 → fbit w x = false) ∨ ∃ y, y < 2048 ∧ atI w 0 = nI y ∧ fbit w y = true ∧ ∀ x, x < 2048 → fbit w x = true → y ≤ x := by
  rcases atI_sel w (p := 0) (by decide) with ⟨y, y1, y2, y3, y4⟩ | ⟨a1, a2⟩
  · refine Or.inr ⟨y, y1, y4, y2, fun x hx hb => Nat.le_of_not_lt (fun z => ?_)⟩
    have := sel_lt z hb
    omega
  · refine Or.inl ⟨a2, fun x hx => ?_⟩
    have := cnt_zz 2048 (Nat.le_zero.mp a1) x hx
    rw [Nat.zero_add] at this
    exact this
theorem lst_lt {X : XS} {k v y : Nat} (h : Lst X k v) (hy : y < 2048) (hb : fbit (fw (X.1 k)) y = true) (hm : ∀ x, x < 2048 → fbit (fw (X.1 k)) x = true → y ≤ x) (hv : y < v) : Lst X (k + 1) y := ⟨fun s x hs hx hh => by
  by_cases e : s = k
  · subst e; exact hm x hx hh
  · have := h.1 s x (by omega) hx hh
    omega, Or.inr ⟨hy, k, by omega, hb⟩⟩
theorem lst_ge {X : XS} {k v : Nat} (h : Lst X k v) (hm : ∀ x, x < 2048 → fbit (fw (X.1 k)) x = true → v ≤ x) : Lst X (k + 1) v := ⟨fun s x hs hx hh => by
  by_cases e : s = k
  · subst e; exact hm x hx hh
  · exact h.1 s x (by omega) hx hh, h.2.elim Or.inl (fun ⟨a, s, b, c⟩ => Or.inr ⟨a, s, by omega, c⟩)⟩
/-- the first of all numbers is the least -/
theorem all_0 {X : XS} {m v : Nat} (hm : m ≤ 6) (hT : 0 < tA X m) (h : Lst X m v) : allC X m 0 = nI v := by
  rcases all_T (X := X) (x := 0) hm (by decide) with ⟨r1, r2⟩ | ⟨i, i1, i2, i3, i4⟩
  · omega
  · have hi : 0 < cA X m i := by
      rw [smN_s] at i4
      omega
    obtain ⟨s, s1, s2⟩ := cA_pos.mp hi
    have hv := h.1 s i s1 i1 s2
    have e : v = i := by
      rcases h.2 with z | ⟨z1, s', z2, z3⟩
      · omega
      · refine Nat.le_antisymm hv (Nat.le_of_not_lt (fun y => ?_))
        have := sm_pos (u := cA X m) y (cA_pos.mpr ⟨s', z2, z3⟩)
        omega
    rw [e]
    exact i2
theorem all_end {X : XS} {m : Nat} (hm : m ≤ 6) : allC X m (nI (tA X m)) = -5 := by
  have hT := tA_le X hm
  rcases all_T (X := X) (x := tA X m) hm (by omega) with ⟨r1, r2⟩ | ⟨i, i1, i2, i3, i4⟩
  · exact r1
  · have := sm_le (cA X m) (show i + 1 ≤ 2048 by omega)
    unfold tA at i4
    omega
theorem all_last {X : XS} {m v : Nat} (hm : m ≤ 6) (hT : 0 < tA X m) (h : Lst X m v) : nI v ≤ allC X m (nI (tA X m - 1)) := by
  have hT2 := tA_le X hm
  rcases all_T (X := X) (x := tA X m - 1) hm (by omega) with ⟨r1, r2⟩ | ⟨i, i1, i2, i3, i4⟩
  · omega
  · rw [i2]
    have e : v ≤ i := by
      rcases h.2 with z | ⟨z1, s', z2, z3⟩
      · refine absurd hT ?_
        rw [show tA X m = 0 from sm_all0 2048 (fun j hj => Nat.eq_zero_of_not_pos (fun y => by
          obtain ⟨s, a1, a2⟩ := cA_pos.mp y
          have := h.1 s j a1 hj a2
          omega))]
        exact Nat.lt_irrefl _
      · refine Nat.le_of_not_lt (fun y => ?_)
        have z : smN (cA X m) (i + 1) = 0 := sm_all0 (i + 1) (fun j hj => Nat.eq_zero_of_not_pos (fun q => by
          obtain ⟨s, a1, a2⟩ := cA_pos.mp q
          have := h.1 s j a1 (by omega) a2
          omega))
        omega
    exact (nI_leI (by rcases h.2 with z | z <;> omega) (by omega)).mpr e
theorem sum_add3 (a b c : Nat → Int32) : ∀ n, sumI a n + sumI b n + sumI c n = sumI (fun j => a j + b j + c j) n
  | 0 => rfl
  | n + 1 => by
    rw [sumI_s, sumI_s, sumI_s, sumI_s, ← sum_add3 a b c n]
    have e : ∀ x y z u v w : Int32, x + u + (y + v) + (z + w) = x + y + z + (u + v + w) := fun x y z u v w => by
      rw [Int32.add_assoc x u, ← Int32.add_assoc u y, Int32.add_comm u y, Int32.add_assoc y u, ← Int32.add_assoc x y, Int32.add_assoc (x + y), ← Int32.add_assoc (u + v) z, Int32.add_comm (u + v) z, Int32.add_assoc z, ← Int32.add_assoc (x + y)]
    exact e _ _ _ _ _ _
