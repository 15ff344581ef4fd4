/-! What the law asks of a set: its boats, its places, its gaps -/
/-- the units, as the law counts them -/
def unL (k x y : Int32) : Int32 := if k = 0 then 2 * x else if k = 1 then 32 else 3 * y
theorem unL_C {f : FR} {b : Nat} {k : Int32} (hk : k = 0 ∨ k = 1 ∨ k = 2) : unL k (fs f b) (fr f b) = unitsC f b k := by
  rcases hk with rfl | rfl | rfl <;> rfl
theorem cr_cm (w : Nat → Int64) (b : Nat) : cr w b ≤ cm w b := cnt_lt (fun j h => by
  cases e : fbit w j with
  | true => rfl
  | false => rw [runB_F1 e] at h; exact absurd h (by decide)) 256
theorem in_bay (w : Nat → Int64) (b : Nat) : nI (cnt (fbit w) 0 (256 * b + 256)) - nI (cnt (fbit w) 0 (256 * b)) = nI (cm w b) := by
  rw [cnt_add, pk_sub (by omega), Nat.add_sub_cancel_left, Nat.zero_add]
  rfl
theorem sz_T {f : FR} (h : Gd f) : sz f = nI (cnt (fbit (fw f)) 0 2048) := sum_fs h.1 8 (Nat.le_refl _)
theorem fr_z {f : FR} (h : Gd f) {b : Nat} (hb : b < 8) (hc : cm (fw f) b = 0) : fr f b = 0 := by
  rw [(h.1 b hb).2, cr_0 hc]
  rfl
theorem fs_z {f : FR} (h : Gd f) {b : Nat} (hb : b < 8) (hc : cm (fw f) b = 0) : fs f b = 0 := (fs_0 h.1 hb).mpr hc
theorem un_z {f : FR} (h : Gd f) {b : Nat} (hb : b < 8) (hc : cm (fw f) b = 0) : unitsC f b (fk f b) = 0 := units_0 h.1 hb hc ((h.bay hb).1 hc)
theorem ub_z {f : FR} (h : Gd f) {b : Nat} (hb : b < 8) (hc : cm (fw f) b = 0) : unitsC f b (bestC f b) = 0 := units_0 h.1 hb hc (best_0 h.1 hb hc)
theorem sumI_s (v : Nat → Int32) (n : Nat) : sumI v (n + 1) = sumI v n + v n := rfl
theorem sum_nI (u : Nat → Nat) : ∀ n, sumI (fun b => nI (u b)) n = nI (smN u n)
  | 0 => rfl
  | n + 1 => by
    rw [sumI_s, sum_nI u n, nI_add]
    rfl
theorem smN_s (u : Nat → Nat) (n : Nat) : smN u (n + 1) = smN u n + u n := rfl
theorem smN_mono {u v : Nat → Nat} : ∀ n, (∀ j, j < n → u j ≤ v j) → smN u n ≤ smN v n
  | 0, _ => Nat.le_refl _
  | n + 1, h => by
    have := smN_mono n (fun j hj => h j (by omega))
    have := h n (by omega)
    rw [smN_s, smN_s]
    omega
theorem smN_B {u : Nat → Nat} {B : Nat} : ∀ n, (∀ j, j < n → u j ≤ B) → smN u n ≤ B * n
  | 0, _ => Nat.zero_le _
  | n + 1, h => by
    have := smN_B n (fun j hj => h j (by omega))
    have := h n (by omega)
    rw [smN_s, Nat.mul_add, Nat.mul_one]
    omega
theorem un_T {f : FR} {b : Nat} (h : Gd f) (hb : b < 8) : unitsC f b (fk f b) = nI (unT (fk f b) (cm (fw f) b) (cr (fw f) b)) := unC_T (h.1 b hb).1 (h.1 b hb).2 (h.2.1 b hb)
theorem ub_le {f : FR} {b : Nat} (h : Gd f) (hb : b < 8) : unT (bestC f b) (cm (fw f) b) (cr (fw f) b) ≤ unT (fk f b) (cm (fw f) b) (cr (fw f) b) := by
  have h2 := (h.bay hb).2
  rw [bq_best h.1 hb]
  exact bsT_le (h.2.1 b hb) (fun z => by
    rw [z, hoC_2 (h.1 b hb).2 (cr_le _ _)] at h2
    exact of_decide_eq_true h2)
theorem unT_768 {k : Int32} {m r : Nat} (hm : m ≤ 256) (hr : r ≤ 256) : unT k m r ≤ 768 := by
  unfold unT
  split
  · omega
  · split <;> omega
theorem least_le {f : FR} (h : Gd f) : sumI (fun b => unitsC f b (bestC f b)) 8 ≤ sumI (fun b => unitsC f b (fk f b)) 8 := by
  have e1 : sumI (fun b => unitsC f b (fk f b)) 8 = nI (smN (fun b => unT (fk f b) (cm (fw f) b) (cr (fw f) b)) 8) := by
    rw [← sum_nI]
    exact sum_cong 8 (fun j hj => un_T h hj)
  have e2 : sumI (fun b => unitsC f b (bestC f b)) 8 = nI (smN (fun b => unT (bestC f b) (cm (fw f) b) (cr (fw f) b)) 8) := by
    rw [← sum_nI]
    exact sum_cong 8 (fun j hj => (un_best h.1 hj).1)
  have b1 := smN_B (B := 768) (u := fun b => unT (fk f b) (cm (fw f) b) (cr (fw f) b)) 8 (fun j _ => unT_768 (cm_le _ _) (cr_le _ _))
  have b2 := smN_B (B := 768) (u := fun b => unT (bestC f b) (cm (fw f) b) (cr (fw f) b)) 8 (fun j _ => unT_768 (cm_le _ _) (cr_le _ _))
  rw [e1, e2]
  exact (nI_leI (by omega) (by omega)).mpr (smN_mono 8 (fun j hj => ub_le h hj))
/-- a boat, in numbers -/
theorem boat_n {f : FR} (h : Gd f) {b : Nat} (hb : b < 8) : (fk f b = 0 → cm (fw f) b ≤ 24) ∧ (fk f b = 2 → cr (fw f) b ≤ 8) := by
  have h2 := (h.bay hb).2
  refine ⟨fun z => ?_, fun z => ?_⟩
  · rw [z, hoC_0 (h.1 b hb).1 (cm_le _ _)] at h2
    exact of_decide_eq_true h2
  · rw [z, hoC_2 (h.1 b hb).2 (cr_le _ _)] at h2
    exact of_decide_eq_true h2
-- places
theorem nx_T {w : Nat → Int64} {n : Nat} (hn : n < 2048) : (atI w (nI (cnt (fbit w) 0 n)) = -5 ∧ cnt (fbit w) 0 n = cnt (fbit w) 0 2048 ∧ fbit w n = false) ∨
    ∃ x, n ≤ x ∧ x < 2048 ∧ fbit w x = true ∧ cnt (fbit w) 0 x = cnt (fbit w) 0 n ∧ atI w (nI (cnt (fbit w) 0 n)) = nI x ∧ (fbit w n = true → x = n) := by
  have hc := cnt_le (fbit w) 0 n
  have mo := cnt_mono (fbit w) 0 (m := n) (n := 2048) (by omega)
  rcases atI_sel w (p := cnt (fbit w) 0 n) (by omega) with ⟨x, x1, x2, x3, x4⟩ | ⟨a1, a2⟩
  · refine Or.inr ⟨x, Nat.le_of_not_lt (fun z => ?_), x1, x2, x3, x4, fun hb => Nat.le_antisymm (Nat.le_of_not_lt (fun z => ?_)) (Nat.le_of_not_lt (fun z => ?_))⟩
    · have := sel_lt z x2
      omega
    · have := sel_lt z hb
      omega
    · have := sel_lt z x2
      omega
  · refine Or.inl ⟨a2, by omega, ?_⟩
    cases e : fbit w n with
    | false => rfl
    | true =>
      have := sel_lt hn e
      omega
theorem bf_T {w : Nat → Int64} {n : Nat} (hn : n ≤ 2048) : (atI w (nI (cnt (fbit w) 0 n) - 1) = -5 ∧ cnt (fbit w) 0 n = 0) ∨ ∃ y, y < n ∧ fbit w y = true ∧ atI w (nI (cnt (fbit w) 0 n) - 1) = nI y ∧ 0 < cnt (fbit w) 0 n := by
  have hc := cnt_le (fbit w) 0 n
  have mo := cnt_mono (fbit w) 0 (m := n) (n := 2048) hn
  by_cases e : cnt (fbit w) 0 n = 0
  · rw [e]
    exact Or.inl ⟨at_neg (by decide), rfl⟩
  · have e2 : nI (cnt (fbit w) 0 n) - 1 = nI (cnt (fbit w) 0 n - 1) := pk_sub (b := 1) (by omega)
    rw [e2]
    rcases atI_sel w (p := cnt (fbit w) 0 n - 1) (by omega) with ⟨x, x1, x2, x3, x4⟩ | ⟨a1, a2⟩
    · refine Or.inr ⟨x, Nat.lt_of_not_le (fun z => ?_), x2, x4, by omega⟩
      have := cnt_mono (fbit w) 0 z
      omega
    · omega
theorem at_end {w : Nat → Int64} {p : Nat} (h : cnt (fbit w) 0 2048 ≤ p) (hp : p < 2 ^ 31) : atI w (nI p) = -5 := by
  rcases atI_sel w hp with ⟨x, x1, x2, x3, x4⟩ | ⟨a1, a2⟩
  · have := sel_lt x1 x2
    omega
  · exact a2
theorem near_T {X : XS} {m k n : Nat} (hk : k < m) (hm : m ≤ 6) (hn : n < 2048) {be nx : Int32} (e1 : atI (fw (X.1 k)) (nI (cnt (fbit (fw (X.1 k))) 0 n) - 1) = be) (e2 : atI (fw (X.1 k)) (nI (cnt (fbit (fw (X.1 k))) 0 n)) = nx) : nearC X m (nI k) (nI n) = if be = -5 then nx else if nx = -5 then be else if nx - nI n < nI n - be then nx else be := by
  unfold nearC
  rw [if_neg (ne_TF (isC_nI hk hm)), if_neg (ne_TF (isN_nI hn)), ix_nI (by omega), ix_nI (by omega), rk_cnt, e1, e2]
-- gaps
theorem gap_S {b : Nat → Bool} {ln : Nat} (h1 : 1 ≤ ln) (h2 : ln ≤ 2048) : ∀ k n s, n + k = 2048 → s ≤ n → n - s < ln → (∀ j, s ≤ j → j < n → b j = false) → (s = 0 ∨ b (s - 1) = true) →
    (gapF b (nI ln) k n s = -5 ∧ ((∀ j, n ≤ j → j < 2048 → b j = false) → 2048 < s + ln)) ∨ ∃ g, gapF b (nI ln) k n s = nI g ∧ g + ln ≤ 2048 ∧ (∀ j, g ≤ j → j < g + ln → b j = false) ∧ (g = 0 ∨ b (g - 1) = true)
  | 0, n, s, hk, hs, hl, _, _ => Or.inl ⟨rfl, fun _ => by omega⟩
  | k + 1, n, s, hk, hs, hl, hz, he => by
    unfold gapF
    cases hb : b n with
    | true =>
      rw [if_pos rfl]
      rcases gap_S h1 h2 k (n + 1) (n + 1) (by omega) (Nat.le_refl _) (by omega) (fun j a c => by omega) (Or.inr hb) with ⟨r1, _⟩ | r
      · exact Or.inl ⟨r1, fun z => absurd (z n (Nat.le_refl _) (by omega)) (by rw [hb]; decide)⟩
      · exact Or.inr r
    | false =>
      rw [if_neg (by decide)]
      have e1 : nI n - nI s + 1 = nI (n - s + 1) := by rw [pk_sub hs]; exact nI_add _ 1
      rw [e1]
      have hz2 : ∀ j, s ≤ j → j < n + 1 → b j = false := fun j a c => by
        by_cases e : j = n
        · subst e; exact hb
        · exact hz j a (by omega)
      by_cases c : n - s + 1 = ln
      · rw [if_pos ((nI_leI (by omega) (by omega)).mpr (by omega))]
        exact Or.inr ⟨s, rfl, by omega, fun j a d => hz2 j a (by omega), he⟩
      · rw [if_neg (fun z => by have := (nI_leI (by omega) (by omega)).mp z; omega)]
        rcases gap_S h1 h2 k (n + 1) s (by omega) (by omega) (by omega) hz2 he with ⟨r1, r2⟩ | r
        · exact Or.inl ⟨r1, fun z => r2 (fun j a d => z j (by omega) d)⟩
        · exact Or.inr r
theorem gap_T {X : XS} {m k ln : Nat} (hk : k < m) (hm : m ≤ 6) (h1 : 1 ≤ ln) (h2 : ln ≤ 2048) : (gapC X m (nI k) (nI ln) = -5 ∧ 0 < cnt (fbit (fw (X.1 k))) 0 2048) ∨ ∃ g, gapC X m (nI k) (nI ln) = nI g ∧ g + ln ≤ 2048 ∧ cnt (fbit (fw (X.1 k))) 0 (g + ln) = cnt (fbit (fw (X.1 k))) 0 g ∧ (g = 0 ∨ fbit (fw (X.1 k)) (g - 1) = true) := by
  have e : gapC X m (nI k) (nI ln) = gapF (fbit (fw (X.1 k))) (nI ln) 2048 0 0 := by
    unfold gapC
    rw [if_neg (ne_TF (isC_nI hk hm)), if_neg (fun z => by
      rcases z with z | z
      · have := (nI_ltI (b := 1) (by omega) (by decide)).mp z
        omega
      · have := (nI_ltI (a := 2048) (by decide) (by omega)).mp z
        omega), ix_nI (by omega)]
  rw [e]
  rcases gap_S (b := fbit (fw (X.1 k))) h1 h2 2048 0 0 rfl (Nat.le_refl _) (by omega) (fun j a c => by omega) (Or.inl rfl) with ⟨r1, r2⟩ | ⟨g, r1, r2, r3, r4⟩
  · refine Or.inl ⟨r1, Nat.pos_of_ne_zero (fun z => ?_)⟩
    have z2 := cnt_zz 2048 z
    have := r2 (fun j _ hj => by have := z2 j hj; rw [Nat.zero_add] at this; exact this)
    omega
  · refine Or.inr ⟨g, r1, r2, ?_, r4⟩
    rw [cnt_add, Nat.zero_add, cnt_z ln (fun j hj => r3 _ (by omega) (by omega)), Nat.add_zero]
-- two sets
theorem size_T {X : XS} {m k o w : Nat} (hk : k < m) (ho : o < m) (hm : m ≤ 6) (hw : w < 4) : sizeC X m (nI w) (nI k) (nI o) = nI (cnt (fun n => givesB (nI w) (fbit (fw (X.1 k)) n) (fbit (fw (X.1 o)) n)) 0 2048) := by
  have hw2 : inB (nI w) 0 3 = true := decide_eq_true ⟨nI_pos' (by omega), (nI_leI (b := 3) (by omega) (by decide)).mpr (by omega)⟩
  unfold sizeC
  rw [if_neg (fun z => by rcases z with z | z <;> exact absurd z (ne_TF (isC_nI (by assumption) hm))), if_neg (ne_TF hw2), ix_nI (by omega), ix_nI (by omega), sm_cnt (fun j => joC (nI w) (fw (X.1 k) j) (fw (X.1 o) j))]
  exact congrArg nI (cnt_cong 2048 (fun j hj => jo_bt hw2 _ _ (Nat.mod_lt _ (by decide))))
theorem pr_sum (p q : Nat → Bool) : ∀ n, cnt (fun j => givesB (nI 0) (p j) (q j)) 0 n + cnt (fun j => givesB (nI 1) (p j) (q j)) 0 n = cnt p 0 n + cnt q 0 n ∧ cnt (fun j => givesB (nI 2) (p j) (q j)) 0 n + cnt (fun j => givesB (nI 1) (p j) (q j)) 0 n = cnt p 0 n ∧ cnt (fun j => givesB (nI 3) (p j) (q j)) 0 n + cnt (fun j => givesB (nI 1) (p j) (q j)) 0 n = cnt (fun j => givesB (nI 0) (p j) (q j)) 0 n
  | 0 => ⟨rfl, rfl, rfl⟩
  | n + 1 => by
    obtain ⟨h1, h2, h3⟩ := pr_sum p q n
    rw [cnt_s, cnt_s, cnt_s, cnt_s, cnt_s, cnt_s]
    have g0 : ∀ a b, givesB (nI 0) a b = (a || b) := fun _ _ => rfl
    have g1 : ∀ a b, givesB (nI 1) a b = (a && b) := fun _ _ => rfl
    have g2 : ∀ a b, givesB (nI 2) a b = (a && !b) := fun _ _ => rfl
    have g3 : ∀ a b, givesB (nI 3) a b = (a != b) := fun _ _ => rfl
    simp only [g0, g1, g2, g3] at h1 h2 h3 ⊢
    cases p (0 + n) <;> cases q (0 + n) <;> simp <;> omega
theorem pr_sym (p q : Nat → Bool) : cnt (fun j => givesB (nI 0) (q j) (p j)) 0 2048 = cnt (fun j => givesB (nI 0) (p j) (q j)) 0 2048 ∧ cnt (fun j => givesB (nI 1) (q j) (p j)) 0 2048 = cnt (fun j => givesB (nI 1) (p j) (q j)) 0 2048 := by
  refine ⟨cnt_cong 2048 (fun j hj => ?_), cnt_cong 2048 (fun j hj => ?_)⟩
  · show (q (0 + j) || p (0 + j)) = (p (0 + j) || q (0 + j))
    exact Bool.or_comm _ _
  · show (q (0 + j) && p (0 + j)) = (p (0 + j) && q (0 + j))
    exact Bool.and_comm _ _
