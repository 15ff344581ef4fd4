/-! Boats become others, numbers come and go, sets dock: both sides the same -/
theorem if_iff {α : Type} {p q : Prop} [Decidable p] [Decidable q] (h : p ↔ q) (x y : α) : (if p then x else y) = if q then x else y := by
  by_cases hp : p
  · rw [if_pos hp, if_pos (h.mp hp)]
  · rw [if_neg hp, if_neg (fun hq => hp (h.mpr hq))]
def bsT (m r : Nat) : Int32 := if m ≤ 16 then (if r ≤ 8 ∧ 3 * r < 2 * m then 2 else 0) else if r ≤ 8 then 2 else 1
def unT (k : Int32) (m r : Nat) : Nat := if k = 0 then 2 * m else if k = 1 then 32 else 3 * r
theorem unT_0 (m r : Nat) : unT 0 m r = 2 * m := rfl
theorem unT_1 (m r : Nat) : unT 1 m r = 32 := rfl
theorem unT_2 (m r : Nat) : unT 2 m r = 3 * r := rfl
theorem unT_le {k : Int32} {m r : Nat} (hm : m ≤ 256) (hr : r ≤ 256) : unT k m r < 2 ^ 31 := by
  unfold unT
  split
  · omega
  · split <;> omega
theorem unI_T {k : Int32} {m r : Nat} : unitsI k (nI m) (nI r) = nI (unT k m r) := by
  unfold unitsI unT
  by_cases h0 : k = 0
  · rw [if_pos h0, if_pos h0]; exact pk_mul 2 m
  · rw [if_neg h0, if_neg h0]
    by_cases h1 : k = 1
    · rw [if_pos h1, if_pos h1]; rfl
    · rw [if_neg h1, if_neg h1]; exact pk_mul 3 r
theorem unC_T {f : FR} {b : Nat} {k : Int32} {m r : Nat} (h1 : fs f b = nI m) (h2 : fr f b = nI r) (hk : k = 0 ∨ k = 1 ∨ k = 2) : unitsC f b k = nI (unT k m r) := by
  unfold unitsC
  rw [h1, h2]
  rcases hk with rfl | rfl | rfl
  · exact pk_mul 2 m
  · rfl
  · exact pk_mul 3 r
theorem hoI_0 {m r : Nat} (hm : m ≤ 256) : holdsI 0 (nI m) (nI r) = decide (m ≤ 24) := decide_eq_decide.mpr (nI_leI (b := 24) (by omega) (by decide))
theorem hoI_2 {m r : Nat} (hr : r ≤ 256) : holdsI 2 (nI m) (nI r) = decide (r ≤ 8) := by
  show (decide ((2 : Int32) = 1) || decide (nI r ≤ 8)) = _
  rw [decide_eq_false (by decide), Bool.false_or]
  exact decide_eq_decide.mpr (nI_leI (b := 8) (by omega) (by decide))
theorem bestI_T {m r : Nat} (hm : m ≤ 256) (hr : r ≤ 256) : bestI (nI m) (nI r) = bsT m r := by
  have lt : ∀ k k', (nI (unT k m r) < nI (unT k' m r)) = (unT k m r < unT k' m r) := fun k k' => propext (nI_ltI (unT_le hm hr) (unT_le hm hr))
  have le : ∀ k k', (nI (unT k m r) ≤ nI (unT k' m r)) = (unT k m r ≤ unT k' m r) := fun k k' => propext (nI_leI (unT_le hm hr) (unT_le hm hr))
  unfold bestI bsT
  simp only [hoI_2 hr, hoI_0 hm, unI_T, lt, le, decide_eq_true_eq]
  by_cases h8 : r ≤ 8
  · rw [if_pos (show r ≤ 8 ∧ unT 2 m r < unT 1 m r from ⟨h8, by rw [unT_2, unT_1]; omega⟩), unT_0, unT_2, if_pos h8]
    by_cases h : m ≤ 24 ∧ 2 * m ≤ 3 * r
    · rw [if_pos h, if_pos (by omega), if_neg (by omega)]
    · rw [if_neg h]
      by_cases h16 : m ≤ 16
      · rw [if_pos h16, if_pos (by omega)]
      · rw [if_neg h16]
  · rw [if_neg (show ¬ (r ≤ 8 ∧ unT 2 m r < unT 1 m r) from fun g => h8 g.1), unT_0, unT_1, if_neg h8, if_neg (show ¬ (r ≤ 8 ∧ 3 * r < 2 * m) from fun g => h8 g.1)]
    by_cases h16 : m ≤ 16
    · rw [if_pos h16, if_pos (by omega)]
    · rw [if_neg h16, if_neg (by omega)]
theorem hoC_0 {f : FR} {b m : Nat} (h1 : fs f b = nI m) (hm : m ≤ 256) : holdC f b 0 = decide (m ≤ 24) := by
  show decide (fs f b ≤ 24) = _
  rw [h1]
  exact decide_eq_decide.mpr (nI_leI (b := 24) (by omega) (by decide))
theorem hoC_2 {f : FR} {b r : Nat} (h2 : fr f b = nI r) (hr : r ≤ 256) : holdC f b 2 = decide (r ≤ 8) := by
  show decide (fr f b ≤ 8) = _
  rw [h2]
  exact decide_eq_decide.mpr (nI_leI (b := 8) (by omega) (by decide))
theorem hoI_1 (m r : Int32) : holdsI 1 m r = true := by
  unfold holdsI
  rw [if_neg (by decide), decide_eq_true (show (1 : Int32) = 1 from rfl), Bool.true_or]
theorem hoC_1 (f : FR) (b : Nat) : holdC f b 1 = true := by
  unfold holdC
  rw [if_neg (by decide), if_neg (by decide)]
theorem bestC_T {f : FR} {b m r : Nat} (h1 : fs f b = nI m) (h2 : fr f b = nI r) (hm : m ≤ 256) (hr : r ≤ 256) : bestC f b = bsT m r := by
  have lt : ∀ k k', (nI (unT k m r) < nI (unT k' m r)) = (unT k m r < unT k' m r) := fun k k' => propext (nI_ltI (unT_le hm hr) (unT_le hm hr))
  have le : ∀ k k', (nI (unT k m r) ≤ nI (unT k' m r)) = (unT k m r ≤ unT k' m r) := fun k k' => propext (nI_leI (unT_le hm hr) (unT_le hm hr))
  have u0 := unC_T (k := 0) h1 h2 (Or.inl rfl)
  have u1 := unC_T (k := 1) h1 h2 (Or.inr (Or.inl rfl))
  have u2 := unC_T (k := 2) h1 h2 (Or.inr (Or.inr rfl))
  unfold bestC bsT
  simp only [hoC_2 h2 hr, hoC_0 h1 hm, u0, u1, u2, lt, le, decide_eq_true_eq]
  by_cases h16 : m ≤ 16
  · rw [if_pos (show m ≤ 24 ∧ unT 0 m r ≤ unT 1 m r from ⟨by omega, by rw [unT_0, unT_1]; omega⟩), if_pos h16]
    simp only [u0, lt]
    exact if_iff (by rw [unT_2, unT_0]) _ _
  · rw [if_neg (show ¬ (m ≤ 24 ∧ unT 0 m r ≤ unT 1 m r) from fun g => by rw [unT_0, unT_1] at g; omega), if_neg h16]
    simp only [u1, lt]
    refine Eq.trans (if_iff (q := r ≤ 8 ∧ 3 * r < 32) (by rw [unT_2, unT_1]) _ _) ?_
    by_cases h8 : r ≤ 8
    · rw [if_pos h8, if_pos (show r ≤ 8 ∧ 3 * r < 32 from ⟨h8, by omega⟩)]
    · rw [if_neg h8, if_neg (show ¬ (r ≤ 8 ∧ 3 * r < 32) from fun g => h8 g.1)]
theorem bsT_q (m r : Nat) : bsT m r = 0 ∨ bsT m r = 1 ∨ bsT m r = 2 := by
  unfold bsT
  split
  · split
    · exact Or.inr (Or.inr rfl)
    · exact Or.inl rfl
  · split
    · exact Or.inr (Or.inr rfl)
    · exact Or.inr (Or.inl rfl)
theorem bsT_0 (r : Nat) : bsT 0 r = 0 := by
  unfold bsT
  rw [if_pos (by omega), if_neg (by omega)]
theorem bsT_2 {m r : Nat} (h : bsT m r = 2) : r ≤ 8 := by
  unfold bsT at h
  split at h
  · split at h
    · omega
    · exact absurd h (by decide)
  · split at h
    · assumption
    · exact absurd h (by decide)
/-- no boat saves less than nothing -/
theorem bsT_le {k : Int32} {m r : Nat} (hk : k = 0 ∨ k = 1 ∨ k = 2) (h2 : k = 2 → r ≤ 8) : unT (bsT m r) m r ≤ unT k m r := by
  have h : ∀ q : Prop, [Decidable q] → ∀ x y : Int32, unT (if q then x else y) m r = if q then unT x m r else unT y m r := by
    intro q _ x y
    by_cases hq : q
    · rw [if_pos hq, if_pos hq]
    · rw [if_neg hq, if_neg hq]
  unfold bsT
  rw [h, h, h, unT_0, unT_1, unT_2]
  rcases hk with rfl | rfl | rfl
  · rw [unT_0]; split <;> first | omega | (split <;> omega)
  · rw [unT_1]; split <;> first | omega | (split <;> omega)
  · have := h2 rfl
    rw [unT_2]; split <;> first | omega | (split <;> omega)
theorem bsT_pos {m r : Nat} (hm : m ≠ 0) (hr : r ≠ 0) : 0 < unT (bsT m r) m r := by
  rcases bsT_q m r with h | h | h <;> rw [h]
  · rw [unT_0]; omega
  · rw [unT_1]; omega
  · rw [unT_2]; omega
theorem cm_cr {w : Nat → Int64} {b : Nat} (h : cm w b ≠ 0) : cr w b ≠ 0 := by
  intro e
  refine h (cnt_z 256 ?_)
  have hz := cnt_zz 256 e
  intro j
  induction j with
  | zero =>
    intro hj
    have := hz 0 hj
    unfold runB at this
    rw [decide_eq_true (show (256 * b + 0) % 256 = 0 by omega), Bool.true_or, Bool.and_true] at this
    exact this
  | succ j ih =>
    intro hj
    have h1 := hz (j + 1) hj
    have h2 := ih (by omega)
    unfold runB at h1
    rw [show 256 * b + (j + 1) - 1 = 256 * b + j by omega, h2, Bool.not_false, Bool.or_true, Bool.and_true] at h1
    exact h1
theorem many_of {f : FR} {g : Nat → Int32} {s b : Nat} (h : Rb f g s) (hb : b < 8) : manyN g s b = cm (fw f) b := cnt_cong 256 (fun j hj => h _ (by omega))
theorem runs_of {f : FR} {g : Nat → Int32} {s b : Nat} (h : Rb f g s) (hb : b < 8) : runsN g s b = cr (fw f) b := cnt_cong 256 (fun j hj => by
  unfold runB
  rw [h _ (by omega), h (256 * b + j - 1) (by omega)])
theorem kq_up {f : FR} {b : Nat} {k : Int32} (h : Kq f) (hk : k = 0 ∨ k = 1 ∨ k = 2) : ∀ b', b' < 8 → upd (fk f) b k b' = 0 ∨ upd (fk f) b k b' = 1 ∨ upd (fk f) b k b' = 2 := by
  intro b' hb'
  unfold upd
  split
  · exact hk
  · exact h b' hb'
theorem i_p1 (x : Int32) : x + 1 - 1 = x := by rw [Int32.sub_eq_add_neg, Int32.add_assoc]; show x + 0 = x; exact Int32.add_zero x
/-- what the reference says of a boat -/
theorem bq {f : FR} {g : Nat → Int32} {s b : Nat} (h : Fl0 f g s) (hb : b < 8) (hc : cm (fw f) b ≠ 0) : bestN g s b = bestC f b ∧ kindN g s b = fk f b ∧ unitsN g s b = unitsC f b (fk f b) ∧ tollN g s b = if bestC f b = fk f b then 0 else unitsC f b (bestC f b) := by
  obtain ⟨h1, h2, h3, h4, h5⟩ := h
  obtain ⟨e1, e2⟩ := h1 b hb
  have m1 := many_of h3 hb
  have m2 := runs_of h3 hb
  have k1 : kindN g s b = fk f b := by
    unfold kindN
    rw [h5 b hb, if_neg hc, i_p1]
  have b1 : bestN g s b = bestC f b := by
    unfold bestN
    rw [m1, m2, bestI_T (cm_le _ _) (cr_le _ _), bestC_T e1 e2 (cm_le _ _) (cr_le _ _)]
  have bq : bestC f b = 0 ∨ bestC f b = 1 ∨ bestC f b = 2 := by rw [bestC_T e1 e2 (cm_le _ _) (cr_le _ _)]; exact bsT_q _ _
  refine ⟨b1, k1, ?_, ?_⟩
  · unfold unitsN
    rw [k1, m1, m2, unI_T, unC_T e1 e2 (h2 b hb)]
  · unfold tollN
    rw [b1, k1, m1, m2, unI_T, unC_T e1 e2 bq]
theorem bq_best {f : FR} {b : Nat} (h : Ws f) (hb : b < 8) : bestC f b = bsT (cm (fw f) b) (cr (fw f) b) := bestC_T (h b hb).1 (h b hb).2 (cm_le _ _) (cr_le _ _)
/-- a boat becomes one of the best kind -/
def bcF (f : FR) (b : Nat) : FR := fkS (fdS (fpS f (fp f - unitsC f b (bestC f b))) (fd f + unitsC f b (bestC f b))) (upd (fk f) b (bestC f b))
theorem bc_ok {f : FR} {g : Nat → Int32} {s b : Nat} (h : Fl0 f g s) (hb : b < 8) (hc : cm (fw f) b ≠ 0) (hne : ¬ bestC f b = fk f b) : Fl0 (bcF f b) (becomesN g s b) s ∧ Oth g (becomesN g s b) s := by
  obtain ⟨q1, q2, -, q4⟩ := bq h hb hc
  obtain ⟨h1, h2, h3, h4, h5⟩ := h
  have hq : bestC f b = 0 ∨ bestC f b = 1 ∨ bestC f b = 2 := by rw [bq_best h1 hb]; exact bsT_q _ _
  rw [if_neg hne] at q4
  have eg : becomesN g s b = layN (layN (layN g s (3 + b) (bestC f b + 1)) s 0 (fp f - unitsC f b (bestC f b))) s 2 (fd f + unitsC f b (bestC f b)) := by
    unfold becomesN
    simp only [q1, q4]
    rw [of_lay2 (w := 0) (w' := 2) (by omega) (by omega) (by omega), of_lay2 (w := 3 + b) (w' := 2) (by omega) (by omega) (by omega), of_lay2 (w := 3 + b) (w' := 0) (by omega) (by omega) (by omega), h4.1, h4.2.1]
  rw [eg]
  refine ⟨⟨h1, kq_up h2 hq, fun n hn => ?_, ⟨?_, ?_, ?_⟩, fun b' hb' => ?_⟩, ((Oth.lay (by omega)).tr (Oth.lay (by omega))).tr (Oth.lay (by omega))⟩
  · rw [mb_lay (by omega) hn, mb_lay (by omega) hn, mb_lay (by omega) hn]
    exact h3 n hn
  · rw [of_lay2 (by omega) (by omega) (by omega), of_lay1]; rfl
  · rw [of_lay1]; rfl
  · rw [of_lay2 (by omega) (by omega) (by omega), of_lay2 (by omega) (by omega) (by omega), of_lay2 (by omega) (by omega) (by omega)]
    exact h4.2.2
  · show ofN _ s (3 + b') = if cm (fw f) b' = 0 then 0 else upd (fk f) b (bestC f b) b' + 1
    rw [of_lay2 (by omega) (by omega) (by omega), of_lay2 (by omega) (by omega) (by omega)]
    by_cases e : b' = b
    · subst e
      rw [of_lay1, if_neg hc]
      unfold upd
      rw [if_pos rfl]
    · rw [of_lay2 (by omega) (by omega) (by omega)]
      unfold upd
      rw [if_neg e]
      exact h5 b' hb'
theorem hold_ok {f : FR} {g : Nat → Int32} {s b : Nat} (h : Fl0 f g s) (hb : b < 8) (hc : cm (fw f) b ≠ 0) : holdsI (kindN g s b) (nI (manyN g s b)) (nI (runsN g s b)) = holdC f b (fk f b) := by
  obtain ⟨-, q2, -, -⟩ := bq h hb hc
  obtain ⟨h1, h2, h3, h4, h5⟩ := h
  rw [q2, many_of h3 hb, runs_of h3 hb]
  rcases h2 b hb with e | e | e <;> rw [e]
  · rw [hoI_0 (cm_le _ _), hoC_0 (h1 b hb).1 (cm_le _ _)]
  · rw [hoI_1, hoC_1]
  · rw [hoI_2 (cr_le _ _), hoC_2 (h1 b hb).2 (cr_le _ _)]
theorem hold_Kd {f : FR} {b : Nat} (h1 : Ws f) (hb : b < 8) (hc : cm (fw f) b ≠ 0) (h : holdC f b (fk f b) = true) : Kd f b := by
  refine ⟨fun e => absurd e hc, fun e => ?_⟩
  rw [e, hoC_2 (h1 b hb).2 (cr_le _ _)] at h
  exact of_decide_eq_true h
theorem bb_eq (f : FR) (b : Nat) : bbF f b = if bestC f b = fk f b ∨ fp f < unitsC f b (bestC f b) then (f, 0) else (bcF f b, unitsC f b (bestC f b)) := rfl
/-- in the harbour a boat is looked at -/
theorem go2_ok {f : FR} {g : Nat → Int32} {s b : Nat} (h : Fl0 f g s) (hb : b < 8) (hc : cm (fw f) b ≠ 0) : Fl0 (if fa f = false then (bbF f b).1 else f) (goN2 g s b) s ∧ Oth g (goN2 g s b) s := by
  obtain ⟨q1, q2, -, q4⟩ := bq h hb hc
  have h4 := h.2.2.2.1
  unfold goN2
  rw [q1, q2, q4, h4.1, h4.2.2]
  cases ha : fa f with
  | true =>
    rw [if_neg (by decide), if_neg (fun z => absurd z.1 (by decide))]
    exact ⟨h, Oth.rf⟩
  | false =>
    rw [if_pos rfl, bb_eq]
    by_cases e : bestC f b = fk f b
    · rw [if_pos (Or.inl e), if_neg (fun z => z.2.1 e)]
      exact ⟨h, Oth.rf⟩
    · by_cases e2 : fp f < unitsC f b (bestC f b)
      · rw [if_pos (Or.inr e2), if_neg (fun z => by rw [if_neg e] at z; exact Int32.not_le.mpr e2 z.2.2)]
        exact ⟨h, Oth.rf⟩
      · rw [if_neg (fun z => z.elim e e2), if_pos ⟨rfl, e, by rw [if_neg e]; exact Int32.not_lt.mp e2⟩]
        exact bc_ok h hb hc e
theorem go2_w {f : FR} {b : Nat} : fw (if fa f = false then (bbF f b).1 else f) = fw f ∧ ∀ b', b' ≠ b → fk (if fa f = false then (bbF f b).1 else f) b' = fk f b' := by
  by_cases ha : fa f = false
  · rw [if_pos ha, bb_eq]
    by_cases e : bestC f b = fk f b ∨ fp f < unitsC f b (bestC f b)
    · rw [if_pos e]; exact ⟨rfl, fun _ _ => rfl⟩
    · rw [if_neg e]; exact ⟨rfl, fun b' h => if_neg h⟩
  · rw [if_neg ha]; exact ⟨rfl, fun _ _ => rfl⟩
theorem nI_00 : nI 0 = 0 := rfl
/-- a number comes or goes -/
theorem go_ok {f : FR} {g : Nat → Int32} {s n : Nat} {c : Bool} (h : Fl f g s) (hn : n < 2048) (hc : ¬ fbit (fw f) n = c) :
    (goesN g s n c).2 = (adF (flipF f n) (n / 256)).2 ∧ Oth g (goesN g s n c).1 s ∧ ((adF (flipF f n) (n / 256)).2 = true → Fl (adF (flipF f n) (n / 256)).1 (goesN g s n c).1 s) := by
  obtain ⟨⟨h1, h2, h3, h4, h5⟩, h6⟩ := h
  have hb : n / 256 < 8 := by omega
  have w1 : Ws (flipF f n) := ws_flip h1 hn
  have r1 : Rb (flipF f n) (putN g s n c) s := rb_flip h3 hn hc
  have p1 : ∀ w, w < 11 → ofN (putN g s n c) s w = ofN g s w := fun w hw => of_lay2 (by omega) (by omega) (by omega)
  have o1 : Oth g (putN g s n c) s := Oth.put hn
  have key : ofN (goN1 g s n c) s (3 + n / 256) = fk f (n / 256) + 1 ∧ (∀ w, w < 11 → w ≠ 3 + n / 256 → ofN (goN1 g s n c) s w = ofN g s w) ∧ Rb (flipF f n) (goN1 g s n c) s ∧ Oth g (goN1 g s n c) s := by
    unfold goN1
    simp only []
    have hk : kindN (putN g s n c) s (n / 256) = (if cm (fw f) (n / 256) = 0 then 0 else fk f (n / 256) + 1) - 1 := by
      unfold kindN
      rw [p1 _ (by omega), h5 _ hb]
    rw [hk]
    by_cases e : cm (fw f) (n / 256) = 0
    · rw [if_pos e, if_pos (by decide)]
      refine ⟨?_, fun w hw hne => ?_, fun k hk => ?_, o1.tr (Oth.lay (by omega))⟩
      · rw [of_lay1, (h6 _ hb).1 e]; rfl
      · rw [of_lay2 (by omega) (by omega) (by omega), p1 w hw]
      · rw [mb_lay (by omega) hk]; exact r1 k hk
    · rw [if_neg e, i_p1, if_neg (by rcases h2 _ hb with z | z | z <;> rw [z] <;> decide)]
      refine ⟨?_, fun w hw _ => p1 w hw, r1, o1⟩
      rw [p1 _ (by omega), h5 _ hb, if_neg e]
  obtain ⟨k1, k2, k3, k4⟩ := key
  have hR : ∀ b', b' < 8 → b' ≠ n / 256 → Rk (flipF f n) (goN1 g s n c) s b' := by
    intro b' hb' hne
    show ofN _ s (3 + b') = if cm (flW (fw f) n) b' = 0 then 0 else fk f b' + 1
    rw [cm_out hne, k2 _ (by omega) (by omega)]
    exact h5 b' hb'
  have hP : Rp (flipF f n) (goN1 g s n c) s := ⟨by rw [k2 _ (by omega) (by omega)]; exact h4.1, by rw [k2 _ (by omega) (by omega)]; exact h4.2.1, by rw [k2 _ (by omega) (by omega)]; exact h4.2.2⟩
  have hK : ∀ b', b' < 8 → b' ≠ n / 256 → Kd (flipF f n) b' := by
    intro b' hb' hne
    show (cm (flW (fw f) n) b' = 0 → fk f b' = 0) ∧ (fk f b' = 2 → cr (flW (fw f) n) b' ≤ 8)
    rw [cm_out hne, cr_out hne]
    exact h6 b' hb'
  unfold goesN adF
  rw [many_of k3 hb, (w1 _ hb).1]
  by_cases e : cm (fw (flipF f n)) (n / 256) = 0
  · rw [if_pos e, if_pos (by rw [e]; rfl)]
    refine ⟨rfl, k4.tr (Oth.lay (by omega)), fun _ => ⟨⟨w1, kq_up (f := flipF f n) h2 (Or.inl rfl), fun k hk => ?_, ⟨?_, ?_, ?_⟩, fun b' hb' => ?_⟩, fun b' hb' => ?_⟩⟩
    · rw [mb_lay (by omega) hk]; exact k3 k hk
    · rw [of_lay2 (by omega) (by omega) (by omega)]; exact hP.1
    · rw [of_lay2 (by omega) (by omega) (by omega)]; exact hP.2.1
    · rw [of_lay2 (by omega) (by omega) (by omega)]; exact hP.2.2
    · by_cases q : b' = n / 256
      · subst q
        show _ = if cm (fw (flipF f n)) (n / 256) = 0 then 0 else _
        rw [of_lay1, if_pos e]
      · show _ = if cm (flW (fw f) n) b' = 0 then 0 else upd (fk f) (n / 256) 0 b' + 1
        rw [of_lay2 (by omega) (by omega) (by omega)]
        unfold upd
        rw [if_neg q]
        exact hR b' hb' q
    · show (cm (flW (fw f) n) b' = 0 → upd (fk f) (n / 256) 0 b' = 0) ∧ (upd (fk f) (n / 256) 0 b' = 2 → cr (flW (fw f) n) b' ≤ 8)
      unfold upd
      by_cases q : b' = n / 256
      · rw [if_pos q]
        exact ⟨fun _ => rfl, fun z => absurd z (by decide)⟩
      · rw [if_neg q]
        exact hK b' hb' q
  · rw [if_neg e, if_neg (fun z => e ((nI_z (Nat.lt_of_le_of_lt (cm_le _ _) (by decide))).mp z))]
    have f0 : Fl0 (flipF f n) (goN1 g s n c) s := ⟨w1, h2, k3, hP, fun b' hb' => by
      by_cases q : b' = n / 256
      · subst q
        show _ = if cm (fw (flipF f n)) (n / 256) = 0 then 0 else _
        rw [if_neg e]
        exact k1
      · exact hR b' hb' q⟩
    obtain ⟨g1, g2⟩ := go2_ok f0 hb e
    obtain ⟨v1, v2⟩ := go2_w (f := flipF f n) (b := n / 256)
    have eF : (if fa (flipF f n) = false then ((bbF (flipF f n) (n / 256)).1, holdC (bbF (flipF f n) (n / 256)).1 (n / 256) (fk (bbF (flipF f n) (n / 256)).1 (n / 256))) else (flipF f n, holdC (flipF f n) (n / 256) (fk (flipF f n) (n / 256)))) = (if fa (flipF f n) = false then (bbF (flipF f n) (n / 256)).1 else flipF f n, holdC (if fa (flipF f n) = false then (bbF (flipF f n) (n / 256)).1 else flipF f n) (n / 256) (fk (if fa (flipF f n) = false then (bbF (flipF f n) (n / 256)).1 else flipF f n) (n / 256))) := by
      split <;> rfl
    rw [eF]
    generalize (if fa (flipF f n) = false then (bbF (flipF f n) (n / 256)).1 else flipF f n) = F at g1 v1 v2 ⊢
    have e' : cm (fw F) (n / 256) ≠ 0 := by rw [v1]; exact e
    refine ⟨hold_ok g1 hb e', k4.tr g2, fun ht => ⟨g1, fun b' hb' => ?_⟩⟩
    by_cases q : b' = n / 256
    · subst q
      exact hold_Kd g1.1 hb e' ht
    · have := hK b' hb' q
      unfold Kd at this ⊢
      rw [v1, v2 b' q]
      exact this
theorem ad_w {f : FR} {b : Nat} : fw (adF f b).1 = fw f := by
  unfold adF
  split
  · rfl
  · split
    · rw [bb_eq]; split <;> rfl
    · rfl
/-- numbers of a range come or go -/
theorem mv_ok {s : Nat} {c : Bool} : ∀ (k n m : Nat) (f : FR) (g : Nat → Int32), Fl f g s → n + k ≤ 2048 → m + k < 2 ^ 31 →
    Oth g (gaN s c k n m g).1 s ∧ (((mvF c k n m f).2 = -3 ∧ (gaN s c k n m g).2 = -1) ∨ ((∃ j, j ≤ m + k ∧ (mvF c k n m f).2 = nI j) ∧ (gaN s c k n m g).2 = (mvF c k n m f).2 ∧ Fl (mvF c k n m f).1 (gaN s c k n m g).1 s))
  | 0, n, m, f, g, h, _, _ => ⟨Oth.rf, Or.inr ⟨⟨m, by omega, rfl⟩, rfl, h⟩⟩
  | k + 1, n, m, f, g, h, hk, hm => by
    have hb := h.1.2.2.1 n (by omega)
    unfold gaN mvF
    rw [hb]
    by_cases e : fbit (fw f) n = c
    · rw [if_pos e, if_pos e]
      have := mv_ok (s := s) (c := c) k (n + 1) m f g h (by omega) (by omega)
      refine ⟨this.1, ?_⟩
      rcases this.2 with z | ⟨⟨j, hj, z1⟩, z2⟩
      · exact Or.inl z
      · exact Or.inr ⟨⟨j, by omega, z1⟩, z2⟩
    · rw [if_neg e, if_neg e]
      obtain ⟨g1, g2, g3⟩ := go_ok h (show n < 2048 by omega) e
      rw [g1]
      by_cases ht : (adF (flipF f n) (n / 256)).2 = true
      · rw [if_pos ht, if_pos ht]
        have := mv_ok (s := s) (c := c) k (n + 1) (m + 1) _ _ (g3 ht) (by omega) (by omega)
        refine ⟨g2.tr this.1, ?_⟩
        rcases this.2 with z | ⟨⟨j, hj, z1⟩, z2⟩
        · exact Or.inl z
        · exact Or.inr ⟨⟨j, by omega, z1⟩, z2⟩
      · rw [if_neg ht, if_neg ht]
        exact ⟨g2, Or.inl ⟨rfl, rfl⟩⟩
