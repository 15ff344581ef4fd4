/-! What is told: both sides the same -/
theorem sum_cong {f g : Nat → Int32} : ∀ n, (∀ j, j < n → f j = g j) → sumI f n = sumI g n
  | 0, _ => rfl
  | n + 1, h => by
    show sumI f n + f n = sumI g n + g n
    rw [sum_cong n (fun j hj => h j (by omega)), h n (by omega)]
theorem sum_fs {f : FR} (h : Ws f) : ∀ k, k ≤ 8 → sumI (fs f) k = nI (cnt (fbit (fw f)) 0 (256 * k))
  | 0, _ => rfl
  | k + 1, hk => by
    show sumI (fs f) k + fs f k = _
    rw [sum_fs h k (by omega), (h k (by omega)).1, nI_add, show 256 * (k + 1) = 256 * k + 256 by omega, cnt_add, Nat.zero_add]
    rfl
theorem fl_cnt {f : FR} {g : Nat → Int32} {s : Nat} (h : Fl f g s) {n : Nat} (hn : n ≤ 2048) : cnt (fbit (fw f)) 0 n = cnt (mb g s) 0 n := cnt_cong n (fun j hj => by rw [Nat.zero_add]; exact (h.1.2.2.1 j (by omega)).symm)
theorem fs_0 {f : FR} (h : Ws f) {b : Nat} (hb : b < 8) : fs f b = 0 ↔ cm (fw f) b = 0 := by
  rw [(h b hb).1]
  exact nI_z (Nat.lt_of_le_of_lt (cm_le _ _) (by decide))
theorem fs_pos {f : FR} (h : Ws f) {b : Nat} (hb : b < 8) : 0 < fs f b ↔ cm (fw f) b ≠ 0 := by
  rw [(h b hb).1]
  have h1 : (nI 0 < nI (cm (fw f) b)) ↔ 0 < cm (fw f) b := nI_ltI (by decide) (Nat.lt_of_le_of_lt (cm_le _ _) (by decide))
  exact h1.trans (by omega)
theorem kind_0 {f : FR} {g : Nat → Int32} {s b : Nat} (h : Fl f g s) (hb : b < 8) (hc : cm (fw f) b = 0) : kindN g s b = -1 := by
  unfold kindN
  rw [h.1.2.2.2.2 b hb, if_pos hc]
  decide
theorem kind_n {f : FR} {g : Nat → Int32} {s b : Nat} (h : Fl f g s) (hb : b < 8) : kindN g s b < 0 ↔ cm (fw f) b = 0 := by
  constructor
  · intro z
    rcases Decidable.em (cm (fw f) b = 0) with e | e
    · exact e
    · rw [(bq h.1 hb e).2.1] at z
      rcases h.1.2.1 b hb with k | k | k <;> rw [k] at z <;> exact absurd z (by decide)
  · intro z
    rw [kind_0 h hb z]
    decide
theorem i_112 : ∀ x y z : Int32, x + 1 + y + z = x + y + z + 1 := fun x y z => by rw [Int32.add_assoc x, Int32.add_comm 1, ← Int32.add_assoc, Int32.add_assoc (x + y), Int32.add_comm 1, ← Int32.add_assoc]
theorem i_121 : ∀ x y z : Int32, x + (y + 1) + z = x + y + z + 1 := fun x y z => by rw [← Int32.add_assoc, Int32.add_assoc (x + y), Int32.add_comm 1, ← Int32.add_assoc]
theorem bkC_s (f : FR) (k : Int32) (n : Nat) : bkC f k (n + 1) = bkC f k n + (if 0 < fs f n ∧ fk f n = k then 1 else 0) := rfl
theorem bk_boats {f : FR} {g : Nat → Int32} {s : Nat} (h : Fl f g s) : ∀ n, n ≤ 8 → bkC f 0 n + bkC f 1 n + bkC f 2 n = boatsN g s n
  | 0, _ => rfl
  | n + 1, hn => by
    have ih := bk_boats h n (by omega)
    have hb : n < 8 := by omega
    rw [boatsN, ← ih, bkC_s, bkC_s, bkC_s]
    by_cases e : cm (fw f) n = 0
    · have z : ¬ 0 < fs f n := fun q => (fs_pos h.1.1 hb).mp q e
      rw [if_neg (fun q => z q.1), if_neg (fun q => z q.1), if_neg (fun q => z q.1), if_pos ((kind_n h hb).mpr e)]
      simp only [Int32.add_zero]
    · have z : 0 < fs f n := (fs_pos h.1.1 hb).mpr e
      rw [if_neg (fun q => e ((kind_n h hb).mp q))]
      rcases h.1.2.1 n hb with k | k | k <;> rw [k]
      · rw [if_pos ⟨z, rfl⟩, if_neg (fun q => absurd q.2 (by decide)), if_neg (fun q => absurd q.2 (by decide)), Int32.add_zero, Int32.add_zero, i_112]
      · rw [if_neg (fun q => absurd q.2 (by decide)), if_pos ⟨z, rfl⟩, if_neg (fun q => absurd q.2 (by decide)), Int32.add_zero, Int32.add_zero, i_121]
      · rw [if_neg (fun q => absurd q.2 (by decide)), if_neg (fun q => absurd q.2 (by decide)), if_pos ⟨z, rfl⟩, Int32.add_zero, Int32.add_zero, ← Int32.add_assoc]
theorem bk_kb {f : FR} {g : Nat → Int32} {s : Nat} (h : Fl f g s) {k : Int32} (hk : ¬ k = -1) : ∀ n, n ≤ 8 → bkC f k n = kbN g s k n
  | 0, _ => rfl
  | n + 1, hn => by
    have hb : n < 8 := by omega
    rw [bkC, kbN, bk_kb h hk n (by omega)]
    congr 1
    by_cases e : cm (fw f) n = 0
    · rw [if_neg (fun q => (fs_pos h.1.1 hb).mp q.1 e), kind_0 h hb e, if_neg (fun q => hk q.symm)]
    · rw [(bq h.1 hb e).2.1]
      exact if_iff ⟨fun q => q.2, fun q => ⟨(fs_pos h.1.1 hb).mpr e, q⟩⟩ _ _
theorem sum_N {f : FR} {g : Nat → Int32} {s : Nat} (h : Fl f g s) {what : Int32} {v : Nat → Int32} (h0 : ∀ b, b < 8 → cm (fw f) b = 0 → v b = 0) (h1 : ∀ b, b < 8 → cm (fw f) b ≠ 0 → v b = if what = 2 then unitsN g s b else if what = 6 then nI (runsN g s b) else unitsI (bestN g s b) (nI (manyN g s b)) (nI (runsN g s b))) : ∀ n, n ≤ 8 → sumI v n = sumN g s what n
  | 0, _ => rfl
  | n + 1, hn => by
    have hb : n < 8 := by omega
    rw [sumI, sumN, sum_N h h0 h1 n (by omega)]
    by_cases e : cm (fw f) n = 0
    · rw [if_pos ((kind_n h hb).mpr e), h0 n hb e, Int32.add_zero]
    · rw [if_neg (fun q => e ((kind_n h hb).mp q)), h1 n hb e]
theorem cr_0 {w : Nat → Int64} {b : Nat} (h : cm w b = 0) : cr w b = 0 := cnt_z 256 (fun j hj => by unfold runB; rw [cnt_zz 256 h j hj, Bool.false_and])
theorem units_0 {f : FR} {b : Nat} {k : Int32} (h : Ws f) (hb : b < 8) (hc : cm (fw f) b = 0) (hk : k = 0) : unitsC f b k = 0 := by
  rw [unC_T (h b hb).1 (h b hb).2 (Or.inl hk), hk, unT_0, hc]; rfl
theorem best_0 {f : FR} {b : Nat} (h : Ws f) (hb : b < 8) (hc : cm (fw f) b = 0) : bestC f b = 0 := by rw [bq_best h hb, hc, bsT_0]
theorem sum_2 {f : FR} {g : Nat → Int32} {s : Nat} (h : Fl f g s) : sumI (fun b => unitsC f b (fk f b)) 8 = sumN g s 2 8 :=
  sum_N (what := 2) h (fun b hb hc => units_0 h.1.1 hb hc ((h.2 b hb).1 hc)) (fun b hb hc => by rw [if_pos rfl]; exact (bq h.1 hb hc).2.2.1.symm) 8 (Nat.le_refl _)
theorem sum_6 {f : FR} {g : Nat → Int32} {s : Nat} (h : Fl f g s) : sumI (fr f) 8 = sumN g s 6 8 :=
  sum_N (what := 6) h (fun b hb hc => by rw [(h.1.1 b hb).2, cr_0 hc]; rfl) (fun b hb hc => by rw [if_neg (by decide), if_pos rfl, runs_of h.1.2.2.1 hb]; exact (h.1.1 b hb).2) 8 (Nat.le_refl _)
theorem sum_9 {f : FR} {g : Nat → Int32} {s : Nat} (h : Fl f g s) : sumI (fun b => unitsC f b (bestC f b)) 8 = sumN g s 9 8 :=
  sum_N (what := 9) h (fun b hb hc => units_0 h.1.1 hb hc (best_0 h.1.1 hb hc)) (fun b hb hc => by
    rw [if_neg (by decide), if_neg (by decide), (bq h.1 hb hc).1, many_of h.1.2.2.1 hb, runs_of h.1.2.2.1 hb, unI_T]
    exact unC_T (h.1.1 b hb).1 (h.1.1 b hb).2 (by rw [bq_best h.1.1 hb]; exact bsT_q _ _)) 8 (Nat.le_refl _)
theorem at_up {f : FR} {g : Nat → Int32} {s : Nat} (h : Fl f g s) {n : Nat} (hn : n ≤ 2048) : atI (fw f) (nI (cnt (fbit (fw f)) 0 n)) = upF (mb g s) (2048 - n) n := by
  have h1 := atI_sel (fw f) (p := cnt (fbit (fw f)) 0 n) (Nat.lt_of_le_of_lt (cnt_le _ _ _) (by omega))
  have h2 := upF_sel (mb g s) (N := 2048) (2048 - n) n (by omega)
  rw [← fl_cnt h hn] at h2
  exact h1.one (h2.cong (fun j hj => h.1.2.2.1 j hj))
theorem at_dn {f : FR} {g : Nat → Int32} {s : Nat} (h : Fl f g s) {n : Nat} (hn : n ≤ 2048) : atI (fw f) (nI (cnt (fbit (fw f)) 0 n) - 1) = dnF (mb g s) n := by
  have h2 := dnF_sel (mb g s) (N := 2048) n hn
  rw [← fl_cnt h hn] at h2
  rcases h2 with ⟨e1, e2⟩ | ⟨e1, e2⟩
  · rw [e1, e2]
    exact if_pos (by decide)
  · obtain ⟨k, hk⟩ : ∃ k, cnt (fbit (fw f)) 0 n = k + 1 := ⟨cnt (fbit (fw f)) 0 n - 1, by omega⟩
    have hl : cnt (fbit (fw f)) 0 n ≤ n := cnt_le _ _ _
    rw [hk] at e2 hl ⊢
    rw [nI_pred]
    exact (atI_sel (fw f) (p := k) (by omega)).one (e2.cong (fun j hj => h.1.2.2.1 j hj))
/-- what set(..) tells -/
def setF (f : FR) (what : Int32) : Int32 := if what = 0 then sumI (fs f) 8 else if what = 1 then bkC f 0 8 + bkC f 1 8 + bkC f 2 8 else
  if what = 2 then sumI (fun b => unitsC f b (fk f b)) 8 else if what = 3 then fp f else if what = 4 then bI (fa f) else
  if what = 5 then fd f else if what = 6 then sumI (fr f) 8 else if what = 7 then atI (fw f) 0 else
  if what = 8 then atI (fw f) (sumI (fs f) 8 - 1) else if what = 9 then sumI (fun b => unitsC f b (bestC f b)) 8 else -2
theorem set_ok {f : FR} {g : Nat → Int32} {s : Nat} (h : Fl f g s) (what : Int32) : setF f what = setV g s what := by
  unfold setF setV
  have e0 : sumI (fs f) 8 = nI (cnt (fbit (fw f)) 0 2048) := sum_fs h.1.1 8 (Nat.le_refl _)
  by_cases c0 : what = 0
  · rw [if_pos c0, if_pos c0, e0, fl_cnt h (Nat.le_refl _)]
  rw [if_neg c0, if_neg c0]
  by_cases c1 : what = 1
  · rw [if_pos c1, if_pos c1, bk_boats h 8 (Nat.le_refl _)]
  rw [if_neg c1, if_neg c1]
  by_cases c2 : what = 2
  · rw [if_pos c2, if_pos (Or.inl c2), c2, sum_2 h]
  rw [if_neg c2]
  by_cases c3 : what = 3
  · subst c3
    rw [if_pos rfl, if_neg (by decide), if_pos rfl]
    exact h.1.2.2.2.1.1.symm
  rw [if_neg c3]
  by_cases c4 : what = 4
  · subst c4
    rw [if_pos rfl, if_neg (by decide), if_neg (by decide), if_pos rfl]
    exact h.1.2.2.2.1.2.2.symm
  rw [if_neg c4]
  by_cases c5 : what = 5
  · subst c5
    rw [if_pos rfl, if_neg (by decide), if_neg (by decide), if_neg (by decide), if_pos rfl]
    exact h.1.2.2.2.1.2.1.symm
  rw [if_neg c5]
  by_cases c6 : what = 6
  · subst c6
    rw [if_pos rfl, if_pos (by decide), sum_6 h]
  rw [if_neg c6]
  by_cases c7 : what = 7
  · subst c7
    rw [if_pos rfl, if_neg (by decide), if_neg (by decide), if_neg (by decide), if_neg (by decide), if_pos rfl]
    exact at_up h (n := 0) (by omega)
  rw [if_neg c7]
  by_cases c8 : what = 8
  · subst c8
    rw [if_pos rfl, if_neg (by decide), if_neg (by decide), if_neg (by decide), if_neg (by decide), if_neg (by decide), if_pos rfl, e0]
    exact at_dn h (Nat.le_refl _)
  rw [if_neg c8]
  by_cases c9 : what = 9
  · subst c9
    rw [if_pos rfl, if_pos (by decide), sum_9 h]
  rw [if_neg c9, if_neg (fun z => z.elim c2 (fun z => z.elim c6 c9)), if_neg c3, if_neg c4, if_neg c5, if_neg c7, if_neg c8]
/-- what boat(..) tells -/
def boatF (f : FR) (b : Nat) (what : Int32) : Int32 := if what = 0 then fk f b else if what = 1 then fs f b else if what = 2 then fr f b else
  if what = 3 then unitsC f b (fk f b) else if what = 4 then bestC f b else tbC f b
theorem boat_ok {f : FR} {g : Nat → Int32} {s b : Nat} (h : Fl f g s) (hb : b < 8) (hc : cm (fw f) b ≠ 0) (what : Int32) : boatF f b what = boatV g s b what := by
  obtain ⟨q1, q2, q3, q4⟩ := bq h.1 hb hc
  unfold boatF boatV tbC
  rw [q1, q2, q3, q4, many_of h.1.2.2.1 hb, runs_of h.1.2.2.1 hb, (h.1.1 b hb).1, (h.1.1 b hb).2]
theorem i_s1 (x y : Int32) : x - y + 1 = x + 1 - y := by rw [Int32.sub_eq_add_neg, Int32.sub_eq_add_neg, Int32.add_assoc, Int32.add_comm (-y), ← Int32.add_assoc]
theorem gap_ok (b : Nat → Bool) (b' : Nat → Bool) (e : ∀ n, n < 2048 → b n = b' n) {ln : Nat} (h1 : 1 ≤ ln) (h2 : ln ≤ 2048) : ∀ k n s, n + k = 2048 → s ≤ n → n - s < ln → gapF b (nI ln) k n s = gapN b' ln k n (n - s)
  | 0, _, _, _, _, _ => rfl
  | k + 1, n, s, hk, hs, hl => by
    unfold gapF gapN
    rw [← e n (by omega)]
    cases hb : b n with
    | true =>
      rw [if_pos rfl, if_pos rfl, if_neg (by omega)]
      have := gap_ok b b' e h1 h2 k (n + 1) (n + 1) (by omega) (Nat.le_refl _) (by omega)
      rw [Nat.sub_self] at this
      exact this
    | false =>
      have c0 : ∀ (α : Type) (x y : α), (if false = true then x else y) = y := fun _ _ _ => rfl
      rw [c0, c0]
      have e1 : nI n - nI s + 1 = nI (n - s + 1) := by rw [pk_sub hs]; exact nI_add _ 1
      rw [e1]
      by_cases c : n - s + 1 = ln
      · rw [if_pos ((nI_leI (by omega) (by omega)).mpr (by omega)), if_pos c, i_s1, show nI n + 1 = nI (n + 1) from nI_add _ 1, pk_sub (by omega)]
        congr 1; omega
      · rw [if_neg (fun z => by have := (nI_leI (by omega) (by omega)).mp z; omega), if_neg c]
        have := gap_ok b b' e h1 h2 k (n + 1) s (by omega) (by omega) (by omega)
        rw [show n + 1 - s = n - s + 1 by omega] at this
        exact this
theorem near_ok {f : FR} {g : Nat → Int32} {s : Nat} (h : Fl f g s) {n : Nat} (hn : n < 2048) : (if atI (fw f) (nI (cnt (fbit (fw f)) 0 n) - 1) = -5 then atI (fw f) (nI (cnt (fbit (fw f)) 0 n)) else if atI (fw f) (nI (cnt (fbit (fw f)) 0 n)) = -5 then atI (fw f) (nI (cnt (fbit (fw f)) 0 n) - 1) else if atI (fw f) (nI (cnt (fbit (fw f)) 0 n)) - nI n < nI n - atI (fw f) (nI (cnt (fbit (fw f)) 0 n) - 1) then atI (fw f) (nI (cnt (fbit (fw f)) 0 n)) else atI (fw f) (nI (cnt (fbit (fw f)) 0 n) - 1)) = nearV (nI n) (upF (mb g s) (2048 - n) n) (dnF (mb g s) (n + 1)) := by
  rw [at_up h (Nat.le_of_lt hn), at_dn h (Nat.le_of_lt hn)]
  have e1 : 2048 - n = (2048 - (n + 1)) + 1 := by omega
  rw [dnF, e1, upF]
  unfold nearV
  by_cases hb : mb g s n = true
  · rw [if_pos hb, if_pos hb]
    have z : ¬ (nI n = -5 ∨ (¬ nI n = -5 ∧ nI n - nI n < nI n - nI n)) := fun q => by
      rcases q with q | q
      · exact nI_m5 (by omega) q
      · exact Int32.lt_irrefl q.2
    rw [if_neg z]
    have h2 := dnF_sel (mb g s) (N := 2048) n (by omega)
    by_cases c : dnF (mb g s) n = -5
    · rw [if_pos c]
    · rw [if_neg c, if_neg (nI_m5 (by omega))]
      rcases h2 with q | ⟨q1, q2⟩
      · exact absurd q.2 c
      · rcases q2 with ⟨j, j1, j2, j3, j4⟩ | ⟨q2, q3⟩
        · have hj : j < n := by
            rcases Nat.lt_or_ge j n with z | z
            · exact z
            · have := cnt_mono (mb g s) 0 z
              omega
          rw [j4, pk_sub (Nat.le_refl _), pk_sub (Nat.le_of_lt hj), if_pos ((nI_ltI (by omega) (by omega)).mpr (by omega))]
        · exact absurd q3 c
  · rw [if_neg hb, if_neg hb]
    by_cases c : dnF (mb g s) n = -5
    · rw [if_pos c, if_pos (Or.inl c)]
    · rw [if_neg c]
      by_cases c2 : upF (mb g s) (2048 - (n + 1)) (n + 1) = -5
      · rw [if_pos c2, if_neg (fun z => z.elim c (fun z => z.1 c2))]
      · rw [if_neg c2]
        exact if_iff ⟨fun z => Or.inr ⟨c2, z⟩, fun z => z.elim (fun z => absurd z c) (fun z => z.2)⟩ _ _
