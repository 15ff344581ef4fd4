/-! Docking, and sets made of two others: both sides the same -/
theorem i_ar3 (t x y z : Int32) : t + x + (z - (y + x)) = t + (z - y) := by
  rw [Int32.sub_eq_add_neg, Int32.sub_eq_add_neg, Int32.neg_add, Int32.sub_eq_add_neg, Int32.add_assoc, Int32.add_comm z, ← Int32.add_assoc x, Int32.add_comm (-y), ← Int32.add_assoc x, Int32.add_right_neg, Int32.zero_add, Int32.add_comm z]
theorem i_xx (x : Int32) : x - x = 0 := Int32.sub_self x
/-- the best of the first bays to dock -/
theorem nd_bs {f : FR} {g : Nat → Int32} {s : Nat} (h : Fl f g s) (L : Int32) : ∀ n, n ≤ 8 → (ndN g L s n).1 = (bsN f L n).1 ∧ ((bsN f L n).1 = -5 → (bsN f L n).2 = -1) ∧ (¬ (bsN f L n).1 = -5 → (ndN g L s n).2 = (bsN f L n).2 ∧ ∃ b, b < n ∧ (bsN f L n).1 = nI b ∧ cm (fw f) b ≠ 0 ∧ ¬ bestC f b = fk f b ∧ bt L b = false)
  | 0, _ => ⟨rfl, fun _ => rfl, fun z => absurd rfl z⟩
  | n + 1, hn => by
    obtain ⟨i1, i2, i3⟩ := nd_bs h L n (by omega)
    have hb : n < 8 := by omega
    have i3' : ¬ (bsN f L n).1 = -5 → (ndN g L s n).2 = (bsN f L n).2 ∧ ∃ b, b < n + 1 ∧ (bsN f L n).1 = nI b ∧ cm (fw f) b ≠ 0 ∧ ¬ bestC f b = fk f b ∧ bt L b = false := fun z => by
      obtain ⟨j1, b, j2, j3⟩ := i3 z
      exact ⟨j1, b, by omega, j3⟩
    unfold ndN bsN
    by_cases hc : cm (fw f) n = 0
    · have k1 : kindN g s n = -1 := by
        unfold kindN
        rw [h.1.2.2.2.2 n hb, if_pos hc]
        decide
      have k2 : fk f n = bestC f n := by rw [(h.2 n hb).1 hc, bq_best h.1.1 hb, hc, bsT_0]
      rw [if_pos (Or.inl (by rw [k1]; decide)), if_neg (fun z => z.2.1 k2)]
      exact ⟨i1, i2, i3'⟩
    · obtain ⟨q1, q2, q3, q4⟩ := bq h.1 hb hc
      have hk : ¬ fk f n < 0 := by rcases h.1.2.1 n hb with z | z | z <;> rw [z] <;> decide
      cases hL : bt L n with
      | true =>
        rw [if_pos (Or.inr (Or.inl rfl)), if_neg (fun z => absurd z.1 (by decide))]
        exact ⟨i1, i2, i3'⟩
      | false =>
        by_cases e : bestC f n = fk f n
        · rw [if_pos (Or.inr (Or.inr (by rw [q4, if_pos e]; decide))), if_neg (fun z => z.2.1 e.symm)]
          exact ⟨i1, i2, i3'⟩
        · rw [if_neg e] at q4
          obtain ⟨w1, w2⟩ := h.1.1 n hb
          have ub : unitsC f n (bestC f n) = nI (unT (bsT (cm (fw f) n) (cr (fw f) n)) (cm (fw f) n) (cr (fw f) n)) := by
            rw [unC_T w1 w2 (by rw [bq_best h.1.1 hb]; exact bsT_q _ _), bq_best h.1.1 hb]
          have uk : unitsC f n (fk f n) = nI (unT (fk f n) (cm (fw f) n) (cr (fw f) n)) := unC_T w1 w2 (h.1.2.1 n hb)
          have l1 : unT (bsT (cm (fw f) n) (cr (fw f) n)) (cm (fw f) n) (cr (fw f) n) < 2 ^ 31 := unT_le (cm_le _ _) (cr_le _ _)
          have l2 : unT (fk f n) (cm (fw f) n) (cr (fw f) n) < 2 ^ 31 := unT_le (cm_le _ _) (cr_le _ _)
          have tp : ¬ tollN g s n ≤ 0 := by
            rw [q4, ub]
            intro z
            have := (nI_leI (b := 0) l1 (by decide)).mp z
            have := bsT_pos hc (cm_cr hc)
            omega
          have sv : (-1 : Int32) < unitsC f n (fk f n) - unitsC f n (bestC f n) := by
            rw [ub, uk, pk_sub (bsT_le (h.1.2.1 n hb) (h.2 n hb).2)]
            exact Int32.lt_of_lt_of_le (show (-1 : Int32) < 0 by decide) (nI_pos' (by omega))
          rw [if_neg (fun z => by
            rcases z with z | z | z
            · rw [q2] at z; exact hk z
            · exact absurd z (by decide)
            · exact tp z), q3, q4, i1]
          have fin : ∃ b, b < n + 1 ∧ nI n = nI b ∧ cm (fw f) b ≠ 0 ∧ ¬ bestC f b = fk f b ∧ bt L b = false := ⟨n, by omega, rfl, hc, e, hL⟩
          by_cases e5 : (bsN f L n).1 = -5
          · rw [if_pos (Or.inl e5), if_pos ⟨rfl, fun z => e z.symm, by rw [i2 e5]; exact sv⟩]
            exact ⟨rfl, fun z => absurd z (nI_m5 (by omega)), fun _ => ⟨rfl, fin⟩⟩
          · obtain ⟨j1, j2⟩ := i3 e5
            rw [j1]
            by_cases e6 : (bsN f L n).2 < unitsC f n (fk f n) - unitsC f n (bestC f n)
            · rw [if_pos (Or.inr e6), if_pos ⟨rfl, fun z => e z.symm, e6⟩]
              exact ⟨rfl, fun z => absurd z (nI_m5 (by omega)), fun _ => ⟨rfl, fin⟩⟩
            · rw [if_neg (fun z => z.elim e5 e6), if_neg (fun z => e6 z.2.2)]
              exact ⟨i1, i2, i3'⟩
theorem eh_none {f : FR} {L : Int32} (h : (bsN f L 8).1 = -5) : ∀ k tl, ehF k f tl L = (f, tl)
  | 0, _ => rfl
  | k + 1, tl => by
    unfold ehF
    rw [if_pos h]
    exact eh_none h k tl
theorem un_0 {L : Int32} (h : un L ≤ 0) {b : Nat} (hb : b < 8) : bt L b = true := by
  have := cnt_zz (b := fun j => !bt L j) (a := 0) 8 (by unfold un at h; omega) b hb
  rw [Nat.zero_add] at this
  revert this
  cases bt L b <;> simp
/-- one boat docks -/
theorem bb1_ok {f : FR} {g : Nat → Int32} {s b : Nat} (h : Fl f g s) (hb : b < 8) (hc : cm (fw f) b ≠ 0) (hne : ¬ bestC f b = fk f b) : Fl (bbF f b).1 (dkN1 g s b) s ∧ Oth g (dkN1 g s b) s ∧ fd (bbF f b).1 = fd f + (bbF f b).2 := by
  obtain ⟨q1, q2, -, q4⟩ := bq h.1 hb hc
  rw [if_neg hne] at q4
  unfold dkN1
  rw [q4, h.1.2.2.2.1.1, bb_eq]
  by_cases e : fp f < unitsC f b (bestC f b)
  · rw [if_pos (Or.inr e), if_neg (Int32.not_le.mpr e)]
    exact ⟨h, Oth.rf, (Int32.add_zero _).symm⟩
  · rw [if_neg (fun z => z.elim hne e), if_pos (Int32.not_lt.mp e)]
    obtain ⟨g1, g2⟩ := bc_ok h.1 hb hc hne
    refine ⟨⟨g1, fun b' hb' => ?_⟩, g2, rfl⟩
    show (cm (fw f) b' = 0 → upd (fk f) b (bestC f b) b' = 0) ∧ (upd (fk f) b (bestC f b) b' = 2 → cr (fw f) b' ≤ 8)
    unfold upd
    by_cases q : b' = b
    · subst q
      rw [if_pos rfl]
      exact ⟨fun z => absurd z hc, fun z => bsT_2 (by rw [bq_best h.1.1 hb] at z; exact z)⟩
    · rw [if_neg q]
      exact h.2 b' hb'
theorem dk_ok {s : Nat} : ∀ (k : Nat) (f : FR) (g : Nat → Int32) (L tl : Int32), Fl f g s → un L ≤ k → Fl (ehF k f tl L).1 (dkN s (k + 1) g L).1 s ∧ Oth g (dkN s (k + 1) g L).1 s ∧ (ehF k f tl L).2 = tl + (fd (ehF k f tl L).1 - fd f)
  | 0, f, g, L, tl, h, hu => by
    obtain ⟨n1, -, n3⟩ := nd_bs h L 8 (Nat.le_refl _)
    have e5 : (bsN f L 8).1 = -5 := by
      rcases Decidable.em ((bsN f L 8).1 = -5) with z | z
      · exact z
      · obtain ⟨-, b, b1, -, -, -, b5⟩ := n3 z
        rw [un_0 hu b1] at b5
        exact absurd b5 (by decide)
    rw [dkN, if_pos (n1.trans e5)]
    refine ⟨h, Oth.rf, ?_⟩
    show tl = tl + (fd f - fd f)
    rw [i_xx, Int32.add_zero]
  | k + 1, f, g, L, tl, h, hu => by
    obtain ⟨n1, -, n3⟩ := nd_bs h L 8 (Nat.le_refl _)
    rw [dkN]
    by_cases e5 : (bsN f L 8).1 = -5
    · rw [if_pos (n1.trans e5), eh_none e5]
      refine ⟨h, Oth.rf, ?_⟩
      show tl = tl + (fd f - fd f)
      rw [i_xx, Int32.add_zero]
    · rw [if_neg (fun z => e5 (n1.symm.trans z)), ehF, if_neg e5]
      obtain ⟨-, b, b1, b2, b3, b4, b5⟩ := n3 e5
      rw [n1, b2]
      rw [show (nI b).toNatClampNeg = b from ix_nI (by omega), show ix (nI b) = b from ix_nI (by omega)]
      obtain ⟨g1, g2, g3⟩ := bb1_ok h b1 b3 b4
      have hu2 := un_lt b1 b5
      obtain ⟨r1, r2, r3⟩ := dk_ok k _ _ (L ||| (1 : Int32) <<< (nI b &&& 31)) (tl + (bbF f b).2) g1 (by omega)
      refine ⟨r1, g2.tr r2, ?_⟩
      rw [r3, g3, i_ar3]
/-- all boats of a set dock -/
theorem dock_ok {f : FR} {g : Nat → Int32} {s : Nat} (h : Fl f g s) : Fl (ehF 8 (faS f false) 0 0).1 (dockR g s).1 s ∧ Oth g (dockR g s).1 s ∧ (ehF 8 (faS f false) 0 0).2 = ofN (dockR g s).1 s 2 - ofN g s 2 := by
  obtain ⟨⟨h1, h2, h3, h4, h5⟩, h6⟩ := h
  have h0 : Fl (faS f false) (layN g s 1 0) s := by
    refine ⟨⟨h1, h2, fun n hn => ?_, ⟨?_, ?_, ?_⟩, fun b hb => ?_⟩, h6⟩
    · rw [mb_lay (by omega) hn]; exact h3 n hn
    · rw [of_lay2 (by omega) (by omega) (by omega)]; exact h4.1
    · rw [of_lay2 (by omega) (by omega) (by omega)]; exact h4.2.1
    · rw [of_lay1]; rfl
    · show ofN _ s (3 + b) = _
      rw [of_lay2 (by omega) (by omega) (by omega)]; exact h5 b hb
  obtain ⟨r1, r2, r3⟩ := dk_ok 8 _ _ 0 0 h0 (by decide)
  refine ⟨r1, Oth.tr (Oth.lay (by omega)) r2, ?_⟩
  rw [r3, Int32.zero_add]
  have e1 : ofN (dockR g s).1 s 2 = fd (ehF 8 (faS f false) 0 0).1 := r1.1.2.2.2.1.2.1
  rw [e1, h4.2.1]
-- sets made of two others
/-- the first N numbers of gv have come -/
def Fp (gv : Nat → Bool) (N : Nat) (g : FR) : Prop := Ws g ∧ ∀ j, j < 2048 → fbit (fw g) j = (gv j && decide (j < N))
theorem fp_step {gv : Nat → Bool} {N : Nat} {g : FR} (h : Fp gv N g) (hN : N < 2048) : Fp gv (N + 1) (if gv N = true then flipF g N else g) := by
  have hz : fbit (fw g) N = false := by rw [h.2 N hN, decide_eq_false (Nat.lt_irrefl _), Bool.and_false]
  cases hv : gv N with
  | true =>
    rw [if_pos rfl]
    refine ⟨ws_flip h.1 hN, fun j hj => ?_⟩
    show fbit (flW (fw g) N) j = _
    rw [fb_fl]
    by_cases e : j = N
    · subst e
      rw [if_pos rfl, hz, hv, decide_eq_true (by omega)]; rfl
    · rw [if_neg e, h.2 j hj]
      congr 1
      exact decide_eq_decide.mpr (by omega)
  | false =>
    rw [if_neg (by decide)]
    refine ⟨h.1, fun j hj => ?_⟩
    rw [h.2 j hj]
    by_cases e : j = N
    · subst e
      rw [hv, Bool.false_and, Bool.false_and]
    · congr 1
      exact decide_eq_decide.mpr (by omega)
/-- the other fields stay -/
def Sm (g g' : FR) : Prop := fk g' = fk g ∧ fp g' = fp g ∧ fd g' = fd g ∧ fa g' = fa g
theorem sm_if {g : FR} {q : Prop} [Decidable q] {n : Nat} : Sm g (if q then flipF g n else g) := by
  by_cases h : q
  · rw [if_pos h]; exact ⟨rfl, rfl, rfl, rfl⟩
  · rw [if_neg h]; exact ⟨rfl, rfl, rfl, rfl⟩
theorem Sm.tr {g g' g'' : FR} (h : Sm g g') (h' : Sm g' g'') : Sm g g'' := ⟨h'.1.trans h.1, h'.2.1.trans h.2.1, h'.2.2.1.trans h.2.2.1, h'.2.2.2.trans h.2.2.2⟩
theorem fbI_ok {gv : Nat → Bool} {x : Int64} {b : Nat} (hb : b < 32) (hx : ∀ k, k < 64 → bl x k = gv (64 * b + k)) : ∀ (m k : Nat) (g : FR), k + m = 64 → Fp gv (64 * b + k) g → Fp gv (64 * (b + 1)) (fbI x b m k g) ∧ Sm g (fbI x b m k g)
  | 0, k, g, hk, h => by
    have : k = 64 := by omega
    subst this
    exact ⟨h, rfl, rfl, rfl, rfl⟩
  | m + 1, k, g, hk, h => by
    rw [fbI, hx k (by omega), show b * 64 + k = 64 * b + k by omega]
    have h2 := fp_step h (show 64 * b + k < 2048 by omega)
    obtain ⟨r1, r2⟩ := fbI_ok hb hx m (k + 1) _ (by omega) h2
    exact ⟨r1, sm_if.tr r2⟩
theorem fwO_ok {gv : Nat → Bool} {how : Int32} {o p : FR} (hx : ∀ b k, b < 32 → k < 64 → bl (joC how (fw o b) (fw p b)) k = gv (64 * b + k)) : ∀ (m b : Nat) (g : FR), b + m = 32 → Fp gv (64 * b) g → Fp gv 2048 (fwO how o p m b g) ∧ Sm g (fwO how o p m b g)
  | 0, b, g, hb, h => by
    have : b = 32 := by omega
    subst this
    exact ⟨h, rfl, rfl, rfl, rfl⟩
  | m + 1, b, g, hb, h => by
    rw [fwO]
    obtain ⟨r1, r2⟩ := fbI_ok (gv := gv) (show b < 32 by omega) (fun k hk => hx b k (by omega) hk) 64 0 g rfl h
    obtain ⟨t1, t2⟩ := fwO_ok hx m (b + 1) _ (by omega) r1
    exact ⟨t1, r2.tr t2⟩
theorem kbF_ok : ∀ (m b : Nat) (g : FR), fw (kbF m b g) = fw g ∧ fs (kbF m b g) = fs g ∧ fr (kbF m b g) = fr g ∧ fp (kbF m b g) = fp g ∧ fd (kbF m b g) = fd g ∧ fa (kbF m b g) = fa g ∧ ∀ j, fk (kbF m b g) j = if b ≤ j ∧ j < b + m then bestC g j else fk g j
  | 0, b, g => ⟨rfl, rfl, rfl, rfl, rfl, rfl, fun j => by rw [if_neg (by omega)]; rfl⟩
  | m + 1, b, g => by
    rw [kbF]
    obtain ⟨h1, h2, h3, h4, h5, h6, h7⟩ := kbF_ok m (b + 1) (fkS g (upd (fk g) b (bestC g b)))
    refine ⟨h1, h2, h3, h4, h5, h6, fun j => ?_⟩
    rw [h7 j]
    by_cases e : j = b
    · subst e
      rw [if_neg (by omega), if_pos (by omega)]
      exact if_pos rfl
    · by_cases e2 : b + 1 ≤ j ∧ j < b + 1 + m
      · rw [if_pos e2, if_pos (by omega)]; rfl
      · rw [if_neg e2, if_neg (by omega)]
        exact if_neg e
theorem fill_ok (f : FR) (gv : Nat → Bool) : Fp gv 0 (fillF f) := by
  have hz : ∀ j, j < 2048 → fbit (fw (fillF f)) j = false := by
    intro j hj
    show bl (filK 0 (fw f) 32 (j / 64)) (j % 64) = false
    unfold filK
    rw [if_pos (by omega)]
    exact l_0 _
  refine ⟨fun b hb => ⟨?_, ?_⟩, fun j hj => by rw [hz j hj, decide_eq_false (Nat.not_lt_zero _), Bool.and_false]⟩
  · show filK 0 (fs f) 8 b = _
    unfold filK cm
    rw [if_pos hb, cnt_z 256 (fun j hj => hz _ (by omega))]; rfl
  · show filK 0 (fr f) 8 b = _
    unfold filK cr
    rw [if_pos hb, cnt_z 256 (fun j hj => by unfold runB; rw [hz _ (by omega), Bool.false_and])]; rfl
theorem flF_ok {how : Int32} {o p f : FR} {gv : Nat → Bool} (hx : ∀ b k, b < 32 → k < 64 → bl (joC how (fw o b) (fw p b)) k = gv (64 * b + k)) :
    Ws (flF how o p f) ∧ (∀ j, j < 2048 → fbit (fw (flF how o p f)) j = gv j) ∧ (∀ b, b < 8 → fk (flF how o p f) b = bsT (cm (fw (flF how o p f)) b) (cr (fw (flF how o p f)) b)) ∧ fp (flF how o p f) = fp f ∧ fd (flF how o p f) = fd f ∧ fa (flF how o p f) = fa f := by
  obtain ⟨⟨r1, r2⟩, r3⟩ := fwO_ok hx 32 0 (fillF f) rfl (fill_ok f gv)
  obtain ⟨h1, h2, h3, h4, h5, h6, h7⟩ := kbF_ok 8 0 (fwO how o p 32 0 (fillF f))
  have w : Ws (flF how o p f) := fun b hb => by
    show fs (kbF 8 0 (fwO how o p 32 0 (fillF f))) b = nI (cm (fw (kbF 8 0 (fwO how o p 32 0 (fillF f)))) b) ∧ fr (kbF 8 0 (fwO how o p 32 0 (fillF f))) b = nI (cr (fw (kbF 8 0 (fwO how o p 32 0 (fillF f)))) b)
    rw [h1, h2, h3]
    exact r1 b hb
  refine ⟨w, fun j hj => ?_, fun b hb => ?_, h4.trans r3.2.1, h5.trans r3.2.2.1, h6.trans r3.2.2.2⟩
  · show fbit (fw (kbF 8 0 (fwO how o p 32 0 (fillF f)))) j = gv j
    rw [h1, r2 j hj, decide_eq_true hj, Bool.and_true]
  · show fk (kbF 8 0 (fwO how o p 32 0 (fillF f))) b = bsT (cm (fw (kbF 8 0 (fwO how o p 32 0 (fillF f)))) b) (cr (fw (kbF 8 0 (fwO how o p 32 0 (fillF f)))) b)
    rw [h7 b, if_pos (by omega), h1]
    exact bq_best r1 hb
theorem gvN_bt (b : Nat → Bool) (g : Nat → Int32) : ∀ N, N ≤ 2048 → ∀ k i, k < 64 → i < 32 → bt (gvN b g N k) i = (b (32 * k + i) && decide (32 * k + i < N))
  | 0, _, k, i, hk, hi => by
    show bt (zeroN g 64 k) i = _
    unfold zeroN
    rw [if_pos hk, b_0, decide_eq_false (Nat.not_lt_zero _), Bool.and_false]
  | N + 1, hN, k, i, hk, hi => by
    have ih := gvN_bt b g N (by omega)
    rw [gvN]
    by_cases hb : b N = true
    · rw [if_pos hb]
      unfold upd
      by_cases e : k = N / 32
      · rw [if_pos e, b_or, ih _ i (by omega) hi, ← e]
        have hb1 : bt (bitI N) i = decide (i = N % 32) := bt_one _ (Nat.mod_lt _ (by decide)) hi
        rw [hb1]
        by_cases e2 : i = N % 32
        · have e3 : 32 * k + i = N := by omega
          rw [decide_eq_true e2, Bool.or_true, e3, hb, decide_eq_true (Nat.lt_succ_self _)]; rfl
        · rw [decide_eq_false e2, Bool.or_false]
          congr 1
          exact decide_eq_decide.mpr (by omega)
      · rw [if_neg e, ih k i hk hi]
        congr 1
        exact decide_eq_decide.mpr (by omega)
    · rw [if_neg hb, ih k i hk hi]
      by_cases e : 32 * k + i = N
      · rw [e]
        have : b N = false := by revert hb; cases b N <;> simp
        rw [this, Bool.false_and, Bool.false_and]
      · congr 1
        exact decide_eq_decide.mpr (by omega)
theorem layG_of (now g : Nat → Int32) (s : Nat) : ∀ k, k ≤ 64 → Oth now (layG now g s k) s ∧ ∀ w, w < 75 → ofN (layG now g s k) s w = if 11 ≤ w ∧ w < 11 + k then g (w - 11) else ofN now s w
  | 0, _ => ⟨Oth.rf, fun w hw => by rw [if_neg (by omega)]; rfl⟩
  | k + 1, hk => by
    obtain ⟨h1, h2⟩ := layG_of now g s k (by omega)
    refine ⟨h1.tr (Oth.lay (by omega)), fun w hw => ?_⟩
    show ofN (layN (layG now g s k) s (11 + k) (g k)) s w = _
    by_cases e : w = 11 + k
    · subst e
      rw [of_lay1, if_pos (by omega)]
      congr 1; omega
    · rw [of_lay2 (by omega) hw (fun z => e z.2), h2 w hw]
      by_cases e2 : 11 ≤ w ∧ w < 11 + k
      · rw [if_pos e2, if_pos (by omega)]
      · rw [if_neg e2, if_neg (by omega)]
theorem layK_of (now : Nat → Int32) (s : Nat) : ∀ k, k ≤ 8 → Oth now (layK now s k) s ∧ ∀ w, w < 75 → ofN (layK now s k) s w = if 3 ≤ w ∧ w < 3 + k then (if manyN now s (w - 3) = 0 then 0 else bestN now s (w - 3) + 1) else ofN now s w
  | 0, _ => ⟨Oth.rf, fun w hw => by rw [if_neg (by omega)]; rfl⟩
  | k + 1, hk => by
    obtain ⟨h1, h2⟩ := layK_of now s k (by omega)
    have hm : ∀ n, n < 2048 → mb (layK now s k) s n = mb now s n := fun n hn => by
      unfold mb
      rw [h2 _ (by omega), if_neg (by omega)]
    have m1 : manyN (layK now s k) s k = manyN now s k := cnt_cong 256 (fun j hj => hm _ (by omega))
    have m2 : runsN (layK now s k) s k = runsN now s k := cnt_cong 256 (fun j hj => by
      unfold runB
      rw [hm _ (by omega), hm (256 * k + j - 1) (by omega)])
    refine ⟨h1.tr (Oth.lay (by omega)), fun w hw => ?_⟩
    show ofN (layN (layK now s k) s (3 + k) (if manyN (layK now s k) s k = 0 then 0 else bestN (layK now s k) s k + 1)) s w = _
    unfold bestN
    rw [m1, m2]
    by_cases e : w = 3 + k
    · subst e
      rw [of_lay1, if_pos (show 3 ≤ 3 + k ∧ 3 + k < 3 + (k + 1) by omega), show 3 + k - 3 = k by omega]
    · rw [of_lay2 (by omega) hw (fun z => e z.2), h2 w hw]
      by_cases e2 : 3 ≤ w ∧ w < 3 + k
      · rw [if_pos e2, if_pos (show 3 ≤ w ∧ w < 3 + (k + 1) by omega)]; rfl
      · rw [if_neg e2, if_neg (by omega)]
theorem jo_bt {how : Int32} (hh : inB how 0 3 = true) (x y : Int64) {i : Nat} (hi : i < 64) : bl (joC how x y) i = givesB how (bl x i) (bl y i) := by
  have h3 := of_decide_eq_true hh
  obtain ⟨j, hj, rfl⟩ := nI_of (Int32.not_lt.mpr h3.1)
  have hj3 := (nI_leI (b := 3) hj (by decide)).mp h3.2
  have hn : ∀ a b, a < 4 → b < 4 → ((nI a = nI b) ↔ (a = b)) := fun a b ha hb => nI_eq (by omega) (by omega)
  rcases (show j = 0 ∨ j = 1 ∨ j = 2 ∨ j = 3 by omega) with rfl | rfl | rfl | rfl
  · show bl (x ||| y) i = (bl x i || bl y i)
    exact l_or x y i
  · show bl (x &&& y) i = (bl x i && bl y i)
    exact l_and x y i
  · show bl (x &&& (y ^^^ (-1))) i = (bl x i && !bl y i)
    rw [l_and, l_xor, l_m1 i hi, Bool.xor_true]
  · show bl (x ^^^ y) i = (bl x i != bl y i)
    rw [l_xor]
