/-! What is told of sets that tell the same; the mark -/
theorem hF_0 (X : XS) : hF X 0 = X.1 := by
  funext j
  show X.1 (6 * 0 + j) = X.1 j
  rw [Nat.mul_zero, Nat.zero_add]
theorem fe_cnt {f g : FR} (e : Feq f g) {n : Nat} (hn : n ≤ 2048) : cnt (fbit (fw g)) 0 n = cnt (fbit (fw f)) 0 n := cnt_cong n (fun j hj => fe_bit e (by omega))
theorem fe_rk {f g : FR} (e : Feq f g) {n : Nat} (hn : n ≤ 2048) : rkC (fw g) n = rkC (fw f) n := by rw [rk_cnt, rk_cnt, fe_cnt e hn]
theorem at_neg {w : Nat → Int64} {p : Int32} (h : p < 0) : atI w p = -5 := if_pos h
theorem fe_at {f g : FR} (e : Feq f g) (p : Int32) : atI (fw g) p = atI (fw f) p := by
  by_cases h : p < 0
  · rw [at_neg h, at_neg h]
  · obtain ⟨j, hj, rfl⟩ := nI_of h
    exact (atI_sel (fw g) hj).one ((atI_sel (fw f) hj).cong (fun i hi => (fe_bit e hi).symm))
theorem fe_bk {f g : FR} (e : Feq f g) (k : Int32) : ∀ n, n ≤ 8 → bkC g k n = bkC f k n
  | 0, _ => rfl
  | n + 1, hn => by rw [bkC_s, bkC_s, fe_bk e k n (by omega), (e.2.1 n (by omega)).1, (e.2.1 n (by omega)).2.1]
theorem fe_set {f g : FR} (e : Feq f g) (what : Int32) : setF g what = setF f what := by
  have a2 : sumI (fun b => unitsC g b (fk g b)) 8 = sumI (fun b => unitsC f b (fk f b)) 8 := sum_cong 8 (fun j hj => by
    show unitsC g j (fk g j) = unitsC f j (fk f j)
    rw [fe_un e hj, (e.2.1 j hj).1])
  have a6 : sumI (fr g) 8 = sumI (fr f) 8 := sum_cong 8 (fun j hj => (e.2.1 j hj).2.2)
  have a9 : sumI (fun b => unitsC g b (bestC g b)) 8 = sumI (fun b => unitsC f b (bestC f b)) 8 := sum_cong 8 (fun j hj => by
    show unitsC g j (bestC g j) = unitsC f j (bestC f j)
    rw [fe_un e hj, fe_be e hj])
  unfold setF
  rw [sum_feq e, fe_bk e 0 8 (Nat.le_refl _), fe_bk e 1 8 (Nat.le_refl _), fe_bk e 2 8 (Nat.le_refl _), a2, a6, a9, e.2.2.1, e.2.2.2.1, e.2.2.2.2, fe_at e, fe_at e]
theorem fe_boat {f g : FR} (e : Feq f g) {b : Nat} (hb : b < 8) (what : Int32) : boatF g b what = boatF f b what := by
  unfold boatF tbC
  rw [fe_be e hb, fe_un e hb, fe_un e hb, (e.2.1 b hb).1, (e.2.1 b hb).2.1, (e.2.1 b hb).2.2]
theorem isC_nI {k m : Nat} (hk : k < m) (hm : m ≤ 6) : isC m (nI k) = true := decide_eq_true ⟨nI_pos' (by omega), (nI_ltI (by omega) (by omega)).mpr hk⟩
theorem isC_N {k m : Nat} (hk : m ≤ k) (hk2 : k < 2 ^ 31) : isC m (nI k) = false := isC_F2 ((nI_leI (by omega) hk2).mpr hk)
theorem isC_m (m : Nat) : isC m (nI m) = false := isC_F2 (Int32.le_refl _)
theorem ne_TF {b : Bool} (h : b = true) : ¬ b = false := fun e => absurd (h.symm.trans e) (by decide)
theorem set_T {X : XS} {m k : Nat} (hk : k < m) (hm : m ≤ 6) (w : Int32) : setC X m (nI k) w = setF (X.1 k) w := by
  unfold setC
  rw [if_neg (ne_TF (isC_nI hk hm)), ix_nI (by omega)]
  rfl
theorem boat_E {X : XS} {m k b : Nat} (hk : k < m) (hm : m ≤ 6) (hb : b < 8) {w : Int32} (h1 : ¬ w < 0) (h2 : ¬ 5 < w) : boatC X m (nI k) (nI b) w = if fs (X.1 k) b = 0 then -5 else boatF (X.1 k) b w := by
  unfold boatC
  rw [if_neg (ne_TF (isC_nI hk hm)), if_neg (fun z => by
    rcases z with z | z | z | z
    · exact nI_pos (by omega) z
    · have := (nI_leI (a := 8) (by decide) (by omega)).mp z
      omega
    · exact h1 z
    · exact h2 z), ix_nI (show k < 2 ^ 31 by omega), ix_nI (show b < 2 ^ 31 by omega)]
  rfl
theorem rank_T {X : XS} {m k n : Nat} (hk : k < m) (hm : m ≤ 6) (hn : n < 2048) : rankC X m (nI k) (nI n) = nI (cnt (fbit (fw (X.1 k))) 0 n) := by
  unfold rankC
  rw [if_neg (ne_TF (isC_nI hk hm)), if_neg (ne_TF (isN_nI hn)), ix_nI (by omega), ix_nI (by omega), rk_cnt]
theorem next_T {X : XS} {m k n : Nat} (hk : k < m) (hm : m ≤ 6) (hn : n < 2048) : nextC X m (nI k) (nI n) = atI (fw (X.1 k)) (nI (cnt (fbit (fw (X.1 k))) 0 n)) := by
  unfold nextC
  rw [if_neg (ne_TF (isC_nI hk hm)), if_neg (ne_TF (isN_nI hn)), ix_nI (by omega), ix_nI (by omega), rk_cnt]
theorem has_T {X : XS} {m k n : Nat} (hk : k < m) (hm : m ≤ 6) (hn : n < 2048) : hasC X m (nI k) (nI n) = bI (fbit (fw (X.1 k)) n) := by
  unfold hasC
  rw [if_neg (ne_TF (isC_nI hk hm)), if_neg (ne_TF (isN_nI hn)), ix_nI (by omega), ix_nI (by omega)]
theorem place_T {X : XS} {m k : Nat} (hk : k < m) (hm : m ≤ 6) {p : Int32} (hp : ¬ p < 0) : placeC X m (nI k) p = atI (fw (X.1 k)) p := by
  unfold placeC
  rw [if_neg (ne_TF (isC_nI hk hm)), if_neg hp, ix_nI (by omega)]
/-- the sets that are now tell the same -/
def Vw (X X' : XS) (m : Nat) : Prop := ∀ s, s < m → Feq (X.1 s) (X'.1 s)
theorem or_cong {F G : Nat → FR} {w : Nat} (hw : w < 32) : ∀ m, (∀ s, s < m → Feq (F s) (G s)) → orC G w m = orC F w m
  | 0, _ => rfl
  | m + 1, h => by
    show orC G w m ||| fw (G m) w = orC F w m ||| fw (F m) w
    rw [or_cong hw m (fun s hs => h s (by omega)), (h m (by omega)).1 w hw]
theorem smN_cong {f g : Nat → Nat} : ∀ n, (∀ j, j < n → f j = g j) → smN f n = smN g n
  | 0, _ => rfl
  | n + 1, h => by
    show smN f n + f n = smN g n + g n
    rw [smN_cong n (fun j hj => h j (by omega)), h n (by omega)]
theorem ct_0 (X : XS) (m t L : Nat) : cntC X m t L 0 = nI m := by
  unfold cntC
  rw [if_pos rfl]
theorem ct_1 (X : XS) (m t L : Nat) : cntC X m t L 1 = sumI (fun j => bI (fa (hF X 0 j))) m := by
  unfold cntC
  rw [if_neg (show ¬ (1 : Int32) = 0 by decide), if_pos rfl]
theorem ct_2 (X : XS) (m t L : Nat) : cntC X m t L 2 = sumI (fun j => bkC (hF X 0 j) 0 8) m := by
  unfold cntC
  rw [if_neg (show ¬ (2 : Int32) = 0 by decide), if_neg (show ¬ (2 : Int32) = 1 by decide), if_pos rfl]
theorem ct_3 (X : XS) (m t L : Nat) : cntC X m t L 3 = sumI (fun j => bkC (hF X 0 j) 1 8) m := by
  unfold cntC
  rw [if_neg (show ¬ (3 : Int32) = 0 by decide), if_neg (show ¬ (3 : Int32) = 1 by decide), if_neg (show ¬ (3 : Int32) = 2 by decide), if_pos rfl]
theorem ct_4 (X : XS) (m t L : Nat) : cntC X m t L 4 = sumI (fun j => bkC (hF X 0 j) 2 8) m := by
  unfold cntC
  rw [if_neg (show ¬ (4 : Int32) = 0 by decide), if_neg (show ¬ (4 : Int32) = 1 by decide), if_neg (show ¬ (4 : Int32) = 2 by decide), if_neg (show ¬ (4 : Int32) = 3 by decide), if_pos rfl]
theorem ct_5 (X : XS) (m t L : Nat) : cntC X m t L 5 = sumI (fun j => sumI (fun b => unitsC (hF X 0 j) b (fk (hF X 0 j) b)) 8) m := by
  unfold cntC
  rw [if_neg (show ¬ (5 : Int32) = 0 by decide), if_neg (show ¬ (5 : Int32) = 1 by decide), if_neg (show ¬ (5 : Int32) = 2 by decide), if_neg (show ¬ (5 : Int32) = 3 by decide), if_neg (show ¬ (5 : Int32) = 4 by decide), if_pos rfl]
theorem ct_6 (X : XS) (m t L : Nat) : cntC X m t L 6 = sumI (fun j => sumI (fs (hF X 0 j)) 8) m := by
  unfold cntC
  rw [if_neg (show ¬ (6 : Int32) = 0 by decide), if_neg (show ¬ (6 : Int32) = 1 by decide), if_neg (show ¬ (6 : Int32) = 2 by decide), if_neg (show ¬ (6 : Int32) = 3 by decide), if_neg (show ¬ (6 : Int32) = 4 by decide), if_neg (show ¬ (6 : Int32) = 5 by decide), if_pos rfl]
theorem ct_7 (X : XS) (m t L : Nat) : cntC X m t L 7 = nI (smN (fun v => pcN (orC (hF X 0) v m)) 32) := by
  unfold cntC
  rw [if_neg (show ¬ (7 : Int32) = 0 by decide), if_neg (show ¬ (7 : Int32) = 1 by decide), if_neg (show ¬ (7 : Int32) = 2 by decide), if_neg (show ¬ (7 : Int32) = 3 by decide), if_neg (show ¬ (7 : Int32) = 4 by decide), if_neg (show ¬ (7 : Int32) = 5 by decide), if_neg (show ¬ (7 : Int32) = 6 by decide), if_pos rfl]
theorem ct_8 (X : XS) (m t L : Nat) : cntC X m t L 8 = sumI (fun j => fd (hF X 0 j)) m := by
  unfold cntC
  rw [if_neg (show ¬ (8 : Int32) = 0 by decide), if_neg (show ¬ (8 : Int32) = 1 by decide), if_neg (show ¬ (8 : Int32) = 2 by decide), if_neg (show ¬ (8 : Int32) = 3 by decide), if_neg (show ¬ (8 : Int32) = 4 by decide), if_neg (show ¬ (8 : Int32) = 5 by decide), if_neg (show ¬ (8 : Int32) = 6 by decide), if_neg (show ¬ (8 : Int32) = 7 by decide), if_pos rfl]
theorem ct_9 (X : XS) (m t L : Nat) : cntC X m t L 9 = nI t := by
  unfold cntC
  rw [if_neg (show ¬ (9 : Int32) = 0 by decide), if_neg (show ¬ (9 : Int32) = 1 by decide), if_neg (show ¬ (9 : Int32) = 2 by decide), if_neg (show ¬ (9 : Int32) = 3 by decide), if_neg (show ¬ (9 : Int32) = 4 by decide), if_neg (show ¬ (9 : Int32) = 5 by decide), if_neg (show ¬ (9 : Int32) = 6 by decide), if_neg (show ¬ (9 : Int32) = 7 by decide), if_neg (show ¬ (9 : Int32) = 8 by decide), if_pos rfl]
theorem ct_10 (X : XS) (m t L : Nat) : cntC X m t L 10 = nI L := by
  unfold cntC
  rw [if_neg (show ¬ (10 : Int32) = 0 by decide), if_neg (show ¬ (10 : Int32) = 1 by decide), if_neg (show ¬ (10 : Int32) = 2 by decide), if_neg (show ¬ (10 : Int32) = 3 by decide), if_neg (show ¬ (10 : Int32) = 4 by decide), if_neg (show ¬ (10 : Int32) = 5 by decide), if_neg (show ¬ (10 : Int32) = 6 by decide), if_neg (show ¬ (10 : Int32) = 7 by decide), if_neg (show ¬ (10 : Int32) = 8 by decide), if_neg (show ¬ (10 : Int32) = 9 by decide), if_pos rfl]
theorem se_0 (f : FR) : setF f 0 = sumI (fs f) 8 := by
  unfold setF
  rw [if_pos rfl]
theorem se_1 (f : FR) : setF f 1 = bkC f 0 8 + bkC f 1 8 + bkC f 2 8 := by
  unfold setF
  rw [if_neg (show ¬ (1 : Int32) = 0 by decide), if_pos rfl]
theorem se_2 (f : FR) : setF f 2 = sumI (fun b => unitsC f b (fk f b)) 8 := by
  unfold setF
  rw [if_neg (show ¬ (2 : Int32) = 0 by decide), if_neg (show ¬ (2 : Int32) = 1 by decide), if_pos rfl]
theorem se_3 (f : FR) : setF f 3 = fp f := by
  unfold setF
  rw [if_neg (show ¬ (3 : Int32) = 0 by decide), if_neg (show ¬ (3 : Int32) = 1 by decide), if_neg (show ¬ (3 : Int32) = 2 by decide), if_pos rfl]
theorem se_4 (f : FR) : setF f 4 = bI (fa f) := by
  unfold setF
  rw [if_neg (show ¬ (4 : Int32) = 0 by decide), if_neg (show ¬ (4 : Int32) = 1 by decide), if_neg (show ¬ (4 : Int32) = 2 by decide), if_neg (show ¬ (4 : Int32) = 3 by decide), if_pos rfl]
theorem se_5 (f : FR) : setF f 5 = fd f := by
  unfold setF
  rw [if_neg (show ¬ (5 : Int32) = 0 by decide), if_neg (show ¬ (5 : Int32) = 1 by decide), if_neg (show ¬ (5 : Int32) = 2 by decide), if_neg (show ¬ (5 : Int32) = 3 by decide), if_neg (show ¬ (5 : Int32) = 4 by decide), if_pos rfl]
theorem se_6 (f : FR) : setF f 6 = sumI (fr f) 8 := by
  unfold setF
  rw [if_neg (show ¬ (6 : Int32) = 0 by decide), if_neg (show ¬ (6 : Int32) = 1 by decide), if_neg (show ¬ (6 : Int32) = 2 by decide), if_neg (show ¬ (6 : Int32) = 3 by decide), if_neg (show ¬ (6 : Int32) = 4 by decide), if_neg (show ¬ (6 : Int32) = 5 by decide), if_pos rfl]
theorem se_7 (f : FR) : setF f 7 = atI (fw f) 0 := by
  unfold setF
  rw [if_neg (show ¬ (7 : Int32) = 0 by decide), if_neg (show ¬ (7 : Int32) = 1 by decide), if_neg (show ¬ (7 : Int32) = 2 by decide), if_neg (show ¬ (7 : Int32) = 3 by decide), if_neg (show ¬ (7 : Int32) = 4 by decide), if_neg (show ¬ (7 : Int32) = 5 by decide), if_neg (show ¬ (7 : Int32) = 6 by decide), if_pos rfl]
theorem se_8 (f : FR) : setF f 8 = atI (fw f) (sumI (fs f) 8 - 1) := by
  unfold setF
  rw [if_neg (show ¬ (8 : Int32) = 0 by decide), if_neg (show ¬ (8 : Int32) = 1 by decide), if_neg (show ¬ (8 : Int32) = 2 by decide), if_neg (show ¬ (8 : Int32) = 3 by decide), if_neg (show ¬ (8 : Int32) = 4 by decide), if_neg (show ¬ (8 : Int32) = 5 by decide), if_neg (show ¬ (8 : Int32) = 6 by decide), if_neg (show ¬ (8 : Int32) = 7 by decide), if_pos rfl]
theorem se_9 (f : FR) : setF f 9 = sumI (fun b => unitsC f b (bestC f b)) 8 := by
  unfold setF
  rw [if_neg (show ¬ (9 : Int32) = 0 by decide), if_neg (show ¬ (9 : Int32) = 1 by decide), if_neg (show ¬ (9 : Int32) = 2 by decide), if_neg (show ¬ (9 : Int32) = 3 by decide), if_neg (show ¬ (9 : Int32) = 4 by decide), if_neg (show ¬ (9 : Int32) = 5 by decide), if_neg (show ¬ (9 : Int32) = 6 by decide), if_neg (show ¬ (9 : Int32) = 7 by decide), if_neg (show ¬ (9 : Int32) = 8 by decide), if_pos rfl]
theorem bo_0 (f : FR) (b : Nat) : boatF f b 0 = fk f b := by
  unfold boatF
  rw [if_pos rfl]
theorem bo_1 (f : FR) (b : Nat) : boatF f b 1 = fs f b := by
  unfold boatF
  rw [if_neg (show ¬ (1 : Int32) = 0 by decide), if_pos rfl]
theorem bo_2 (f : FR) (b : Nat) : boatF f b 2 = fr f b := by
  unfold boatF
  rw [if_neg (show ¬ (2 : Int32) = 0 by decide), if_neg (show ¬ (2 : Int32) = 1 by decide), if_pos rfl]
theorem bo_3 (f : FR) (b : Nat) : boatF f b 3 = unitsC f b (fk f b) := by
  unfold boatF
  rw [if_neg (show ¬ (3 : Int32) = 0 by decide), if_neg (show ¬ (3 : Int32) = 1 by decide), if_neg (show ¬ (3 : Int32) = 2 by decide), if_pos rfl]
theorem bo_4 (f : FR) (b : Nat) : boatF f b 4 = bestC f b := by
  unfold boatF
  rw [if_neg (show ¬ (4 : Int32) = 0 by decide), if_neg (show ¬ (4 : Int32) = 1 by decide), if_neg (show ¬ (4 : Int32) = 2 by decide), if_neg (show ¬ (4 : Int32) = 3 by decide), if_pos rfl]
theorem bo_5 (f : FR) (b : Nat) : boatF f b 5 = tbC f b := by
  unfold boatF
  rw [if_neg (show ¬ (5 : Int32) = 0 by decide), if_neg (show ¬ (5 : Int32) = 1 by decide), if_neg (show ¬ (5 : Int32) = 2 by decide), if_neg (show ¬ (5 : Int32) = 3 by decide), if_neg (show ¬ (5 : Int32) = 4 by decide)]
theorem cn_cong {X X' : XS} {m t t' L L' k : Nat} (h : Vw X X' m) (hk : k < 9) : cntC X' m t' L' (nI k) = cntC X m t L (nI k) := by
  have sm : ∀ v : FR → Int32, (∀ f g, Feq f g → v g = v f) → sumI (fun j => v (hF X' 0 j)) m = sumI (fun j => v (hF X 0 j)) m := fun v hv => sum_cong m (fun j hj => by
    show v (hF X' 0 j) = v (hF X 0 j)
    rw [hF_0, hF_0]
    exact hv _ _ (h j hj))
  rcases (show k = 0 ∨ k = 1 ∨ k = 2 ∨ k = 3 ∨ k = 4 ∨ k = 5 ∨ k = 6 ∨ k = 7 ∨ k = 8 by omega) with rfl | rfl | rfl | rfl | rfl | rfl | rfl | rfl | rfl
  · rw [show nI 0 = 0 from rfl, ct_0, ct_0]
  · rw [show nI 1 = 1 from rfl, ct_1, ct_1]
    exact sm (fun f => bI (fa f)) (fun f g e => by show bI (fa g) = bI (fa f); rw [e.2.2.2.2])
  · rw [show nI 2 = 2 from rfl, ct_2, ct_2]
    exact sm (fun f => bkC f 0 8) (fun f g e => fe_bk e 0 8 (Nat.le_refl _))
  · rw [show nI 3 = 3 from rfl, ct_3, ct_3]
    exact sm (fun f => bkC f 1 8) (fun f g e => fe_bk e 1 8 (Nat.le_refl _))
  · rw [show nI 4 = 4 from rfl, ct_4, ct_4]
    exact sm (fun f => bkC f 2 8) (fun f g e => fe_bk e 2 8 (Nat.le_refl _))
  · rw [show nI 5 = 5 from rfl, ct_5, ct_5]
    exact sm (fun f => sumI (fun b => unitsC f b (fk f b)) 8) (fun f g e => (se_2 g).symm.trans ((fe_set e 2).trans (se_2 f)))
  · rw [show nI 6 = 6 from rfl, ct_6, ct_6]
    exact sm (fun f => sumI (fs f) 8) (fun f g e => sum_feq e)
  · rw [show nI 7 = 7 from rfl, ct_7, ct_7]
    have e7 : smN (fun v => pcN (orC (hF X' 0) v m)) 32 = smN (fun v => pcN (orC (hF X 0) v m)) 32 := smN_cong 32 (fun j hj => by
      show pcN (orC (hF X' 0) j m) = pcN (orC (hF X 0) j m)
      rw [or_cong (F := hF X 0) (G := hF X' 0) hj m (fun s hs => by rw [hF_0, hF_0]; exact h s hs)])
    rw [e7]
  · rw [show nI 8 = 8 from rfl, ct_8, ct_8]
    exact sm (fun f => fd f) (fun f g e => e.2.2.2.1)
-- the mark
def mkL (h : Int64) (x : Int32) : Int64 := 31 * h + x.toInt64
def mkN (a : Nat → Int32) : Nat → Int64 → Int64
  | 0, h => h
  | n + 1, h => mkL (mkN a n h) (a n)
def mkR (a c : Nat → Int32) : Nat → Int64 → Int64
  | 0, h => h
  | n + 1, h => mkL (mkL (mkR a c n h) (a n)) (c n)
def mkA (F : Nat → Int64 → Int64) : Nat → Int64 → Int64
  | 0, h => h
  | n + 1, h => F n (mkA F n h)
def mk1 (X : XS) (m j : Nat) (h : Int64) : Int64 := mkR (fun i => rankC X m (nI j) (nI (64 * i))) (fun i => nextC X m (nI j) (nI (64 * i))) 32 (mkN (fun b => boatC X m (nI j) (nI b) 0) 8 (mkN (fun k => setC X m (nI j) (nI k)) 10 h))
def markX (X : XS) (m t L : Nat) : Int64 := mkA (mk1 X m) m (mkN (fun k => cntC X m t L (nI k)) 9 17)
theorem mkN_cong {a a' : Nat → Int32} : ∀ n h, (∀ j, j < n → a' j = a j) → mkN a' n h = mkN a n h
  | 0, _, _ => rfl
  | n + 1, h, e => by
    show mkL (mkN a' n h) (a' n) = mkL (mkN a n h) (a n)
    rw [mkN_cong n h (fun j hj => e j (by omega)), e n (by omega)]
theorem mkR_cong {a a' c c' : Nat → Int32} : ∀ n h, (∀ j, j < n → a' j = a j ∧ c' j = c j) → mkR a' c' n h = mkR a c n h
  | 0, _, _ => rfl
  | n + 1, h, e => by
    show mkL (mkL (mkR a' c' n h) (a' n)) (c' n) = mkL (mkL (mkR a c n h) (a n)) (c n)
    rw [mkR_cong n h (fun j hj => e j (by omega)), (e n (by omega)).1, (e n (by omega)).2]
theorem mkA_cong {F G : Nat → Int64 → Int64} (h : Int64) : ∀ n, (∀ j, j < n → ∀ h, G j h = F j h) → mkA G n h = mkA F n h
  | 0, _ => rfl
  | n + 1, e => by
    show G n (mkA G n h) = F n (mkA F n h)
    rw [mkA_cong h n (fun j hj => e j (by omega)), e n (by omega)]
theorem mark_vw {X X' : XS} {m t t' L L' : Nat} (h : Vw X X' m) (hm : m ≤ 6) : markX X' m t' L' = markX X m t L := by
  unfold markX
  rw [mkN_cong 9 17 (fun j hj => cn_cong (L := L) (L' := L') (t := t) (t' := t') h hj)]
  refine mkA_cong _ m (fun j hj hh => ?_)
  have e := h j hj
  unfold mk1
  rw [mkN_cong 10 hh (fun k hk => (by rw [set_T hj hm, set_T hj hm, fe_set e] : setC X' m (nI j) (nI k) = setC X m (nI j) (nI k)))]
  rw [mkN_cong 8 _ (fun b hb => (by rw [boat_E hj hm hb (by decide) (by decide), boat_E hj hm hb (by decide) (by decide), fe_boat e hb, (e.2.1 b hb).2.1] : boatC X' m (nI j) (nI b) 0 = boatC X m (nI j) (nI b) 0))]
  refine mkR_cong 32 _ (fun i hi => ⟨?_, ?_⟩)
  · rw [rank_T hj hm (by omega), rank_T hj hm (by omega), fe_cnt e (by omega)]
  · rw [next_T hj hm (by omega), next_T hj hm (by omega), fe_cnt e (by omega), fe_at e]
