/-! The law's acts: what they answer, and what they leave -/
def phZ (t : Nat) : Nat := if t < 4 then t + 1 else 4
theorem phZ_1 (t : Nat) : 1 ≤ phZ t := by unfold phZ; split <;> omega
theorem phZ_4 (t : Nat) : phZ t ≤ 4 := by unfold phZ; split <;> omega
def sz (f : FR) : Int32 := sumI (fs f) 8
def Inv (X : XS) (g : YS) (m t : Nat) : Prop :=
  (xh X 0 = nI m ∧ m ≤ 6) ∧ (∀ s, s < m → Gd (X.1 s) ∧ g s = fp (X.1 s) + fd (X.1 s)) ∧ (xz X = nI t ∧ t ≤ 4 ∧ Pq (xq X)) ∧ Hh X ∧ (xl X = 0 ∧ xn X = 1 ∧ xh X 1 = 0)
/-- the latest state of the history tells what X tells now -/
def Bk (X' X : XS) (m t' : Nat) : Prop := xh X' (2 + xq X' (t' - 1)) = nI m ∧ ∀ s, s < m → Feq (X.1 s) (X'.1 (6 * (2 + xq X' (t' - 1)) + s))
theorem pushA_bk {X : XS} {t m : Nat} : Bk (pushA X t m) X m (t + 1) := by
  unfold Bk
  rw [show t + 1 - 1 = t by omega]
  refine ⟨cpH_h (X := X) (h := 2 + xq X t) (g := 0) (m := m) (j := m), fun s hs => ?_⟩
  show Feq _ (if 6 * (2 + xq X t) ≤ 6 * (2 + xq X t) + s ∧ 6 * (2 + xq X t) + s < 6 * (2 + xq X t) + m then cpF (X.1 (6 * 0 + (6 * (2 + xq X t) + s - 6 * (2 + xq X t)))) (X.1 (6 * (2 + xq X t) + s)) else _)
  rw [if_pos (by omega), show 6 * 0 + (6 * (2 + xq X t) + s - 6 * (2 + xq X t)) = s by omega]
  exact feq_cp _ _
theorem push_bk {X : XS} {t m : Nat} : Bk (pushX X t m) X m (phZ t) := by
  unfold pushX phZ
  by_cases c : t < 4
  · rw [if_pos c, if_pos c]
    exact pushA_bk
  · rw [if_neg c, if_neg c]
    exact pushA_bk (X := dropX X) (t := 3)
theorem pq_drop {X : XS} (h : Pq (xq X)) : Pq (xq (dropX X)) := by
  have eq : ∀ j, xq (dropX X) j = if j = 3 then xq X 0 else if j + 1 < 4 then xq X (j + 1) else xq X j := by
    intro j
    show va_up (rotK (xq X) 4) 3 (xq X 0) j = _
    unfold va_up rotK
    rfl
  refine ⟨dropX_lt h.1, fun i j hi hj e => ?_⟩
  rw [eq i, eq j] at e
  have inj := h.2
  rcases (show i = 0 ∨ i = 1 ∨ i = 2 ∨ i = 3 by omega) with rfl | rfl | rfl | rfl <;> rcases (show j = 0 ∨ j = 1 ∨ j = 2 ∨ j = 3 by omega) with rfl | rfl | rfl | rfl <;> first | rfl | exact absurd (inj _ _ (by decide) (by decide) e) (by decide)
theorem inv_push {X : XS} {g : YS} {m t : Nat} (h : Inv X g m t) : Inv (pushX X t m) g m (phZ t) := by
  obtain ⟨⟨h1, h2⟩, h3, ⟨h4, h5, h6⟩, h7, ⟨h8, h9, h10⟩⟩ := h
  obtain ⟨p1, p2, p3⟩ := push_o (X := X) (t := t) (m := m)
  refine ⟨⟨by rw [push_h (by omega)]; exact h1, h2⟩, fun s hs => by rw [push_f h6.1 h2 (by omega)]; exact h3 s hs, ⟨?_, phZ_4 t, ?_⟩, push_hh h7 h2, ⟨p3.trans h8, p1.trans h9, by rw [push_h (by omega)]; exact h10⟩⟩
  · unfold pushX phZ
    by_cases c : t < 4
    · rw [if_pos c, if_pos c]; rfl
    · rw [if_neg c, if_neg c]; rfl
  · unfold pushX
    by_cases c : t < 4
    · rw [if_pos c]; exact h6
    · rw [if_neg c]; exact pq_drop h6
theorem inv_try {X : XS} {g : YS} {m t : Nat} (h : Inv X g m t) (f : FR) : Inv (xFi X 36 f) g m t := by
  obtain ⟨h1, h3, h4⟩ := h
  exact ⟨h1, fun s hs => by rw [xFi_ne X f (show s ≠ 36 by have := h1.2; omega)]; exact h3 s hs, h4⟩
theorem inv_set {X : XS} {g g' : YS} {m t k : Nat} {f : FR} (h : Inv X g m t) (hk : k < m) (hf : Gd f) (e1 : g' k = fp f + fd f) (e2 : ∀ s, s < m → s ≠ k → g' s = g s) : Inv (xFi X k f) g' m t := by
  obtain ⟨h1, h3, h4⟩ := h
  refine ⟨h1, fun s hs => ?_, h4⟩
  by_cases e : s = k
  · subst e
    rw [xFi_at]
    exact ⟨hf, e1⟩
  · rw [xFi_ne X f e, e2 s hs e]
    exact h3 s hs
theorem inv_g {X : XS} {g g' : YS} {m t : Nat} (h : Inv X g m t) (e : ∀ s, s < m → g' s = g s) : Inv X g' m t := ⟨h.1, fun s hs => by rw [e s hs]; exact h.2.1 s hs, h.2.2⟩
theorem bk_set {X' X : XS} {m t' k : Nat} {f : FR} (h : Bk X' X m t') (hk : k < 12) : Bk (xFi X' k f) X m t' := ⟨h.1, fun s hs => by
  show Feq _ ((xFi X' k f).1 (6 * (2 + xq X' (t' - 1)) + s))
  rw [xFi_ne X' f (by omega)]
  exact h.2 s hs⟩
theorem bk_try {X' X : XS} {m t' : Nat} {f : FR} (h : Bk X' (xFi X 36 f) m t') (hm : m ≤ 6) : Bk X' X m t' := ⟨h.1, fun s hs => by
  have := h.2 s hs
  rw [xFi_ne X f (show s ≠ 36 by omega)] at this
  exact this⟩
/-- an act on one set -/
def ActS (X : XS) (m t k : Nat) (E : Int32 × XS) (dp : Int32) (R : FR → FR → Int32 → Prop) : Prop :=
  (E.1 < 0 ∧ ∃ f6, E.2 = xFi X 36 f6) ∨ (¬ E.1 < 0 ∧ ∃ f6 f, E.2 = xFi (pushX (xFi X 36 f6) t m) k f ∧ Gd f ∧ fp f + fd f = fp (X.1 k) + fd (X.1 k) + dp ∧ R (X.1 k) f E.1)
theorem x36 (X : XS) : X = xFi X 36 (X.1 36) := xFi_self rfl
theorem st_S {X : XS} {g : YS} {m t k : Nat} {c : Bool} {f6 : FR} {N : Nat} {v : Int32} (h : Inv X g m t) (hk : k < m)
    (hv : v = -3 ∨ ∃ d, d ≤ N ∧ v = nI d ∧ Gd f6 ∧ fp f6 + fd f6 = fp (X.1 k) + fd (X.1 k) ∧ sz f6 = pmI c (sz (X.1 k)) d) (hN : N ≤ 2048) :
    ActS X m t k (stX (xFi X 36 f6) t m k v) 0 (fun f f' d => ∃ n, 1 ≤ n ∧ n ≤ N ∧ d = nI n ∧ sz f' = pmI c (sz f) n) := by
  rcases hv with rfl | ⟨d, d1, rfl, d3, d4, d5⟩
  · have e0 : stX (xFi X 36 f6) t m k (-3) = (-3, xFi X 36 f6) := if_pos (by decide)
    rw [e0]
    exact Or.inl ⟨show (-3 : Int32) < 0 by decide, f6, rfl⟩
  · by_cases e : d = 0
    · subst e
      have e0 : stX (xFi X 36 f6) t m k 0 = (-5, xFi X 36 f6) := by
        unfold stX
        rw [if_neg (show ¬ (0 : Int32) < 0 by decide), if_pos rfl]
      rw [show nI 0 = 0 from rfl, e0]
      exact Or.inl ⟨show (-5 : Int32) < 0 by decide, f6, rfl⟩
    · have e1 : stX (xFi X 36 f6) t m k (nI d) = (nI d, xFi (pushX (xFi X 36 f6) t m) k (cpF ((pushX (xFi X 36 f6) t m).1 36) ((pushX (xFi X 36 f6) t m).1 k))) := by
        unfold stX
        rw [if_neg (nI_pos (by omega)), if_neg (fun z => e ((nI_z (by omega)).mp z))]
      rw [e1]
      have e2 : (pushX (xFi X 36 f6) t m).1 36 = f6 := by rw [push_f (X := xFi X 36 f6) h.2.2.1.2.2.1 h.1.2 (by omega), xFi_at]
      rw [e2]
      have q := feq_cp f6 ((pushX (xFi X 36 f6) t m).1 k)
      refine Or.inr ⟨nI_pos (by omega), f6, _, rfl, gd_feq q d3, ?_, d, by omega, d1, rfl, ?_⟩
      · rw [q.2.2.1, q.2.2.2.1, d4, Int32.add_zero]
      · exact (sum_feq q).trans d5
theorem mr_S {X : XS} {g : YS} {m t k a b : Nat} (c : Bool) (h : Inv X g m t) (hk : k < m) (ha : a ≤ b) (hb : b < 2048) :
    ActS X m t k (mrX X t m (nI k) (nI a) (nI b) c) 0 (fun f f' d => ∃ n, 1 ≤ n ∧ n ≤ b + 1 - a ∧ d = nI n ∧ sz f' = pmI c (sz f) n) := by
  have hm := h.1.2
  have e : mrX X t m (nI k) (nI a) (nI b) c = stX (xFi X 36 (mvR X k a b c).1) t m k (mvR X k a b c).2 := by
    unfold mrX
    rw [if_neg (ne_TF (isC_nI hk hm)), if_pos ⟨isN_nI (by omega), isN_nI hb, (nI_leI (by omega) (by omega)).mpr ha⟩, ix_nI (by omega), ix_nI (by omega), ix_nI (by omega)]
    unfold mvX
    rw [xFi_2]
  rw [e]
  refine st_S h hk ?_ (by omega)
  have q := feq_cp (X.1 k) (X.1 36)
  rcases mv_ok (c := c) (b + 1 - a) a 0 (cpF (X.1 k) (X.1 36)) (gd_cp _ (h.2.1 k hk).1) (by omega) with z | ⟨d, d1, d2, d3, d4, d5, d6⟩
  · exact Or.inl z
  · refine Or.inr ⟨d, d1, by rw [show (mvR X k a b c).2 = _ from d2]; congr 1; omega, d3, ?_, ?_⟩
    · rw [show fp (mvR X k a b c).1 + fd (mvR X k a b c).1 = _ from d5, q.2.2.1, q.2.2.2.1]
    · rw [show sz (mvR X k a b c).1 = _ from d6, sum_feq q]
      rfl
theorem q_pos {x : Int32} (h : x = 0 ∨ x = 1 ∨ x = 2) : ¬ x < 0 := by rcases h with rfl | rfl | rfl <;> decide
theorem add_S {X : XS} {g : YS} {m t k a : Nat} (h : Inv X g m t) (hk : k < m) (ha : a < 2048) : ActS X m t k (addX X t m (nI k) (nI a)) 0 (fun f f' _ => sz f' = sz f + 1) := by
  have hm := h.1.2
  unfold addX
  rcases mr_S true h hk (Nat.le_refl a) ha with ⟨z1, z2⟩ | ⟨z1, f6, f, z2, z3, z4, n, n1, n2, n3, n4⟩
  · rw [if_pos z1]
    exact Or.inl ⟨z1, z2⟩
  · rw [if_neg z1]
    have hn : n = 1 := by omega
    subst hn
    refine Or.inr ⟨?_, f6, f, z2, z3, z4, n4⟩
    show ¬ fk ((mrX X t m (nI k) (nI a) (nI a) true).2.1 (ix (nI k))) (ix (nI a) / 256) < 0
    rw [z2, ix_nI (by omega), ix_nI (by omega), xFi_at]
    exact q_pos (z3.2.1 _ (by omega))
theorem rem_S {X : XS} {g : YS} {m t k a : Nat} (h : Inv X g m t) (hk : k < m) (ha : a < 2048) : ActS X m t k (remX X t m (nI k) (nI a)) 0 (fun f f' _ => sz f' = sz f - 1) := by
  have hm := h.1.2
  unfold remX
  rcases mr_S false h hk (Nat.le_refl a) ha with ⟨z1, z2⟩ | ⟨z1, f6, f, z2, z3, z4, n, n1, n2, n3, n4⟩
  · rw [if_pos z1]
    exact Or.inl ⟨z1, z2⟩
  · rw [if_neg z1]
    have hn : n = 1 := by omega
    subst hn
    refine Or.inr ⟨?_, f6, f, z2, z3, z4, n4⟩
    show ¬ fs ((mrX X t m (nI k) (nI a) (nI a) false).2.1 (ix (nI k))) (ix (nI a) / 256) < 0
    rw [z2, ix_nI (by omega), ix_nI (by omega), xFi_at, (z3.1 _ (by omega)).1]
    exact nI_pos (Nat.lt_of_le_of_lt (cm_le _ _) (by decide))
theorem rng_S {X : XS} {g : YS} {m t k a b : Nat} (c : Bool) (h : Inv X g m t) (hk : k < m) (ha : a ≤ b) (hb : b < 2048) : ActS X m t k (mrX X t m (nI k) (nI a) (nI b) c) 0 (fun f f' d => sz f' = if c = true then sz f + d else sz f - d) := by
  rcases mr_S c h hk ha hb with z | ⟨z1, f6, f, z2, z3, z4, n, n1, n2, n3, n4⟩
  · exact Or.inl z
  · refine Or.inr ⟨z1, f6, f, z2, z3, z4, ?_⟩
    rw [n3]
    exact n4
/-- the boats of the first bays, together -/
def bk3 (f : FR) (n : Nat) : Int32 := bkC f 0 n + bkC f 1 n + bkC f 2 n
theorem bk3_s {f : FR} (h : Gd f) {n : Nat} (hn : n < 8) : bk3 f (n + 1) = if cm (fw f) n = 0 then bk3 f n else bk3 f n + 1 := by
  unfold bk3
  rw [bkC_s, bkC_s, bkC_s]
  by_cases c : cm (fw f) n = 0
  · have z : ¬ 0 < fs f n := fun z => (fs_pos h.1 hn).mp z c
    rw [if_pos c, if_neg (fun y => z y.1), if_neg (fun y => z y.1), if_neg (fun y => z y.1), Int32.add_zero, Int32.add_zero, Int32.add_zero]
  · have z : 0 < fs f n := (fs_pos h.1 hn).mpr c
    rw [if_neg c]
    rcases h.2.1 n hn with q | q | q
    · rw [if_pos ⟨z, q⟩, if_neg (fun y => absurd (q.symm.trans y.2) (by decide)), if_neg (fun y => absurd (q.symm.trans y.2) (by decide)), Int32.add_zero, Int32.add_zero, i_112]
    · rw [if_neg (fun y => absurd (q.symm.trans y.2) (by decide)), if_pos ⟨z, q⟩, if_neg (fun y => absurd (q.symm.trans y.2) (by decide)), Int32.add_zero, Int32.add_zero, i_121]
    · rw [if_neg (fun y => absurd (q.symm.trans y.2) (by decide)), if_neg (fun y => absurd (q.symm.trans y.2) (by decide)), if_pos ⟨z, q⟩, Int32.add_zero, Int32.add_zero, Int32.add_assoc (bkC f 0 n + bkC f 1 n)]
theorem bk3_n {f : FR} (h : Gd f) : ∀ n, n ≤ 8 → ∃ j, j ≤ n ∧ bk3 f n = nI j
  | 0, _ => ⟨0, Nat.le_refl _, rfl⟩
  | n + 1, hn => by
    obtain ⟨j, j1, j2⟩ := bk3_n h n (by omega)
    rw [bk3_s h (by omega)]
    split
    · exact ⟨j, by omega, j2⟩
    · exact ⟨j + 1, by omega, by rw [j2]; exact nI_add j 1⟩
theorem sail_S {X : XS} {g : YS} {m t k : Nat} (h : Inv X g m t) (hk : k < m) : ActS X m t k (sailX X t m (nI k)) 0 (fun f f' _ => sz f' = sz f) := by
  have hm := h.1.2
  have hg := (h.2.1 k hk).1
  unfold sailX
  rw [if_neg (ne_TF (isC_nI hk hm)), ix_nI (by omega)]
  by_cases c : fa (X.1 k) = true
  · rw [if_pos c]
    exact Or.inl ⟨show (-5 : Int32) < 0 by decide, _, x36 X⟩
  · rw [if_neg c]
    obtain ⟨j, j1, j2⟩ := bk3_n (gd_sea hg true) 8 (Nat.le_refl _)
    refine Or.inr ⟨?_, X.1 36, _, by rw [← x36 X], gd_sea hg true, (Int32.add_zero _).symm, rfl⟩
    show ¬ bk3 (faS (X.1 k) true) 8 < 0
    rw [j2]
    exact nI_pos (by omega)
theorem dock_S {X : XS} {g : YS} {m t k : Nat} (h : Inv X g m t) (hk : k < m) : ActS X m t k (dockX X t m (nI k)) 0 (fun f f' d => sz f' = sz f ∧ d = (ehF 8 (faS f false) 0 0).2 ∧ fa f' = false ∧ fp f' = fp f - d ∧ ∀ b, b < 8 → Np f' b) := by
  have hm := h.1.2
  have hg := (h.2.1 k hk).1
  obtain ⟨p, p1, p2⟩ := hg.2.2.1
  obtain ⟨q, q1, q2, q3, q4, q5, q6⟩ := dk_ok hg p2 p1
  unfold dockX
  rw [if_neg (ne_TF (isC_nI hk hm)), ix_nI (by omega), push_f h.2.2.1.2.2.1 hm (by omega)]
  refine Or.inr ⟨by rw [q2]; exact nI_pos (by omega), X.1 36, _, by rw [← x36 X], q4, ?_, ?_, rfl, q5.2.2.2.1, ?_, q6⟩
  · rw [Int32.add_zero]
    exact q5.2.2.2.2
  · unfold sz
    rw [q5.2.1]
  · rw [q2, q3, p2, pk_sub q1]
theorem toll_T {X : XS} {m k : Nat} (hk : k < m) (hm : m ≤ 6) : tollX X m (nI k) = ((ehF 8 (faS (X.1 k) false) 0 0).2, xFi X 36 (ehF 8 (faS (cpF (X.1 k) (X.1 36)) false) 0 0).1) := by
  unfold tollX
  rw [if_neg (ne_TF (isC_nI hk hm)), ix_nI (by omega), xFi_2, fe_eh 8 _ _ 0 0 (fe_sea (feq_cp (X.1 k) (X.1 36)) false)]
theorem comb_S {X : XS} {g : YS} {m t k k2 k3 w : Nat} (h : Inv X g m t) (hk : k < m) (hk2 : k2 < m) (hk3 : k3 < m) (hw : w < 4) : ActS X m t k (cbX X t m (nI w) (nI k) (nI k2) (nI k3)) 0 (fun _ f' d => sz f' = d) := by
  have hm := h.1.2
  have hg := (h.2.1 k hk).1
  have hw2 : inB (nI w) 0 3 = true := decide_eq_true ⟨nI_pos' (by omega), (nI_leI (b := 3) (by omega) (by decide)).mpr (by omega)⟩
  unfold cbX
  rw [if_neg (fun z => by rcases z with z | z | z <;> exact absurd z (ne_TF (isC_nI (by assumption) hm))), if_neg (ne_TF hw2), ix_nI (by omega), ix_nI (by omega), ix_nI (by omega)]
  by_cases c : fa (X.1 k) = true
  · rw [if_pos c]
    exact Or.inl ⟨show (-4 : Int32) < 0 by decide, _, x36 X⟩
  · rw [if_neg c]
    have q0 := feq_cp (X.1 k) (X.1 36)
    have e : cb2 X (nI w) k k2 k3 = xFi X 36 (flF (nI w) ((cb1 X k).1 k2) ((cb1 X k).1 k3) (cpF (X.1 k) (X.1 36))) := by
      show xFi (xFi X 36 _) 36 _ = _
      rw [xFi_2]
    obtain ⟨p, p1, p2⟩ := hg.2.2.1
    obtain ⟨r1, r2, r3, r4⟩ := fl_gd (how := nI w) (o := (cb1 X k).1 k2) (p := (cb1 X k).1 k3) (f := cpF (X.1 k) (X.1 36)) ⟨p, p1, q0.2.2.1.trans p2⟩
    unfold cb3
    rw [e]
    generalize flF (nI w) ((cb1 X k).1 k2) ((cb1 X k).1 k3) (cpF (X.1 k) (X.1 36)) = f6 at r1 r2 r3 r4
    have e2 : (pushX (xFi X 36 f6) t m).1 36 = f6 := by rw [push_f (X := xFi X 36 f6) h.2.2.1.2.2.1 hm (by omega), xFi_at]
    rw [e2]
    have q := feq_cp f6 ((pushX (xFi X 36 f6) t m).1 k)
    have g2 := gd_feq q r1
    refine Or.inr ⟨?_, f6, _, rfl, g2, ?_, rfl⟩
    · show ¬ sumI (fs (cpF f6 ((pushX (xFi X 36 f6) t m).1 k))) 8 < 0
      rw [sum_fs g2.1 8 (Nat.le_refl _)]
      exact nI_pos (Nat.lt_of_le_of_lt (cnt_le _ _ _) (by decide))
    · rw [q.2.2.1, q.2.2.2.1, r2, r3, q0.2.2.1, q0.2.2.2.1, Int32.add_zero]
theorem i_pay (x y z : Int32) : x + z + y = x + y + z := by rw [Int32.add_assoc, Int32.add_comm z, ← Int32.add_assoc]
theorem pay_S {X : XS} {g : YS} {m t k c : Nat} (h : Inv X g m t) (hk : k < m) (h1 : 1 ≤ c) (h2 : c ≤ 60) : ActS X m t k (payX X t m (nI k) (nI c)) (nI c) (fun f f' _ => sz f' = sz f) := by
  have hm := h.1.2
  have hg := (h.2.1 k hk).1
  obtain ⟨p, p1, p2⟩ := hg.2.2.1
  unfold payX
  rw [if_neg (ne_TF (isC_nI hk hm)), if_neg (fun z => by
    rcases z with z | z
    · have := (nI_ltI (b := 1) (by omega) (by decide)).mp z
      omega
    · have := (nI_ltI (a := 9999) (by decide) (by omega)).mp z
      omega), ix_nI (by omega)]
  by_cases e : 9999 < fp (X.1 k) + nI c
  · rw [if_pos e]
    exact Or.inl ⟨show (-3 : Int32) < 0 by decide, _, x36 X⟩
  · rw [if_neg e]
    have e2 : fp (X.1 k) + nI c = nI (p + c) := by rw [p2, nI_add]
    have e3 : p + c ≤ 9999 := Nat.le_of_not_lt (fun z => e (by rw [e2]; exact (nI_ltI (a := 9999) (by decide) (by omega)).mpr z))
    refine Or.inr ⟨by rw [e2]; exact nI_pos (by omega), X.1 36, fpS (X.1 k) (fp (X.1 k) + nI c), by rw [← x36 X], gd_mk (f := fpS (X.1 k) (fp (X.1 k) + nI c)) hg.1 hg.2.1 ⟨p + c, e3, e2⟩ (fun b hb => hg.bay hb), i_pay _ _ _, rfl⟩
theorem new_F {X : XS} {t m c : Nat} (hc : c < 90) (hm : ¬ m < 6) : nsX X t m (nI c) = (-3, X) := by
  unfold nsX
  rw [if_neg (fun z => by
    rcases z with z | z
    · exact nI_pos (by omega) z
    · have := (nI_ltI (a := 9999) (by decide) (by omega)).mp z
      omega), if_neg hm]
theorem new_T {X : XS} {t m c : Nat} (hc : c < 90) (hm : m < 6) : nsX X t m (nI c) = (nI m, opH (pushX X t m) 0 m (nI c)) := by
  unfold nsX
  rw [if_neg (fun z => by
    rcases z with z | z
    · exact nI_pos (by omega) z
    · have := (nI_ltI (a := 9999) (by decide) (by omega)).mp z
      omega), if_pos hm]
/-- a new set -/
theorem inv_open {X : XS} {g g' : YS} {m t c : Nat} (h : Inv X g m t) (hc : c < 90) (hm : m < 6) (e1 : g' m = nI c) (e2 : ∀ s, s < m → g' s = g s) : Inv (opH (pushX X t m) 0 m (nI c)) g' (m + 1) (phZ t) ∧ Bk (opH (pushX X t m) 0 m (nI c)) X m (phZ t) ∧ ∀ s, s < m → (opH (pushX X t m) 0 m (nI c)).1 s = X.1 s := by
  have hp := inv_push h
  have hb := push_bk (X := X) (t := t) (m := m)
  have hq := hp.2.2.1.2.2.1
  have ef : ∀ s, s < m → (opH (pushX X t m) 0 m (nI c)).1 s = X.1 s := fun s hs => by
    show (xFi (pushX X t m) (6 * 0 + m) _).1 s = _
    rw [xFi_ne _ _ (show s ≠ 6 * 0 + m by omega), push_f h.2.2.1.2.2.1 h.1.2 (by omega)]
  have e0 : xh (opH (pushX X t m) 0 m (nI c)) 0 = nI (m + 1) := va_up_self (xh (pushX X t m)) 0 (nI (m + 1))
  refine ⟨⟨⟨e0, by omega⟩, fun s hs => ?_, hp.2.2.1, fun k hk => ?_, ⟨hp.2.2.2.2.1, hp.2.2.2.2.2.1, ?_⟩⟩, ⟨?_, fun s hs => ?_⟩, ef⟩
  · by_cases e : s = m
    · subst e
      have e3 : (opH (pushX X t s) 0 s (nI c)).1 s = bgF (hF (pushX X t s) 0 s) (nI c) := by
        show (xFi (pushX X t s) (6 * 0 + s) _).1 s = _
        rw [show 6 * 0 + s = s by omega, xFi_at]
      rw [e3, e1]
      refine ⟨bg_gd (by omega), ?_⟩
      show nI c = nI c + 0
      rw [Int32.add_zero]
    · rw [ef s (by omega), e2 s (by omega)]
      exact h.2.1 s (by omega)
  · show ∃ u, u ≤ 6 ∧ va_up (xh (pushX X t m)) 0 (nI (m + 1)) k = nI u
    by_cases e : k = 0
    · subst e
      rw [va_up_self]
      exact ⟨m + 1, by omega, rfl⟩
    · rw [va_up_ne _ _ e]
      exact hp.2.2.2.1 k hk
  · show va_up (xh (pushX X t m)) 0 (nI (m + 1)) 1 = 0
    rw [va_up_ne _ _ (by decide)]
    exact hp.2.2.2.2.2.2
  · show va_up (xh (pushX X t m)) 0 (nI (m + 1)) (2 + xq (pushX X t m) (phZ t - 1)) = nI m
    rw [va_up_ne _ _ (by omega)]
    exact hb.1
  · show Feq _ ((xFi (pushX X t m) (6 * 0 + m) _).1 (6 * (2 + xq (pushX X t m) (phZ t - 1)) + s))
    rw [xFi_ne _ _ (by omega)]
    exact hb.2 s hs
/-- an act undone -/
theorem undo_ok {X' X : XS} {g' g2 : YS} {m m' t' : Nat} (hI : Inv X' g' m' t') (hb : Bk X' X m t') (hm : m ≤ 6) (hG : ∀ s, s < m → Gd (X.1 s) ∧ g2 s = fp (X.1 s) + fd (X.1 s)) : Inv (popX X' t' m) g2 m (t' - 1) ∧ Vw X (popX X' t' m) m := by
  have hv : Vw X (popX X' t' m) m := fun s hs => by
    show Feq _ (if 6 * 0 ≤ s ∧ s < 6 * 0 + m then cpF (X'.1 (6 * (2 + xq X' (t' - 1)) + (s - 6 * 0))) (X'.1 s) else _)
    rw [if_pos (by omega), show s - 6 * 0 = s by omega]
    exact (hb.2 s hs).tr (feq_cp _ _)
  refine ⟨⟨⟨cpH_h, hm⟩, fun s hs => ?_, ⟨rfl, by have := hI.2.2.1.2.1; omega, hI.2.2.1.2.2⟩, fun k hk => ?_, ⟨hI.2.2.2.2.1, hI.2.2.2.2.2.1, ?_⟩⟩, hv⟩
  · have e := hv s hs
    refine ⟨gd_feq e (hG s hs).1, ?_⟩
    rw [(hG s hs).2, e.2.2.1, e.2.2.2.1]
  · show ∃ u, u ≤ 6 ∧ va_up (xh X') 0 (nI m) k = nI u
    by_cases e : k = 0
    · subst e
      rw [va_up_self]
      exact ⟨m, hm, rfl⟩
    · rw [va_up_ne _ _ e]
      exact hI.2.2.2.1 k hk
  · show va_up (xh X') 0 (nI m) 1 = 0
    rw [va_up_ne _ _ (by decide)]
    exact hI.2.2.2.2.2.2
