/-! The text: both sides read the same -/
section READ
variable {c : Nat → Int32} {L : Nat}
theorem rd_end {d : Nat} {f v : Int32} {s : Bool} {Z : XS} {r : Nat} : rdC c L (L - L) L d f v s Z r = if d = 0 then (nI L, Z) else (-1, ntX Z r (if s = true then f else v) v) := by rw [Nat.sub_self, rdC]
theorem rd_st {i d : Nat} {f v : Int32} {s : Bool} {Z : XS} {r : Nat} (h : i < L) : rdC c L (L - i) i d f v s Z r =
    if 48 ≤ c i ∧ c i ≤ 57 then (if d = 4 ∨ (d = 1 ∧ v = 0) then (nI i, Z) else rdC c L (L - (i + 1)) (i + 1) (d + 1) f (10 * v + (c i - 48)) s Z r)
    else if c i = 45 ∧ 0 < d ∧ s = false then rdC c L (L - (i + 1)) (i + 1) 0 v 0 true Z r
    else if c i = 44 ∧ 0 < d then rdC c L (L - (i + 1)) (i + 1) 0 f 0 false (ntX Z r (if s = true then f else v) v) (ntR r)
    else (nI i, Z) := by
  rw [show L - i = L - (i + 1) + 1 by omega, rdC]
theorem sg_c {i : Nat} (h : i < L) : signM c L i = c i := if_pos h
theorem sg_5 : signM c L L = -5 := if_neg (Nat.lt_irrefl _)
theorem isD_iff {x : Int32} : isD x = true ↔ (48 ≤ x ∧ x ≤ 57) := decide_eq_true_iff
theorem dig {x : Int32} (h : 48 ≤ x ∧ x ≤ 57) : ∃ q, q ≤ 9 ∧ x - 48 = nI q := by
  obtain ⟨j, hj, rfl⟩ := nI_of (Int32.not_lt.mpr (Int32.le_trans (show (0 : Int32) ≤ 48 by decide) h.1))
  have h1 := (nI_leI (a := 48) (by decide) hj).mp h.1
  have h2 := (nI_leI (b := 57) hj (by decide)).mp h.2
  exact ⟨j - 48, by omega, pk_sub (b := 48) h1⟩
/-- where a number ends -/
def StpT (c : Nat → Int32) (L i d : Nat) (v : Int32) : Prop := ¬ (i < L ∧ 48 ≤ c i ∧ c i ≤ 57) ∨ (d = 4 ∨ (d = 1 ∧ v = 0))
theorem rd_num {f : Int32} {s : Bool} {Z : XS} {r : Nat} : ∀ (k i d x : Nat), d + k = 4 → 1 ≤ d → i ≤ L → x < 10 ^ d → (x = 0 → d = 1) →
    ∃ i' d' x', rnL (signM c L) k (nI x) i = (nI x', i') ∧ i ≤ i' ∧ i' ≤ L ∧ 1 ≤ d' ∧ x' < 2 ^ 31 ∧ StpT c L i' d' (nI x') ∧ rdC c L (L - i) i d f (nI x) s Z r = rdC c L (L - i') i' d' f (nI x') s Z r
  | 0, i, d, x, hd, h1, hi, hx, h0 => ⟨i, d, x, rfl, Nat.le_refl _, hi, h1, by
      have : d = 4 := by omega
      subst this
      omega, Or.inr (Or.inl (by omega)), rfl⟩
  | k + 1, i, d, x, hd, h1, hi, hx, h0 => by
    have hx2 : x < 2 ^ 31 := by
      rcases (show d = 1 ∨ d = 2 ∨ d = 3 by omega) with rfl | rfl | rfl <;> omega
    by_cases e0 : x = 0
    · subst e0
      refine ⟨i, d, 0, ?_, Nat.le_refl _, hi, h1, by decide, Or.inr (Or.inr ⟨h0 rfl, rfl⟩), rfl⟩
      rw [rnL, if_neg (fun z => absurd z.1 (by decide))]
    · by_cases hD : i < L ∧ 48 ≤ c i ∧ c i ≤ 57
      · obtain ⟨hl, hD⟩ := hD
        obtain ⟨q, hq, eq⟩ := dig hD
        have ev : 10 * nI x + (c i - 48) = nI (10 * x + q) := by
          rw [eq, show (10 : Int32) * nI x = nI (10 * x) from pk_mul 10 x, nI_add]
        have ev2 : 10 * nI x + c i - 48 = nI (10 * x + q) := by rw [← ev, Int32.sub_eq_add_neg, Int32.sub_eq_add_neg, Int32.add_assoc]
        have hp : 10 ^ (d + 1) = 10 * 10 ^ d := by rw [Nat.pow_succ, Nat.mul_comm]
        obtain ⟨i', d', x', a1, a2, a3, a4, a5, a6, a7⟩ := rd_num (f := f) (s := s) (Z := Z) (r := r) k (i + 1) (d + 1) (10 * x + q) (by omega) (by omega) (by omega) (by rw [hp]; omega) (fun z => by omega)
        refine ⟨i', d', x', ?_, by omega, a3, a4, a5, a6, ?_⟩
        · rw [rnL, sg_c hl, if_pos ⟨(nI_ltI (a := 0) (by decide) hx2).mpr (by omega), isD_iff.mpr hD⟩, ev2]
          exact a1
        · rw [rd_st hl, if_pos hD, if_neg (fun z => z.elim (by omega) (fun z => e0 ((nI_z hx2).mp z.2))), ev]
          exact a7
      · refine ⟨i, d, x, ?_, Nat.le_refl _, hi, h1, hx2, Or.inl hD, rfl⟩
        rw [rnL, if_neg (fun z => hD ⟨isD_lt z.2, by
          have h2 := isD_lt z.2
          have h3 := isD_iff.mp z.2
          rw [sg_c h2] at h3
          exact h3⟩)]
/-- a number is read, or there is none -/
theorem rd_rn {f : Int32} {s : Bool} {Z : XS} {r a : Nat} (ha : a ≤ L) : (rn (signM c L) a = (-1, a) ∧ rdC c L (L - a) a 0 f 0 s Z r = (nI a, Z)) ∨
    (∃ i' d' x', rn (signM c L) a = (nI x', i') ∧ a < i' ∧ i' ≤ L ∧ 1 ≤ d' ∧ x' < 2 ^ 31 ∧ StpT c L i' d' (nI x') ∧ rdC c L (L - a) a 0 f 0 s Z r = rdC c L (L - i') i' d' f (nI x') s Z r) := by
  by_cases hD : a < L ∧ 48 ≤ c a ∧ c a ≤ 57
  · obtain ⟨hl, hD⟩ := hD
    obtain ⟨q, hq, eq⟩ := dig hD
    obtain ⟨i', d', x', a1, a2, a3, a4, a5, a6, a7⟩ := rd_num (c := c) (L := L) (f := f) (s := s) (Z := Z) (r := r) 3 (a + 1) 1 q (by omega) (by omega) (by omega) (by omega) (fun _ => rfl)
    refine Or.inr ⟨i', d', x', ?_, by omega, a3, a4, a5, a6, ?_⟩
    · unfold rn
      rw [sg_c hl, if_neg (by rw [isD_iff.mpr hD]; decide), eq]
      exact a1
    · rw [rd_st hl, if_pos hD, if_neg (by omega), eq, show (10 : Int32) * 0 + nI q = nI q from by rw [Int32.mul_zero, Int32.zero_add]]
      exact a7
  · refine Or.inl ⟨?_, ?_⟩
    · unfold rn
      have e : isD (signM c L a) = false := by
        cases z : isD (signM c L a) with
        | false => rfl
        | true =>
          have h2 := isD_lt z
          have h3 := isD_iff.mp z
          rw [sg_c h2] at h3
          exact absurd ⟨h2, h3⟩ hD
      rw [if_pos e]
    · rcases Nat.lt_or_ge a L with hl | hl
      · rw [rd_st hl, if_neg (fun z => hD ⟨hl, z⟩), if_neg (by omega), if_neg (by omega)]
      · have : a = L := by omega
        subst this
        rw [rd_end, if_pos rfl]
/-- the ranges that were noted -/
def Nt (Z : XS) (m : Nat) (u : Nat → Int32) : Prop := xm Z = nI m ∧ ∀ j, j < m → xb Z j = u (2 * j) ∧ xe Z j = u (2 * j + 1)
theorem nt_ok {Z : XS} {m : Nat} {u : Nat → Int32} {x y : Int32} (h : Nt Z m u) (hm : m < 30) : Nt (ntX Z m x y) (m + 1) (putU u m x y) := by
  unfold ntX
  rw [if_pos hm]
  refine ⟨rfl, fun j hj => ?_⟩
  show upd (xb Z) m x j = upd (upd u (2 * m) x) (2 * m + 1) y (2 * j) ∧ upd (xe Z) m y j = upd (upd u (2 * m) x) (2 * m + 1) y (2 * j + 1)
  unfold upd
  by_cases e : j = m
  · subst e
    rw [if_pos rfl, if_pos rfl, if_neg (by omega), if_pos rfl, if_pos rfl]
    exact ⟨rfl, rfl⟩
  · rw [if_neg e, if_neg e, if_neg (by omega), if_neg (by omega), if_neg (by omega), if_neg (by omega)]
    exact h.2 j (by omega)
/-- what comes of the reading -/
def Out (L : Nat) (E : Int32 × XS) (F : Int32 × Nat × Nat × (Nat → Int32)) : Prop := (F.1 = -5 ∧ E.1 = -1 ∧ F.2.2.1 ≤ 30 ∧ Nt E.2 F.2.2.1 F.2.2.2) ∨ (∃ q, q ≤ L ∧ F.1 = nI q ∧ E.1 = nI q)
/-- behind a number, where no second one can follow or none does -/
theorem rd_tail {f v : Int32} {s : Bool} {Z : XS} {m i d k : Nat} {u : Nat → Int32} {F0 : Int32} (hi : i ≤ L) (hd : 1 ≤ d) (hst : StpT c L i d v) (hm : m < 30) (hn : Nt Z m u) (h45 : s = false → signM c L i ≠ 45) (hF : F0 = if s = true then f else v)
    (ih : ∀ Z', Nt Z' (m + 1) (putU u m F0 v) → i < L → Out L (rdC c L (L - (i + 1)) (i + 1) 0 f 0 false Z' (m + 1)) (foL (signM c L) L k (i + 1) (m + 1) (putU u m F0 v))) :
    Out L (rdC c L (L - i) i d f v s Z m) (if L ≤ i then (-5, i, m + 1, putU u m F0 v) else if signM c L i = 44 then foL (signM c L) L k (i + 1) (m + 1) (putU u m F0 v) else (nI i, i, m + 1, putU u m F0 v)) := by
  subst hF
  rcases Nat.lt_or_ge i L with hl | hl
  · rw [if_neg (by omega), rd_st hl, sg_c hl]
    rw [sg_c hl] at h45
    by_cases hD : 48 ≤ c i ∧ c i ≤ 57
    · have hst2 : d = 4 ∨ (d = 1 ∧ v = 0) := hst.elim (fun z => absurd ⟨hl, hD⟩ z) id
      have h44 : ¬ c i = 44 := fun e => by rw [e] at hD; exact absurd hD.1 (by decide)
      rw [if_pos hD, if_pos hst2, if_neg h44]
      exact Or.inr ⟨i, hi, rfl, rfl⟩
    · have hn45 : ¬ (c i = 45 ∧ 0 < d ∧ s = false) := fun z => h45 z.2.2 z.1
      rw [if_neg hD, if_neg hn45]
      by_cases h44 : c i = 44
      · rw [if_pos ⟨h44, hd⟩, if_pos h44, show ntR m = m + 1 from if_pos hm]
        exact ih _ (nt_ok hn hm) hl
      · rw [if_neg (fun z => h44 z.1), if_neg h44]
        exact Or.inr ⟨i, hi, rfl, rfl⟩
  · have : i = L := by omega
    subst this
    rw [if_pos (Nat.le_refl _), rd_end, if_neg (by omega)]
    exact Or.inl ⟨rfl, rfl, by show m + 1 ≤ 30; omega, nt_ok hn hm⟩
theorem rd_fo (hL : L ≤ 60) : ∀ (k a m : Nat) (f : Int32) (Z : XS) (u : Nat → Int32), L - a < k → a ≤ L → 2 * m ≤ a → Nt Z m u → Out L (rdC c L (L - a) a 0 f 0 false Z m) (foL (signM c L) L k a m u)
  | 0, a, m, f, Z, u, hk, _, _, _ => absurd hk (Nat.not_lt_zero _)
  | k + 1, a, m, f, Z, u, hk, ha, hm, hn => by
    rw [foL]
    rcases rd_rn (c := c) (L := L) (f := f) (s := false) (Z := Z) (r := m) ha with ⟨e1, e2⟩ | ⟨i, d, x, e1, e2, e3, e4, e5, e6, e7⟩
    · rw [e1, e2, if_pos (by show (-1 : Int32) < 0; decide)]
      exact Or.inr ⟨a, ha, rfl, rfl⟩
    · have x0 : ¬ nI x < 0 := nI_pos e5
      rw [e1, e7]
      show Out L _ (if nI x < 0 then _ else _)
      rw [if_neg x0]
      by_cases h45 : signM c L i = 45
      · have et : to2 (signM c L) (nI x, i) = rn (signM c L) (i + 1) := if_pos h45
        have hl : i < L := sg_lt h45 (by decide)
        rw [et]
        have hst : rdC c L (L - i) i d f (nI x) false Z m = rdC c L (L - (i + 1)) (i + 1) 0 (nI x) 0 true Z m := by
          have h45' : c i = 45 := by rw [sg_c hl] at h45; exact h45
          rw [rd_st hl, if_neg (fun z => by rw [h45'] at z; exact absurd z.1 (by decide)), if_pos ⟨h45', e4, rfl⟩]
        rw [hst]
        rcases rd_rn (c := c) (L := L) (f := nI x) (s := true) (Z := Z) (r := m) (a := i + 1) (by omega) with ⟨g1, g2⟩ | ⟨i2, d2, x2, g1, g2, g3, g4, g5, g6, g7⟩
        · rw [g1, g2]
          show Out L _ (if (-1 : Int32) < 0 then _ else _)
          rw [if_pos (by decide)]
          exact Or.inr ⟨i + 1, by omega, rfl, rfl⟩
        · rw [g1, g7]
          show Out L _ (if nI x2 < 0 then _ else _)
          rw [if_neg (nI_pos g5)]
          exact rd_tail (s := true) (F0 := nI x) g3 g4 g6 (by omega) hn (fun z => absurd z (by decide)) rfl (fun Z' hZ hl2 => rd_fo hL k (i2 + 1) (m + 1) _ Z' _ (by omega) (by omega) (by omega) hZ)
      · have et : to2 (signM c L) (nI x, i) = (nI x, i) := if_neg h45
        rw [et]
        show Out L _ (if nI x < 0 then _ else _)
        rw [if_neg x0]
        by_cases hm30 : m < 30
        · exact rd_tail (s := false) (F0 := nI x) e3 e4 e6 hm30 hn (fun _ => h45) rfl (fun Z' hZ hl2 => rd_fo hL k (i + 1) (m + 1) _ Z' _ (by omega) (by omega) (by omega) hZ)
        · omega
end READ
theorem gv_all {b e : Nat → Int32} : ∀ u i, (∀ j, i ≤ j → j < i + u → inB (b j) 0 2047 = true ∧ inB (e j) 0 2047 = true ∧ b j ≤ e j) → gvC b e u i = true
  | 0, _, _ => rfl
  | u + 1, i, h => by
    rw [gvC, if_pos (h i (by omega) (by omega))]
    exact gv_all u (i + 1) (fun j h1 h2 => h j (by omega) (by omega))
theorem okA_all {u : Nat → Int32} : ∀ m, (∀ j, j < m → okB u j = true) → okA u m = true
  | 0, _ => rfl
  | m + 1, h => by
    rw [okA, okA_all m (fun j hj => h j (by omega)), h m (by omega)]; rfl
theorem ok_one {x y : Int32} : (inB x 0 2047 = true ∧ inB y 0 2047 = true ∧ x ≤ y) ↔ (inB x 0 2047 && inB y x 2047) = true := by
  rw [Bool.and_eq_true]
  constructor
  · intro ⟨h1, h2, h3⟩
    exact ⟨h1, decide_eq_true ⟨h3, (of_decide_eq_true h2).2⟩⟩
  · intro ⟨h1, h2⟩
    have h3 := of_decide_eq_true h2
    exact ⟨h1, decide_eq_true ⟨Int32.le_trans (of_decide_eq_true h1).1 h3.1, h3.2⟩, h3.1⟩
theorem gv_ok {Z : XS} {m : Nat} {u : Nat → Int32} (h : Nt Z m u) : gvC (xb Z) (xe Z) m 0 = okA u m := by
  have key : ∀ j, j < m → ((inB (xb Z j) 0 2047 = true ∧ inB (xe Z j) 0 2047 = true ∧ xb Z j ≤ xe Z j) ↔ okB u j = true) := by
    intro j hj
    rw [(h.2 j hj).1, (h.2 j hj).2]
    exact ok_one
  cases e : okA u m with
  | true => exact gv_all m 0 (fun j _ hj => (key j (by omega)).mpr (okA_at e (by omega)))
  | false =>
    cases e2 : gvC (xb Z) (xe Z) m 0 with
    | false => rfl
    | true =>
      rw [okA_all m (fun j hj => (key j hj).mp (gv_at0 e2 hj))] at e
      exact absurd e (by decide)
theorem rl_ok {s : Nat} {b e u : Nat → Int32} {m : Nat} (hb : ∀ j, j < m → b j = u (2 * j) ∧ e j = u (2 * j + 1)) (ho : okA u m = true) : ∀ (k j x : Nat) (f : FR) (g : Nat → Int32), j + k = m → Fl f g s → x + 2048 * k < 2 ^ 31 →
    Oth g (raL s u k j (nI x) g).1 s ∧ (((rlF b e k j (nI x) f).2.2 = false ∧ (rlF b e k j (nI x) f).2.1 = -3 ∧ (raL s u k j (nI x) g).2 = -1) ∨ ((rlF b e k j (nI x) f).2.2 = true ∧ (∃ y, y < 2 ^ 31 ∧ (rlF b e k j (nI x) f).2.1 = nI y) ∧ (raL s u k j (nI x) g).2 = (rlF b e k j (nI x) f).2.1 ∧ Fl (rlF b e k j (nI x) f).1 (raL s u k j (nI x) g).1 s))
  | 0, j, x, f, g, hk, h, hx => ⟨Oth.rf, Or.inr ⟨rfl, ⟨x, by omega, rfl⟩, rfl, h⟩⟩
  | k + 1, j, x, f, g, hk, h, hx => by
    have ho1 := okA_at ho (show j < m by omega)
    obtain ⟨h1, h2, h3⟩ := ok_one.mpr ho1
    obtain ⟨p, hp, ep⟩ := isN_of h1
    obtain ⟨q, hq, eq⟩ := isN_of h2
    rw [ep, eq] at h3
    have hpq := (nI_leI (by omega) (by omega)).mp h3
    rw [rlF, raL, (hb j (by omega)).1, (hb j (by omega)).2, ep, eq, ix_nI (by omega), ix_nI (by omega), if_neg (nI_pos (show x < 2 ^ 31 by omega))]
    obtain ⟨m1, m2⟩ := mv_ok (s := s) (c := true) (q + 1 - p) p 0 f g h (by omega) (by omega)
    rcases m2 with ⟨z1, z2⟩ | ⟨⟨y, hy, z1⟩, z2, z3⟩
    · rw [z1, z2, if_pos (by decide), if_pos (by decide), raL_neg (by decide)]
      exact ⟨m1, Or.inl ⟨rfl, rfl, rfl⟩⟩
    · rw [z2, z1, if_neg (nI_pos (show y < 2 ^ 31 by omega)), if_neg (nI_pos (show y < 2 ^ 31 by omega)), nI_add]
      obtain ⟨r1, r2⟩ := rl_ok hb ho k (j + 1) (x + y) _ _ (by omega) z3 (by omega)
      exact ⟨m1.tr r1, r2⟩
theorem a_read {X : XS} {Y : YS} {m t L : Nat} {sn : Bool} (h : Rel X Y m t sn L) (s : Int32) : Ok2 (rrX X t m L s) (rrP Y t L s) := by
  unfold rrX rrP
  rw [q_is h]
  by_cases c0 : isC m s = false
  · rw [if_pos c0, if_pos c0]
    exact Ok2.mk rfl h
  rw [if_neg c0, if_neg c0]
  obtain ⟨k, hk, rfl⟩ := isC_of h.1.2.1 (bF c0)
  rw [ix_nI (n := k) (by have := h.1.2.1; omega)]
  obtain ⟨h7, h8, h9, h10⟩ := h.2.2.2.1
  have esg : signM (yx Y) L = signM (xc X) L := by
    funext j
    unfold signM
    by_cases e : j < L
    · rw [if_pos e, if_pos e, h10 j e]
    · rw [if_neg e, if_neg e]
  rw [esg]
  have ho : Out L (rdX X L) (foL (signM (xc X) L) L 61 0 0 (yu Y)) := by
    have := rd_fo (c := xc X) h9 61 0 0 0 (xmS X 0) (yu Y) (by omega) (Nat.zero_le _) (by omega) ⟨rfl, fun j hj => absurd hj (Nat.not_lt_zero _)⟩
    rw [Nat.sub_zero] at this
    exact this
  obtain ⟨b, e, r, hr, eZ⟩ := rdX_ok X L
  generalize foL (signM (xc X) L) L 61 0 0 (yu Y) = F at ho ⊢
  unfold rrQ
  have hZ : ∀ Z : XS, (∃ b e r, Z = xmS (xeS (xbS X b) e) (nI r)) → Rel Z (rrY Y F) m t sn L := fun Z ⟨b, e, r, ez⟩ => by
    subst ez
    exact rel_now h ⟨fun _ _ _ => rfl, fun _ _ _ => rfl, rfl, rfl, rfl, rfl, rfl⟩ ⟨rfl, rfl, rfl, rfl, rfl, rfl⟩ h.1.1 h.1.2
  have hR := hZ (rdX X L).2 ⟨b, e, r, eZ⟩
  rcases ho with ⟨o1, o2, o3, o4⟩ | ⟨q, hq, o1, o2⟩
  · rw [o1, o2, if_neg (fun z => z rfl), if_neg (fun z => z rfl)]
    have er : ix (xm (rdX X L).2) = F.2.2.1 := by rw [o4.1, ix_nI (by omega)]
    rw [er]
    generalize (rdX X L).2 = Z at hR o4 ⊢
    unfold rrC
    rw [gv_ok o4]
    by_cases c1 : okA F.2.2.2 F.2.2.1 = false
    · rw [if_pos c1, if_pos c1]
      exact Ok2.mk rfl hR
    · rw [if_neg c1, if_neg c1]
      obtain ⟨r1, r2⟩ := rl_ok (s := k) o4.2 (bF c1) F.2.2.1 0 0 (cpF (Z.1 k) (Z.1 36)) (yn Y) (by omega) (fl_cp (rel_fl hR hk)) (by omega)
      rw [nI_00] at r1 r2
      unfold rrE rlZ
      rcases r2 with ⟨z1, z2, z3⟩ | ⟨z1, z2, z3, z4⟩
      · rw [if_pos z1]
        have e3 : (raL k F.2.2.2 F.2.2.1 0 0 (yn Y)).2 = -1 := z3
        rw [e3]
        unfold endsM
        rw [if_neg (by decide), if_neg (by decide)]
        refine Ok2.mk z2 (rel_y (rel_try hR _) ⟨rfl, rfl, rfl, rfl, rfl, rfl⟩ rfl)
      · have z1' : ¬ (rlF (xb Z) (xe Z) F.2.2.1 0 0 (cpF (Z.1 k) (Z.1 36))).2.2 = false := by rw [z1]; decide
        rw [if_neg z1']
        refine a_settle (rel_try hR _) hk (Yb := ytS (rrY Y F) (yn Y)) ⟨rfl, rfl, rfl, rfl, rfl, rfl⟩ rfl r1 (Or.inr ⟨?_, z3, ?_⟩)
        · exact z2
        · rw [xFi_at]
          exact z4
  · rw [o1, o2]
    have n5 : ¬ nI q = -5 := nI_m5 (by omega)
    have n1 : ¬ nI q = -1 := fun z => nI_pos (show q < 2 ^ 31 by omega) (by rw [z]; decide)
    rw [if_pos n5, if_pos n1]
    exact Ok2.mk rfl hR
