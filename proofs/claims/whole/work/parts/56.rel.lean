/-! The relation of both sides; the history -/
theorem hr_row {F : Nat → FR} {m : Nat} {g g' : Nat → Int32} (h : Hr F m g) (e : ∀ k, k < 451 → g' k = g k) : Hr F m g' := by
  have e2 : ∀ s w, s < 6 → w < 75 → ofN g' s w = ofN g s w := fun s w hs hw => e _ (by omega)
  refine ⟨h.1, by rw [e 0 (by omega)]; exact h.2.1, fun s hs => fl_row (h.2.2.1 s hs) (fun w hw => e2 s w (by have := h.1; omega) hw), fun s w h1 h2 h3 => by rw [e2 s w h2 h3]; exact h.2.2.2 s w h1 h2 h3⟩
theorem hr_feq {F F' : Nat → FR} {m : Nat} {g : Nat → Int32} (h : Hr F m g) (e : ∀ s, s < m → Feq (F s) (F' s)) : Hr F' m g := ⟨h.1, h.2.1, fun s hs => fl_feq (h.2.2.1 s hs) (e s hs), h.2.2.2⟩
theorem feq_rf (f : FR) : Feq f f := ⟨fun _ _ => rfl, fun _ _ => ⟨rfl, rfl, rfl⟩, rfl, rfl, rfl⟩
theorem hr_F {F F' : Nat → FR} {m : Nat} {g : Nat → Int32} (h : Hr F m g) (e : ∀ s, s < m → F' s = F s) : Hr F' m g := hr_feq h (fun s hs => by rw [e s hs]; exact feq_rf _)
/-- one set is another, the other sets' rows stay -/
theorem hr_set {F : Nat → FR} {m k : Nat} {g g' : Nat → Int32} {f : FR} (h : Hr F m g) (hk : k < m) (ho : Oth g g' k) (hf : Fl f g' k) : Hr (va_up F k f) m g' := by
  refine ⟨h.1, ho.1.trans h.2.1, fun s hs => ?_, fun s w h1 h2 h3 => by rw [ho.2 s w (by omega) h3]; exact h.2.2.2 s w h1 h2 h3⟩
  by_cases e : s = k
  · subst e
    rw [va_up_self]; exact hf
  · rw [va_up_ne _ _ e]
    exact fl_row (h.2.2.1 s hs) (fun w hw => ho.2 s w e hw)
def Pq (q : Nat → Nat) : Prop := (∀ j, q j < 4) ∧ ∀ i j, i < 4 → j < 4 → q i = q j → i = j
def Ps (X : XS) (p : Nat → Int32) (t : Nat) : Prop := xz X = nI t ∧ t ≤ 4 ∧ Pq (xq X) ∧ ∀ j, j < t → ∃ u, xh X (2 + xq X j) = nI u ∧ Hr (hF X (2 + xq X j)) u (fun k => p (j * 451 + k))
def Sn (X : XS) (Y : YS) (sn : Bool) : Prop := xn X = bI sn ∧ yi Y = bI sn ∧ (sn = true → ∃ u, xh X 1 = nI u ∧ Hr (hF X 1) u (yk Y))
def Tx (X : XS) (Y : YS) (L : Nat) : Prop := xl X = nI L ∧ yy Y = nI L ∧ L ≤ 60 ∧ ∀ j, j < L → xc X j = yx Y j
def Hh (X : XS) : Prop := ∀ h, h < 6 → ∃ u, u ≤ 6 ∧ xh X h = nI u
def Rel (X : XS) (Y : YS) (m t : Nat) (sn : Bool) (L : Nat) : Prop := (xh X 0 = nI m ∧ Hr X.1 m (yn Y)) ∧ (Ps X (yp Y) t ∧ yz Y = nI t) ∧ Sn X Y sn ∧ Tx X Y L ∧ Hh X
theorem ps_cong {X X' : XS} {p : Nat → Int32} {t : Nat} (h : Ps X p t) (e1 : xz X' = xz X) (e2 : xq X' = xq X) (e3 : ∀ h, 2 ≤ h → h < 6 → xh X' h = xh X h) (e4 : ∀ i, 12 ≤ i → i < 36 → X'.1 i = X.1 i) : Ps X' p t := by
  obtain ⟨h1, h2, h3, h4⟩ := h
  refine ⟨e1.trans h1, h2, by rw [e2]; exact h3, fun j hj => ?_⟩
  obtain ⟨u, h5, h6⟩ := h4 j hj
  have hq := h3.1 j
  rw [e2]
  refine ⟨u, by rw [e3 _ (by omega) (by omega)]; exact h5, hr_F h6 (fun s hs => e4 _ (by omega) (by have := h6.1; omega))⟩
theorem pushA_ok {X : XS} {p st : Nat → Int32} {t m : Nat} (h : Ps X p t) (ht : t < 4) (hr : Hr X.1 m st) : Ps (pushA X t m) (cpyK st p 0 (t * 451) 451) (t + 1) := by
  obtain ⟨h1, h2, h3, h4⟩ := h
  have hq := h3.1
  refine ⟨rfl, by omega, h3, fun j hj => ?_⟩
  show ∃ u, xh (cpH X (2 + xq X t) 0 m m) (2 + xq X j) = nI u ∧ Hr (hF (cpH X (2 + xq X t) 0 m m) (2 + xq X j)) u _
  have ht4 := hq t
  have hj4 := hq j
  by_cases e : j = t
  · subst e
    refine ⟨m, cpH_h, ?_⟩
    refine hr_row (g := st) ?_ (fun k hk => ?_)
    · refine hr_feq hr (fun s hs => ?_)
      show Feq _ (if 6 * (2 + xq X j) ≤ 6 * (2 + xq X j) + s ∧ 6 * (2 + xq X j) + s < 6 * (2 + xq X j) + m then cpF (X.1 (6 * 0 + (6 * (2 + xq X j) + s - 6 * (2 + xq X j)))) (X.1 (6 * (2 + xq X j) + s)) else _)
      rw [if_pos (by omega), show 6 * 0 + (6 * (2 + xq X j) + s - 6 * (2 + xq X j)) = s by omega]
      exact feq_cp _ _
    · show cpyK st p 0 (j * 451) 451 (j * 451 + k) = st k
      rw [cpyK_in (by omega)]
      congr 1; omega
  · obtain ⟨u, h5, h6⟩ := h4 j (by omega)
    have hne : xq X j ≠ xq X t := fun z => e (h3.2 j t (by omega) ht z)
    refine ⟨u, by rw [cpH_hne (by omega)]; exact h5, ?_⟩
    refine hr_row (g := fun k => p (j * 451 + k)) (hr_F h6 (fun s hs => ?_)) (fun k hk => ?_)
    · have := h6.1
      show (if 6 * (2 + xq X t) ≤ 6 * (2 + xq X j) + s ∧ 6 * (2 + xq X j) + s < 6 * (2 + xq X t) + m then _ else X.1 (6 * (2 + xq X j) + s)) = _
      have := hr.1
      rw [if_neg (by omega)]
    · show cpyK st p 0 (t * 451) 451 (j * 451 + k) = p (j * 451 + k)
      rw [cpyK_out (by omega)]
theorem drop_ok {X : XS} {p : Nat → Int32} (h : Ps X p 4) : Ps (dropX X) (shK p 1353) 3 := by
  obtain ⟨h1, h2, h3, h4⟩ := h
  have eq : ∀ j, xq (dropX X) j = if j = 3 then xq X 0 else if j + 1 < 4 then xq X (j + 1) else xq X j := by
    intro j
    show va_up (rotK (xq X) 4) 3 (xq X 0) j = _
    unfold va_up rotK
    rfl
  refine ⟨rfl, by omega, ⟨dropX_lt h3.1, fun i j hi hj e => ?_⟩, fun j hj => ?_⟩
  · rw [eq i, eq j] at e
    have inj := h3.2
    rcases (show i = 0 ∨ i = 1 ∨ i = 2 ∨ i = 3 by omega) with rfl | rfl | rfl | rfl <;> rcases (show j = 0 ∨ j = 1 ∨ j = 2 ∨ j = 3 by omega) with rfl | rfl | rfl | rfl <;> first | rfl | exact absurd (inj _ _ (by decide) (by decide) e) (by decide)
  · obtain ⟨u, h5, h6⟩ := h4 (j + 1) (by omega)
    rw [eq j, if_neg (by omega), if_pos (by omega)]
    refine ⟨u, h5, hr_row (g := fun k => p ((j + 1) * 451 + k)) h6 (fun k hk => ?_)⟩
    show shK p 1353 (j * 451 + k) = p ((j + 1) * 451 + k)
    unfold shK
    rw [if_pos (by omega), show j * 451 + k + 451 = (j + 1) * 451 + k by omega]
theorem push_ok {X : XS} {p st : Nat → Int32} {t m : Nat} (h : Ps X p t) (hr : Hr X.1 m st) : Ps (pushX X t m) (pushN p st t) (pushZ t) := by
  unfold pushX pushN pushZ
  have h4 := h.2.1
  by_cases e : t = 4
  · subst e
    rw [if_neg (by omega), if_pos rfl, if_pos rfl]
    exact pushA_ok (drop_ok h) (by omega) hr
  · rw [if_pos (by omega), if_neg e, if_neg e]
    exact pushA_ok h (by omega) hr
/-- what a push leaves -/
theorem push_o {X : XS} {t m : Nat} : xn (pushX X t m) = xn X ∧ xc (pushX X t m) = xc X ∧ xl (pushX X t m) = xl X := by
  unfold pushX
  split <;> exact ⟨rfl, rfl, rfl⟩
theorem push_hh {X : XS} {t m : Nat} (h : Hh X) (hm : m ≤ 6) : Hh (pushX X t m) := by
  have key : ∀ (Z : XS) (t : Nat), Hh Z → Hh (pushA Z t m) := fun Z t hz h' hh' => by
    show ∃ u, u ≤ 6 ∧ va_up (xh Z) (2 + xq Z t) (nI m) h' = nI u
    by_cases e : h' = 2 + xq Z t
    · rw [e, va_up_self]; exact ⟨m, hm, rfl⟩
    · rw [va_up_ne _ _ e]; exact hz h' hh'
  unfold pushX
  split
  · exact key X t h
  · exact key (dropX X) 3 h
/-- but for the sets that are now, and the trial, nothing changed -/
def Ot (X X' : XS) : Prop := (∀ i, 6 ≤ i → i < 36 → X'.1 i = X.1 i) ∧ (∀ h, 1 ≤ h → h < 6 → xh X' h = xh X h) ∧ xq X' = xq X ∧ xz X' = xz X ∧ xn X' = xn X ∧ xc X' = xc X ∧ xl X' = xl X
def OtY (Y Y' : YS) : Prop := yp Y' = yp Y ∧ yz Y' = yz Y ∧ yk Y' = yk Y ∧ yi Y' = yi Y ∧ yx Y' = yx Y ∧ yy Y' = yy Y
theorem Ot.rf {X : XS} : Ot X X := ⟨fun _ _ _ => rfl, fun _ _ _ => rfl, rfl, rfl, rfl, rfl, rfl⟩
theorem OtY.rf {Y : YS} : OtY Y Y := ⟨rfl, rfl, rfl, rfl, rfl, rfl⟩
theorem Ot.tr {X X' X'' : XS} (h : Ot X X') (h' : Ot X' X'') : Ot X X'' := ⟨fun i a b => (h'.1 i a b).trans (h.1 i a b), fun i a b => (h'.2.1 i a b).trans (h.2.1 i a b), h'.2.2.1.trans h.2.2.1, h'.2.2.2.1.trans h.2.2.2.1, h'.2.2.2.2.1.trans h.2.2.2.2.1, h'.2.2.2.2.2.1.trans h.2.2.2.2.2.1, h'.2.2.2.2.2.2.trans h.2.2.2.2.2.2⟩
theorem Ot.fi {X : XS} {i : Nat} {f : FR} (hi : i < 6 ∨ i = 36) : Ot X (xFi X i f) := ⟨fun j h1 h2 => xFi_ne X f (by omega), fun _ _ _ => rfl, rfl, rfl, rfl, rfl, rfl⟩
theorem rel_now {X X' : XS} {Y Y' : YS} {m m' t L : Nat} {sn : Bool} (h : Rel X Y m t sn L) (o : Ot X X') (oy : OtY Y Y') (h0 : xh X' 0 = nI m') (hr : Hr X'.1 m' (yn Y')) : Rel X' Y' m' t sn L := by
  obtain ⟨-, ⟨h2, h3⟩, ⟨h4, h5, h6⟩, ⟨h7, h8, h9, h10⟩, h11⟩ := h
  obtain ⟨o1, o2, o3, o4, o5, o6, o7⟩ := o
  obtain ⟨y1, y2, y3, y4, y5, y6⟩ := oy
  refine ⟨⟨h0, hr⟩, ⟨?_, by rw [y2]; exact h3⟩, ⟨by rw [o5]; exact h4, by rw [y4]; exact h5, fun e => ?_⟩, ⟨by rw [o7]; exact h7, by rw [y6]; exact h8, h9, fun j hj => by rw [o6, y5]; exact h10 j hj⟩, fun k hk => ?_⟩
  · rw [y1]
    exact ps_cong h2 o4 o3 (fun k a b => o2 k (by omega) b) (fun i a b => o1 i (by omega) b)
  · obtain ⟨u, u1, u2⟩ := h6 e
    refine ⟨u, by rw [o2 1 (by omega) (by omega)]; exact u1, ?_⟩
    rw [y3]
    exact hr_F u2 (fun s hs => o1 _ (by omega) (by have := u2.1; omega))
  · by_cases e : k = 0
    · subst e
      exact ⟨m', hr.1, h0⟩
    · rw [o2 k (by omega) hk]
      exact h11 k hk
theorem rel_push {X : XS} {Y : YS} {m t L : Nat} {sn : Bool} (h : Rel X Y m t sn L) : Rel (pushX X t m) (recM Y (yn Y) t) m (pushZ t) sn L := by
  obtain ⟨⟨h0, h1⟩, ⟨h2, h3⟩, ⟨h4, h5, h6⟩, ⟨h7, h8, h9, h10⟩, h11⟩ := h
  obtain ⟨p1, p2, p3⟩ := push_o (X := X) (t := t) (m := m)
  have hq := h2.2.2.1.1
  have hm := h1.1
  refine ⟨⟨by rw [push_h (by omega)]; exact h0, hr_F h1 (fun s hs => push_f hq hm (by omega))⟩, ⟨push_ok h2 h1, rfl⟩, ⟨by rw [p1]; exact h4, h5, fun e => ?_⟩, ⟨by rw [p3]; exact h7, h8, h9, fun j hj => by rw [p2]; exact h10 j hj⟩, push_hh h11 hm⟩
  obtain ⟨u, u1, u2⟩ := h6 e
  exact ⟨u, by rw [push_h (by omega)]; exact u1, hr_F u2 (fun s hs => push_f hq hm (by have := u2.1; omega))⟩
/-- an act that changes one set: the state is recorded, the set is another -/
theorem rel_act {X : XS} {Y Y' : YS} {m t L k : Nat} {sn : Bool} {f : FR} (h : Rel X Y m t sn L) (hk : k < m) (oy : OtY (recM Y (yn Y) t) Y') (ho : Oth (yn Y) (yn Y') k) (hf : Fl f (yn Y') k) : Rel (xFi (pushX X t m) k f) Y' m (pushZ t) sn L := by
  have hp := rel_push h
  have hm := h.1.2.1
  exact rel_now hp (Ot.fi (by omega)) oy hp.1.1 (hr_set hp.1.2 hk ho hf)
theorem rel_fl {X : XS} {Y : YS} {m t L k : Nat} {sn : Bool} (h : Rel X Y m t sn L) (hk : k < m) : Fl (X.1 k) (yn Y) k := h.1.2.2.2.1 k hk
theorem rel_try {X : XS} {Y : YS} {m t L : Nat} {sn : Bool} (h : Rel X Y m t sn L) (f : FR) : Rel (xFi X 36 f) Y m t sn L := by
  refine rel_now h (Ot.fi (by omega)) OtY.rf h.1.1 (hr_F h.1.2 (fun s hs => xFi_ne X f (by have := h.1.2.1; omega)))
theorem rel_y {X : XS} {Y Y' : YS} {m t L : Nat} {sn : Bool} (h : Rel X Y m t sn L) (oy : OtY Y Y') (e : yn Y' = yn Y) : Rel X Y' m t sn L := rel_now h Ot.rf oy h.1.1 (by rw [e]; exact h.1.2)
-- what is told
theorem q_is {X : XS} {Y : YS} {m t L : Nat} {sn : Bool} (h : Rel X Y m t sn L) (s : Int32) : isSBm (yn Y) s = isC m s := hr_is h.1.2 s
theorem bF {b : Bool} (h : ¬ b = false) : b = true := by revert h; cases b <;> simp
section QUERIES
variable {X : XS} {Y : YS} {m t L : Nat} {sn : Bool}
theorem q_has (h : Rel X Y m t sn L) (s n : Int32) : hasC X m s n = hasM (yn Y) s n := by
  unfold hasC hasM
  rw [q_is h]
  by_cases c : isC m s = false
  · rw [if_pos c, if_pos c]
  · rw [if_neg c, if_neg c]
    obtain ⟨k, hk, rfl⟩ := isC_of h.1.2.1 (bF c)
    rw [ix_nI (by have := h.1.2.1; omega)]
    by_cases c2 : inB n 0 2047 = false
    · rw [if_pos c2, if_pos c2]
    · rw [if_neg c2, if_neg c2]
      obtain ⟨j, hj, rfl⟩ := isN_of (bF c2)
      rw [ix_nI (by omega), (rel_fl h hk).1.2.2.1 j hj]
theorem q_rank (h : Rel X Y m t sn L) (s n : Int32) : rankC X m s n = rankM (yn Y) s n := by
  unfold rankC rankM
  rw [q_is h]
  by_cases c : isC m s = false
  · rw [if_pos c, if_pos c]
  · rw [if_neg c, if_neg c]
    obtain ⟨k, hk, rfl⟩ := isC_of h.1.2.1 (bF c)
    rw [ix_nI (by have := h.1.2.1; omega)]
    by_cases c2 : inB n 0 2047 = false
    · rw [if_pos c2, if_pos c2]
    · rw [if_neg c2, if_neg c2]
      obtain ⟨j, hj, rfl⟩ := isN_of (bF c2)
      rw [ix_nI (by omega), rk_cnt, fl_cnt (rel_fl h hk) (by omega)]
theorem q_at (h : Rel X Y m t sn L) (s n : Int32) : placeC X m s n = atM (yn Y) s n := by
  unfold placeC atM
  rw [q_is h]
  by_cases c : isC m s = false
  · rw [if_pos c, if_pos c]
  · rw [if_neg c, if_neg c]
    obtain ⟨k, hk, rfl⟩ := isC_of h.1.2.1 (bF c)
    rw [ix_nI (by have := h.1.2.1; omega)]
    by_cases c2 : n < 0
    · rw [if_pos c2, if_pos c2]
    · rw [if_neg c2, if_neg c2]
      obtain ⟨j, hj, rfl⟩ := nI_of c2
      have h1 := atI_sel (fw (X.1 k)) hj
      have h2 := atN_sel (mb (yn Y) k) (N := 2048) 2048 0 j rfl hj
      rw [show cnt (mb (yn Y) k) 0 0 = 0 from rfl, Nat.zero_add] at h2
      exact h1.one (h2.cong (fun j hj => (rel_fl h hk).1.2.2.1 j hj))
theorem q_next (h : Rel X Y m t sn L) (s n : Int32) : nextC X m s n = nextM (yn Y) s n := by
  unfold nextC nextM
  rw [q_is h]
  by_cases c : isC m s = false
  · rw [if_pos c, if_pos c]
  · rw [if_neg c, if_neg c]
    obtain ⟨k, hk, rfl⟩ := isC_of h.1.2.1 (bF c)
    rw [ix_nI (by have := h.1.2.1; omega)]
    by_cases c2 : inB n 0 2047 = false
    · rw [if_pos c2, if_pos c2]
    · rw [if_neg c2, if_neg c2]
      obtain ⟨j, hj, rfl⟩ := isN_of (bF c2)
      rw [ix_nI (by omega), rk_cnt, at_up (rel_fl h hk) (by omega)]
theorem q_near (h : Rel X Y m t sn L) (s n : Int32) : nearC X m s n = nearM (yn Y) s n := by
  unfold nearC nearM
  rw [q_is h]
  by_cases c : isC m s = false
  · rw [if_pos c, if_pos c]
  · rw [if_neg c, if_neg c]
    obtain ⟨k, hk, rfl⟩ := isC_of h.1.2.1 (bF c)
    rw [ix_nI (by have := h.1.2.1; omega)]
    by_cases c2 : inB n 0 2047 = false
    · rw [if_pos c2, if_pos c2]
    · rw [if_neg c2, if_neg c2]
      obtain ⟨j, hj, rfl⟩ := isN_of (bF c2)
      rw [ix_nI (by omega), rk_cnt]
      exact near_ok (rel_fl h hk) hj
theorem q_gap (h : Rel X Y m t sn L) (s n : Int32) : gapC X m s n = gapM (yn Y) s n := by
  unfold gapC gapM
  rw [q_is h]
  by_cases c : isC m s = false
  · rw [if_pos c, if_pos c]
  · rw [if_neg c, if_neg c]
    obtain ⟨k, hk, rfl⟩ := isC_of h.1.2.1 (bF c)
    rw [ix_nI (by have := h.1.2.1; omega)]
    by_cases c2 : n < 1 ∨ 2048 < n
    · have e : inB n 1 2048 = false := c2.elim inB_lt inB_gt
      rw [if_pos c2, if_pos e]
    · have e : inB n 1 2048 = true := inB_in (fun z => c2 (Or.inl z)) (fun z => c2 (Or.inr z))
      rw [if_neg c2, if_neg (by rw [e]; decide)]
      obtain ⟨j, h1, h2, rfl⟩ := in1_of (hi := 2048) e (by omega)
      rw [ix_nI (by omega)]
      exact gap_ok _ _ (fun n hn => ((rel_fl h hk).1.2.2.1 n hn).symm) h1 h2 2048 0 0 rfl (Nat.le_refl _) (by omega)
theorem q_set (h : Rel X Y m t sn L) (s n : Int32) : setC X m s n = setM (yn Y) s n := by
  unfold setM
  rw [q_is h]
  by_cases c : isC m s = false
  · rw [if_pos c]
    exact if_pos c
  · rw [if_neg c]
    obtain ⟨k, hk, rfl⟩ := isC_of h.1.2.1 (bF c)
    have e := set_ok (rel_fl h hk) n
    rw [← ix_nI (n := k) (by have := h.1.2.1; omega)] at e
    rw [ix_nI (n := k) (by have := h.1.2.1; omega)] at e ⊢
    rw [← e]
    unfold setC
    rw [if_neg c, ix_nI (n := k) (by have := h.1.2.1; omega)]
    rfl
theorem q_boat (h : Rel X Y m t sn L) (s b n : Int32) : boatC X m s b n = boatM (yn Y) s b n := by
  unfold boatC boatM
  rw [q_is h]
  by_cases c : isC m s = false
  · rw [if_pos c, if_pos c]
  · rw [if_neg c, if_neg c]
    obtain ⟨k, hk, rfl⟩ := isC_of h.1.2.1 (bF c)
    rw [ix_nI (by have := h.1.2.1; omega)]
    have i7 : ∀ x : Int32, 8 ≤ x → (7 : Int32) < x := fun x hx => Int32.lt_of_lt_of_le (by decide) hx
    by_cases c1 : b < 0
    · rw [if_pos (Or.inl c1), if_pos (inB_lt c1)]
    by_cases c2 : 8 ≤ b
    · rw [if_pos (Or.inr (Or.inl c2)), if_pos (inB_gt (i7 b c2))]
    obtain ⟨q, hq, rfl⟩ := lt8_of c1 c2
    have e1 : ¬ inB (nI q) 0 7 = false := by
      rw [show inB (nI q) 0 7 = true from decide_eq_true ⟨nI_pos' (by omega), (nI_leI (b := 7) (by omega) (by decide)).mpr (by omega)⟩]
      decide
    rw [if_neg e1]
    by_cases c3 : n < 0
    · rw [if_pos (Or.inr (Or.inr (Or.inl c3))), if_pos (inB_lt c3)]
    by_cases c4 : 5 < n
    · rw [if_pos (Or.inr (Or.inr (Or.inr c4))), if_pos (inB_gt c4)]
    have e5 : ¬ inB n 0 5 = false := by rw [inB_in c3 c4]; decide
    rw [if_neg (fun z => z.elim c1 (fun z => z.elim c2 (fun z => z.elim c3 c4))), if_neg e5, ix_nI (by omega)]
    have f := rel_fl h hk
    by_cases c5 : cm (fw (X.1 k)) q = 0
    · rw [if_pos ((fs_0 f.1.1 hq).mpr c5), if_pos ((kind_n f hq).mpr c5)]
    · rw [if_neg (fun z => c5 ((fs_0 f.1.1 hq).mp z)), if_neg (fun z => c5 ((kind_n f hq).mp z))]
      exact boat_ok f hq c5 n
theorem q_all (h : Rel X Y m t sn L) (n : Int32) : allC X m n = ofAllM (yn Y) m n := by
  unfold allC ofAllM
  by_cases c : n < 0
  · rw [if_pos c, if_pos c]
  · rw [if_neg c, if_neg c]
    obtain ⟨j, hj, rfl⟩ := nI_of c
    have hF0 : ∀ s, s < m → Fl (hF X 0 s) (yn Y) s := fun s hs => by
      show Fl (X.1 (6 * 0 + s)) _ _
      rw [show 6 * 0 + s = s by omega]
      exact rel_fl h hs
    exact all_ok h.1.2.1 hF0 hj
theorem hF_0 (X : XS) : hF X 0 = X.1 := by
  funext j
  show X.1 (6 * 0 + j) = X.1 j
  rw [show 6 * 0 + j = j by omega]
theorem q_most (h : Rel X Y m t sn L) : mhO (hF X 0) m 32 0 (-5) 0 = (mostN (swN (yn Y) m) 2048).1 := by
  rw [hF_0]
  exact most_ok h.1.2.2.2.1
theorem q_size (h : Rel X Y m t sn L) (how s o : Int32) : sizeC X m how s o = (sizeP Y how s o).1 ∧ Rel X (sizeP Y how s o).2 m t sn L := by
  unfold sizeC sizeP
  rw [q_is h, q_is h]
  by_cases c : isC m s = false
  · rw [if_pos (Or.inl c), if_pos c]
    exact ⟨rfl, h⟩
  by_cases c2 : isC m o = false
  · rw [if_pos (Or.inr c2), if_neg c, if_pos c2]
    exact ⟨rfl, h⟩
  rw [if_neg (fun z => z.elim c c2), if_neg c, if_neg c2]
  by_cases c3 : inB how 0 3 = false
  · rw [if_pos c3, if_pos c3]
    exact ⟨rfl, h⟩
  rw [if_neg c3, if_neg c3]
  obtain ⟨k, hk, rfl⟩ := isC_of h.1.2.1 (bF c)
  obtain ⟨k2, hk2, rfl⟩ := isC_of h.1.2.1 (bF c2)
  rw [ix_nI (by have := h.1.2.1; omega), ix_nI (by have := h.1.2.1; omega)]
  refine ⟨?_, rel_y h ⟨rfl, rfl, rfl, rfl, rfl, rfl⟩ rfl⟩
  rw [size_ok (rel_fl h hk) (rel_fl h hk2) (bF c3)]
theorem q_count (h : Rel X Y m t sn L) (n : Int32) : cntC X m t L n = countM Y m n := by
  have f : ∀ s, s < m → Fl (X.1 s) (yn Y) s := h.1.2.2.2.1
  have ov : ∀ (what : Int32) (v : Nat → Int32), what < 20 → (∀ s, s < m → v s = setF (X.1 s) what) → sumI v m = ovN (yn Y) what m := fun what v hw hv => ov_ok (F := X.1) (fun s hs => by rw [if_pos hw, hv s hs, set_ok (f s hs)])
  have ob : ∀ (k what : Int32) (v : Nat → Int32), ¬ what < 20 → what - 20 = k → ¬ k = -1 → (∀ s, s < m → v s = bkC (X.1 s) k 8) → sumI v m = ovN (yn Y) what m := fun k what v hw e hk hv => ov_ok (F := X.1) (fun s hs => by rw [if_neg hw, hv s hs, e, bk_kb (f s hs) hk 8 (Nat.le_refl _)])
  unfold cntC countM
  rw [hF_0]
  by_cases c0 : n = 0
  · rw [if_pos c0, if_pos c0]
  rw [if_neg c0, if_neg c0]
  by_cases c1 : n = 1
  · rw [if_pos c1, if_pos c1]
    exact ov 4 _ (by decide) (fun s hs => rfl)
  rw [if_neg c1, if_neg c1]
  by_cases c2 : n = 2
  · rw [if_pos c2, if_pos (Or.inl c2), c2]
    exact ob 0 (18 + 2) _ (by decide) (by decide) (by decide) (fun s hs => rfl)
  rw [if_neg c2]
  by_cases c3 : n = 3
  · rw [if_pos c3, if_pos (Or.inr (Or.inl c3)), c3]
    exact ob 1 (18 + 3) _ (by decide) (by decide) (by decide) (fun s hs => rfl)
  rw [if_neg c3]
  by_cases c4 : n = 4
  · rw [if_pos c4, if_pos (Or.inr (Or.inr c4)), c4]
    exact ob 2 (18 + 4) _ (by decide) (by decide) (by decide) (fun s hs => rfl)
  have e234 : ¬ (n = 2 ∨ n = 3 ∨ n = 4) := fun z => z.elim c2 (fun z => z.elim c3 c4)
  rw [if_neg c4, if_neg e234]
  by_cases c5 : n = 5
  · rw [if_pos c5, if_pos c5]
    exact ov 2 _ (by decide) (fun s hs => rfl)
  rw [if_neg c5, if_neg c5]
  by_cases c6 : n = 6
  · rw [if_pos c6, if_pos c6]
    exact ov 0 _ (by decide) (fun s hs => rfl)
  rw [if_neg c6, if_neg c6]
  by_cases c7 : n = 7
  · rw [if_pos c7, if_pos c7, diff_ok f]
  rw [if_neg c7, if_neg c7]
  by_cases c8 : n = 8
  · rw [if_pos c8, if_pos c8]
    exact ov 5 _ (by decide) (fun s hs => rfl)
  rw [if_neg c8, if_neg c8]
  by_cases c9 : n = 9
  · rw [if_pos c9, if_pos c9, h.2.1.2]
  rw [if_neg c9, if_neg c9]
  by_cases c10 : n = 10
  · rw [if_pos c10, if_pos c10, h.2.2.2.1.2.1]
  rw [if_neg c10, if_neg c10]
end QUERIES
