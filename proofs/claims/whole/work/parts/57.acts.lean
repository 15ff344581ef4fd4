/-! The acts: both sides answer the same, and the relation stays -/
def Ok2 (E : Int32 × XS) (D : Int32 × YS) : Prop := E.1 = D.1 ∧ ∃ m t sn L, Rel E.2 D.2 m t sn L
theorem Ok2.mk {E : Int32 × XS} {D : Int32 × YS} {m t L : Nat} {sn : Bool} (h1 : E.1 = D.1) (h2 : Rel E.2 D.2 m t sn L) : Ok2 E D := ⟨h1, m, t, sn, L, h2⟩
theorem fl_p {f : FR} {g : Nat → Int32} {s : Nat} (h : Fl f g s) (v : Int32) : Fl (fpS f v) (layN g s 0 v) s := by
  obtain ⟨⟨h1, h2, h3, h4, h5⟩, h6⟩ := h
  refine ⟨⟨h1, h2, fun n hn => ?_, ⟨?_, ?_, ?_⟩, fun b hb => ?_⟩, h6⟩
  · rw [mb_lay (by omega) hn]; exact h3 n hn
  · rw [of_lay1]
  · rw [of_lay2 (by omega) (by omega) (by omega)]; exact h4.2.1
  · rw [of_lay2 (by omega) (by omega) (by omega)]; exact h4.2.2
  · show ofN _ s (3 + b) = _
    rw [of_lay2 (by omega) (by omega) (by omega)]; exact h5 b hb
theorem fl_a {f : FR} {g : Nat → Int32} {s : Nat} (h : Fl f g s) (v : Bool) : Fl (faS f v) (layN g s 1 (bI v)) s := by
  obtain ⟨⟨h1, h2, h3, h4, h5⟩, h6⟩ := h
  refine ⟨⟨h1, h2, fun n hn => ?_, ⟨?_, ?_, ?_⟩, fun b hb => ?_⟩, h6⟩
  · rw [mb_lay (by omega) hn]; exact h3 n hn
  · rw [of_lay2 (by omega) (by omega) (by omega)]; exact h4.1
  · rw [of_lay2 (by omega) (by omega) (by omega)]; exact h4.2.1
  · rw [of_lay1]
  · show ofN _ s (3 + b) = _
    rw [of_lay2 (by omega) (by omega) (by omega)]; exact h5 b hb
theorem fl_new {f : FR} {g : Nat → Int32} {s : Nat} {c : Int32} (h : ∀ w, w < 75 → ofN g s w = if w = 0 then c else 0) : Fl (bgF f c) g s := by
  obtain ⟨w1, w2⟩ := fill_ok f (fun _ => false)
  have z : ∀ j, j < 2048 → fbit (fw (fillF f)) j = false := fun j hj => by rw [w2 j hj]; rfl
  have k0 : ∀ b, b < 8 → fk (bgF f c) b = 0 := fun b hb => if_pos hb
  have c0 : ∀ b, b < 8 → cm (fw (bgF f c)) b = 0 := fun b hb => cnt_z 256 (fun j hj => z _ (by omega))
  refine ⟨⟨w1, fun b hb => Or.inl (k0 b hb), fun n hn => ?_, ⟨?_, ?_, ?_⟩, fun b hb => ?_⟩, fun b hb => ⟨fun _ => k0 b hb, fun e => ?_⟩⟩
  · show mb g s n = fbit (fw (fillF f)) n
    rw [z n hn]
    unfold mb
    rw [h _ (by omega), if_neg (by omega), b_0]
  · rw [h 0 (by omega), if_pos rfl]; rfl
  · rw [h 2 (by omega), if_neg (by omega)]; rfl
  · rw [h 1 (by omega), if_neg (by omega)]; rfl
  · unfold Rk
    rw [h _ (by omega), if_neg (by omega), if_pos (c0 b hb)]
  · rw [k0 b hb] at e
    exact absurd e (by decide)
theorem of_upd0 {g : Nat → Int32} {v : Int32} {s w : Nat} : ofN (upd g 0 v) s w = ofN g s w := by
  unfold ofN upd
  rw [if_neg (by omega)]
section ACTS
variable {X : XS} {Y : YS} {m t L : Nat} {sn : Bool}
theorem a_new (h : Rel X Y m t sn L) (c : Int32) : Ok2 (nsX X t m c) (newP Y m t c) := by
  unfold nsX newP
  have hm := h.1.2.1
  by_cases c1 : c < 0 ∨ 9999 < c
  · rw [if_pos c1, if_pos (c1.elim inB_lt inB_gt)]
    exact Ok2.mk rfl h
  · have e1 : ¬ inB c 0 9999 = false := by rw [inB_in (fun z => c1 (Or.inl z)) (fun z => c1 (Or.inr z))]; decide
    rw [if_neg c1, if_neg e1]
    by_cases c2 : m = 6
    · rw [if_pos c2, if_neg (by omega)]
      exact Ok2.mk rfl h
    · have c3 : m < 6 := by omega
      rw [if_neg c2, if_pos c3]
      have hp := rel_push h
      refine Ok2.mk (m := m + 1) (t := pushZ t) (sn := sn) (L := L) rfl ?_
      have e0 : 6 * 0 + m = m := by omega
      refine rel_now hp (X' := opH (pushX X t m) 0 m c) ⟨fun i h1 h2 => ?_, fun k h1 h2 => ?_, rfl, rfl, rfl, rfl, rfl⟩ ⟨rfl, rfl, rfl, rfl, rfl, rfl⟩ (show va_up (xh (pushX X t m)) 0 (nI (m + 1)) 0 = nI (m + 1) from va_up_self _ _ _) ⟨by omega, rfl, fun s hs => ?_, fun s w h1 h2 h3 => ?_⟩
      · show (xFi (pushX X t m) (6 * 0 + m) _).1 i = _
        exact xFi_ne _ _ (by omega)
      · show va_up (xh (pushX X t m)) 0 _ k = _
        exact va_up_ne _ _ (by omega)
      · show Fl ((xFi (pushX X t m) (6 * 0 + m) (bgF (hF (pushX X t m) 0 m) c)).1 s) (upd (layN (yn Y) m 0 c) 0 (nI (m + 1))) s
        rw [e0]
        by_cases e : s = m
        · subst e
          rw [xFi_at]
          refine fl_new (fun w hw => ?_)
          rw [of_upd0, of_lay (by omega) hw]
          by_cases e2 : w = 0
          · rw [if_pos ⟨rfl, e2⟩, if_pos e2]
          · rw [if_neg (fun z => e2 z.2), if_neg e2]
            exact h.1.2.2.2.2 s w (Nat.le_refl _) c3 hw
        · rw [xFi_ne _ _ e]
          exact fl_row (hp.1.2.2.2.1 s (by omega)) (fun w hw => by
            rw [of_upd0, of_lay2 (by omega) hw (fun z => e z.1)]; rfl)
      · show ofN (upd (layN (yn Y) m 0 c) 0 (nI (m + 1))) s w = 0
        rw [of_upd0, of_lay2 (by omega) h3 (by omega)]
        exact h.1.2.2.2.2 s w (by omega) h2 h3
theorem a_pay (h : Rel X Y m t sn L) (s c : Int32) : Ok2 (payX X t m s c) (payP Y t s c) := by
  unfold payX payP
  rw [q_is h]
  by_cases c0 : isC m s = false
  · rw [if_pos c0, if_pos c0]
    exact Ok2.mk rfl h
  rw [if_neg c0, if_neg c0]
  obtain ⟨k, hk, rfl⟩ := isC_of h.1.2.1 (bF c0)
  rw [ix_nI (by have := h.1.2.1; omega)]
  have f := rel_fl h hk
  have e0 : ofN (yn Y) k 0 = fp (X.1 k) := f.1.2.2.2.1.1
  rw [e0]
  by_cases c1 : c < 1 ∨ 9999 < c
  · rw [if_pos c1, if_pos (c1.elim inB_lt inB_gt)]
    exact Ok2.mk rfl h
  · have e1 : ¬ inB c 1 9999 = false := by rw [inB_in (fun z => c1 (Or.inl z)) (fun z => c1 (Or.inr z))]; decide
    rw [if_neg c1, if_neg e1]
    by_cases c2 : 9999 < fp (X.1 k) + c
    · rw [if_pos c2, if_pos c2]
      exact Ok2.mk rfl h
    · rw [if_neg c2, if_neg c2]
      exact Ok2.mk rfl (rel_act h hk ⟨rfl, rfl, rfl, rfl, rfl, rfl⟩ (Oth.lay (by omega)) (fl_p f _))
theorem a_sail (h : Rel X Y m t sn L) (s : Int32) : Ok2 (sailX X t m s) (sailP Y t s) := by
  unfold sailX sailP
  rw [q_is h]
  by_cases c0 : isC m s = false
  · rw [if_pos c0, if_pos c0]
    exact Ok2.mk rfl h
  rw [if_neg c0, if_neg c0]
  obtain ⟨k, hk, rfl⟩ := isC_of h.1.2.1 (bF c0)
  rw [ix_nI (by have := h.1.2.1; omega)]
  have f := rel_fl h hk
  have e0 : ofN (yn Y) k 1 = bI (fa (X.1 k)) := f.1.2.2.2.1.2.2
  rw [e0]
  cases ha : fa (X.1 k) with
  | true =>
    rw [if_pos rfl, if_pos (show bI true = 1 from rfl)]
    exact Ok2.mk rfl h
  | false =>
    have b0 : ¬ bI false = 1 := by decide
    rw [if_neg (by decide), if_neg b0]
    have f2 : Fl (faS (X.1 k) true) (layN (yn Y) k 1 1) k := fl_a f true
    exact Ok2.mk (bk_boats f2 8 (Nat.le_refl _)) (rel_act h hk ⟨rfl, rfl, rfl, rfl, rfl, rfl⟩ (Oth.lay (by omega)) f2)
theorem a_dock (h : Rel X Y m t sn L) (s : Int32) : Ok2 (dockX X t m s) (dockP Y t s) := by
  unfold dockX dockP
  rw [q_is h]
  by_cases c0 : isC m s = false
  · rw [if_pos c0, if_pos c0]
    exact Ok2.mk rfl h
  rw [if_neg c0, if_neg c0]
  obtain ⟨k, hk, rfl⟩ := isC_of h.1.2.1 (bF c0)
  rw [ix_nI (by have := h.1.2.1; omega)]
  rw [push_f h.2.1.1.2.2.1.1 h.1.2.1 (by have := h.1.2.1; omega)]
  obtain ⟨d1, d2, d3⟩ := dock_ok (rel_fl h hk)
  exact Ok2.mk d3 (rel_act h hk ⟨rfl, rfl, rfl, rfl, rfl, rfl⟩ d2 d1)
theorem a_toll (h : Rel X Y m t sn L) (s : Int32) : Ok2 (tollX X m s) (tollP Y s) := by
  unfold tollX tollP
  rw [q_is h]
  by_cases c0 : isC m s = false
  · rw [if_pos c0, if_pos c0]
    exact Ok2.mk rfl h
  rw [if_neg c0, if_neg c0]
  obtain ⟨k, hk, rfl⟩ := isC_of h.1.2.1 (bF c0)
  rw [ix_nI (by have := h.1.2.1; omega)]
  obtain ⟨d1, d2, d3⟩ := dock_ok (fl_cp (f := X.1 36) (rel_fl h hk))
  exact Ok2.mk d3 (rel_try (rel_try (rel_y h ⟨rfl, rfl, rfl, rfl, rfl, rfl⟩ rfl) _) _)
/-- the trial becomes the set, or doesn't -/
theorem a_settle (h : Rel X Y m t sn L) {k : Nat} (hk : k < m) {Yb : YS} (oy : OtY Y Yb) (et : yt Yb = yn Y) {g : Nat → Int32} (ho : Oth (yn Y) g k) {v mm : Int32} (hv : (v = -3 ∧ mm = -1) ∨ ((∃ j, j < 2 ^ 31 ∧ v = nI j) ∧ mm = v ∧ Fl (X.1 36) g k)) : Ok2 (stX X t m k v) (endsM (ynS Yb g) t mm) := by
  unfold stX endsM
  rcases hv with ⟨rfl, rfl⟩ | ⟨⟨j, hj, rfl⟩, rfl, hf⟩
  · rw [if_pos (by decide), if_neg (by decide), if_neg (by decide)]
    exact Ok2.mk rfl (rel_y h oy et)
  · rw [if_neg (nI_pos hj)]
    by_cases e : j = 0
    · subst e
      rw [if_pos (show nI 0 = 0 from rfl), if_neg (by decide), if_pos (show nI 0 = 0 from rfl)]
      exact Ok2.mk rfl (rel_y h oy et)
    · rw [if_neg (fun z => e ((nI_z hj).mp z)), if_pos (show (0 : Int32) < nI j from (nI_ltI (a := 0) (by decide) hj).mpr (by omega))]
      obtain ⟨y1, y2, y3, y4, y5, y6⟩ := oy
      refine Ok2.mk rfl (rel_act h hk (Y' := yzS (ypS (ynS Yb g) (pushN (yp Yb) (yt Yb) t)) (nI (pushZ t))) ⟨?_, rfl, y3, y4, y5, y6⟩ ho (fl_cp ?_))
      · show pushN (yp Yb) (yt Yb) t = pushN (yp Y) (yn Y) t
        rw [y1, et]
      · rw [push_f h.2.1.1.2.2.1.1 h.1.2.1 (Or.inr rfl)]
        exact hf
theorem a_mr (h : Rel X Y m t sn L) (s a b : Int32) (c : Bool) : Ok2 (mrX X t m s a b c) (rngP Y t s a b c) := by
  unfold mrX rngP
  rw [q_is h]
  by_cases c0 : isC m s = false
  · rw [if_pos c0, if_pos c0]
    exact Ok2.mk rfl h
  rw [if_neg c0, if_neg c0]
  obtain ⟨k, hk, rfl⟩ := isC_of h.1.2.1 (bF c0)
  rw [ix_nI (by have := h.1.2.1; omega)]
  by_cases c1 : inB a 0 2047 = false
  · rw [if_pos c1, if_neg (fun z => by rw [z.1] at c1; exact absurd c1 (by decide))]
    exact Ok2.mk rfl h
  rw [if_neg c1]
  obtain ⟨ja, hja, rfl⟩ := isN_of (bF c1)
  by_cases c2 : inB b (nI ja) 2047 = false
  · rw [if_pos c2, if_neg (fun z => by
      have h2 := of_decide_eq_true z.2.1
      rw [show inB b (nI ja) 2047 = true from decide_eq_true ⟨z.2.2, h2.2⟩] at c2
      exact absurd c2 (by decide))]
    exact Ok2.mk rfl h
  rw [if_neg c2]
  obtain ⟨jb, hab, hjb, rfl⟩ := inL_of (bF c2) hja
  rw [if_pos ⟨isN_nI hja, isN_nI hjb, (nI_leI (by omega) (by omega)).mpr hab⟩, ix_nI (by omega), ix_nI (by omega)]
  obtain ⟨m1, m2⟩ := mv_ok (s := k) (c := c) (jb + 1 - ja) ja 0 (cpF (X.1 k) (X.1 36)) (yn Y) (fl_cp (rel_fl h hk)) (by omega) (by omega)
  have ht : Rel (mvX X k ja jb c) Y m t sn L := rel_try (rel_try h _) _
  refine a_settle ht hk (Yb := ytS Y (yn Y)) ⟨rfl, rfl, rfl, rfl, rfl, rfl⟩ rfl m1 ?_
  rcases m2 with z | ⟨⟨j, hj, z1⟩, z2, z3⟩
  · exact Or.inl z
  · exact Or.inr ⟨⟨j, by omega, z1⟩, z2, by
      rw [show (mvX X k ja jb c).1 36 = (mvR X k ja jb c).1 from xFi_at _ _ _]
      exact z3⟩
theorem mv1 (c : Bool) (n : Nat) (f : FR) : mvF c (n + 1 - n) n 0 f = if fbit (fw f) n = c then (f, 0) else if (adF (flipF f n) (n / 256)).2 = true then ((adF (flipF f n) (n / 256)).1, 1) else ((adF (flipF f n) (n / 256)).1, -3) := by
  rw [show n + 1 - n = 1 by omega]
  rfl
theorem cm_at {w : Nat → Int64} {n : Nat} (h : fbit w n = true) : cm w (n / 256) ≠ 0 := fun e => by
  have := cnt_zz 256 e (n % 256) (Nat.mod_lt _ (by decide))
  rw [show 256 * (n / 256) + n % 256 = n by omega, h] at this
  exact absurd this (by decide)
/-- one number: what mrX is -/
theorem mr1 (h : Rel X Y m t sn L) {k j : Nat} (hk : k < m) (hj : j < 2048) (c : Bool) : mrX X t m (nI k) (nI j) (nI j) c = stX (mvX X k j j c) t m k (mvR X k j j c).2 := by
  unfold mrX
  have hc : ¬ isC m (nI k) = false := by
    rw [show isC m (nI k) = true from decide_eq_true ⟨nI_pos' (by have := h.1.2.1; omega), (nI_ltI (by have := h.1.2.1; omega) (by have := h.1.2.1; omega)).mpr hk⟩]
    decide
  rw [if_neg hc, if_pos ⟨isN_nI hj, isN_nI hj, Int32.le_refl _⟩, ix_nI (n := k) (by have := h.1.2.1; omega), ix_nI (n := j) (by omega)]
theorem mr_bad {s n : Int32} {c : Bool} : (isC m s = false → mrX X t m s n n c = (-1, X)) ∧ (¬ isC m s = false → inB n 0 2047 = false → mrX X t m s n n c = (-2, X)) := by
  refine ⟨fun c0 => if_pos c0, fun c0 c1 => ?_⟩
  unfold mrX
  rw [if_neg c0, if_neg (fun z => by rw [z.1] at c1; exact absurd c1 (by decide))]
theorem st_1 (Z : XS) (t m k : Nat) : stX Z t m k 1 = (1, xFi (pushX Z t m) k (cpF ((pushX Z t m).1 36) ((pushX Z t m).1 k))) := by
  unfold stX
  rw [if_neg (by decide), if_neg (by decide)]
/-- one number: the three ways -/
theorem one_ok (h : Rel X Y m t sn L) {k j : Nat} (hk : k < m) (hj : j < 2048) (c : Bool) :
    (mb (yn Y) k j = c ∧ mrX X t m (nI k) (nI j) (nI j) c = (-5, mvX X k j j c)) ∨ (mb (yn Y) k j ≠ c ∧ (goesN (yn Y) k j c).2 = false ∧ mrX X t m (nI k) (nI j) (nI j) c = (-3, mvX X k j j c)) ∨
    (mb (yn Y) k j ≠ c ∧ (goesN (yn Y) k j c).2 = true ∧ (mrX X t m (nI k) (nI j) (nI j) c).1 = 1 ∧ Fl ((mrX X t m (nI k) (nI j) (nI j) c).2.1 k) (goesN (yn Y) k j c).1 k ∧ Rel (mrX X t m (nI k) (nI j) (nI j) c).2 (recM (ynS (ytS Y (yn Y)) (goesN (yn Y) k j c).1) (yn Y) t) m (pushZ t) sn L ∧ (c = true → cm (fw ((mrX X t m (nI k) (nI j) (nI j) c).2.1 k)) (j / 256) ≠ 0)) := by
  have f := fl_cp (f := X.1 36) (rel_fl h hk)
  have ht : Rel (mvX X k j j c) Y m t sn L := rel_try (rel_try h _) _
  have eb : fbit (fw (cpF (X.1 k) (X.1 36))) j = mb (yn Y) k j := (f.1.2.2.1 j hj).symm
  rw [mr1 h hk hj]
  have e36 : (mvX X k j j c).1 36 = (mvR X k j j c).1 := xFi_at _ _ _
  have em : mvR X k j j c = mvF c (j + 1 - j) j 0 (cpF (X.1 k) (X.1 36)) := rfl
  rw [mv1] at em
  by_cases e1 : mb (yn Y) k j = c
  · refine Or.inl ⟨e1, ?_⟩
    rw [if_pos (eb.trans e1)] at em
    rw [em]
    rfl
  · rw [if_neg (fun z => e1 (eb.symm.trans z))] at em
    obtain ⟨g1, g2, g3⟩ := go_ok f hj (fun z => e1 (eb.symm.trans z))
    by_cases e2 : (adF (flipF (cpF (X.1 k) (X.1 36)) j) (j / 256)).2 = true
    · rw [if_pos e2] at em
      refine Or.inr (Or.inr ⟨e1, g1.trans e2, ?_⟩)
      have f2 := g3 e2
      have e36' : (pushX (mvX X k j j c) t m).1 36 = (adF (flipF (cpF (X.1 k) (X.1 36)) j) (j / 256)).1 := by
        rw [push_f ht.2.1.1.2.2.1.1 ht.1.2.1 (Or.inr rfl), e36, em]
      have es : stX (mvX X k j j c) t m k (mvR X k j j c).2 = (1, xFi (pushX (mvX X k j j c) t m) k (cpF (adF (flipF (cpF (X.1 k) (X.1 36)) j) (j / 256)).1 ((pushX (mvX X k j j c) t m).1 k))) := by
        rw [show (mvR X k j j c).2 = 1 from by rw [em], st_1, e36']
      rw [es]
      refine ⟨rfl, ?_, ?_, fun hc => ?_⟩
      · show Fl ((xFi _ k _).1 k) _ _
        rw [xFi_at]
        exact fl_cp f2
      · exact rel_act ht hk ⟨rfl, rfl, rfl, rfl, rfl, rfl⟩ g2 (fl_cp f2)
      · show cm (fw ((xFi _ k _).1 k)) _ ≠ 0
        rw [xFi_at]
        refine cm_at ?_
        have e3 : fbit (fw (cpF (adF (flipF (cpF (X.1 k) (X.1 36)) j) (j / 256)).1 ((pushX (mvX X k j j c) t m).1 k))) j = fbit (fw (adF (flipF (cpF (X.1 k) (X.1 36)) j) (j / 256)).1) j := by
          unfold fbit
          rw [(feq_cp _ _).1 _ (by omega)]
        rw [e3, ad_w]
        show fbit (flW _ j) j = true
        rw [fb_fl, if_pos rfl, eb]
        revert e1
        rw [hc]
        cases mb (yn Y) k j <;> simp
    · rw [if_neg e2] at em
      refine Or.inr (Or.inl ⟨e1, ?_, ?_⟩)
      · rw [g1]; revert e2; cases (adF (flipF (cpF (X.1 k) (X.1 36)) j) (j / 256)).2 <;> simp
      · rw [em]; rfl
theorem a_add (h : Rel X Y m t sn L) (s n : Int32) : Ok2 (addX X t m s n) (addP Y t s n) := by
  unfold addX addP
  rw [q_is h]
  by_cases c0 : isC m s = false
  · rw [(mr_bad (c := true)).1 c0, if_pos c0, if_pos (by show (-1 : Int32) < 0; decide)]
    exact Ok2.mk rfl h
  rw [if_neg c0]
  by_cases c1 : inB n 0 2047 = false
  · rw [(mr_bad (c := true)).2 c0 c1, if_pos c1, if_pos (by show (-2 : Int32) < 0; decide)]
    exact Ok2.mk rfl h
  rw [if_neg c1]
  obtain ⟨k, hk, rfl⟩ := isC_of h.1.2.1 (bF c0)
  obtain ⟨j, hj, rfl⟩ := isN_of (bF c1)
  rw [ix_nI (n := k) (by have := h.1.2.1; omega), ix_nI (n := j) (by omega)]
  have ht : Rel (mvX X k j j true) Y m t sn L := rel_try (rel_try h _) _
  rcases one_ok h hk hj true with ⟨e1, e2⟩ | ⟨e1, e2, e3⟩ | ⟨e1, e2, e3, e4, e5, e6⟩
  · rw [e2, if_pos e1, if_pos (by show (-5 : Int32) < 0; decide)]
    exact Ok2.mk rfl ht
  · rw [e3, if_neg e1, if_pos e2, if_pos (by show (-3 : Int32) < 0; decide)]
    exact Ok2.mk rfl (rel_y ht ⟨rfl, rfl, rfl, rfl, rfl, rfl⟩ rfl)
  · have e2' : ¬ (goesN (yn Y) k j true).2 = false := by rw [e2]; decide
    have e3' : ¬ (mrX X t m (nI k) (nI j) (nI j) true).1 < 0 := by rw [e3]; decide
    rw [if_neg e1, if_neg e2', if_neg e3']
    exact Ok2.mk (bq e4.1 (by omega) (e6 rfl)).2.1.symm e5
theorem a_rem (h : Rel X Y m t sn L) (s n : Int32) : Ok2 (remX X t m s n) (remP Y t s n) := by
  unfold remX remP
  rw [q_is h]
  by_cases c0 : isC m s = false
  · rw [(mr_bad (c := false)).1 c0, if_pos c0, if_pos (by show (-1 : Int32) < 0; decide)]
    exact Ok2.mk rfl h
  rw [if_neg c0]
  by_cases c1 : inB n 0 2047 = false
  · rw [(mr_bad (c := false)).2 c0 c1, if_pos c1, if_pos (by show (-2 : Int32) < 0; decide)]
    exact Ok2.mk rfl h
  rw [if_neg c1]
  obtain ⟨k, hk, rfl⟩ := isC_of h.1.2.1 (bF c0)
  obtain ⟨j, hj, rfl⟩ := isN_of (bF c1)
  rw [ix_nI (n := k) (by have := h.1.2.1; omega), ix_nI (n := j) (by omega)]
  have ht : Rel (mvX X k j j false) Y m t sn L := rel_try (rel_try h _) _
  rcases one_ok h hk hj false with ⟨e1, e2⟩ | ⟨e1, e2, e3⟩ | ⟨e1, e2, e3, e4, e5, e6⟩
  · rw [e2, if_pos e1, if_pos (by show (-5 : Int32) < 0; decide)]
    exact Ok2.mk rfl ht
  · rw [e3, if_neg e1, if_pos e2, if_pos (by show (-3 : Int32) < 0; decide)]
    exact Ok2.mk rfl (rel_y ht ⟨rfl, rfl, rfl, rfl, rfl, rfl⟩ rfl)
  · have e2' : ¬ (goesN (yn Y) k j false).2 = false := by rw [e2]; decide
    have e3' : ¬ (mrX X t m (nI k) (nI j) (nI j) false).1 < 0 := by rw [e3]; decide
    rw [if_neg e1, if_neg e2', if_neg e3']
    refine Ok2.mk ?_ e5
    show fs _ (j / 256) = nI (manyN _ k (j / 256))
    rw [many_of e4.1.2.2.1 (by omega)]
    exact (e4.1.1 _ (by omega)).1
theorem fl_comb {f f1 f2 : FR} {g gg : Nat → Int32} {k k1 k2 : Nat} {how : Int32} (h : Fl f g k) (h1 : Fl f1 g k1) (h2 : Fl f2 g k2) (hh : inB how 0 3 = true) : Fl (flF how f1 f2 f) (layK (layG g (gvN (gbN g how k1 k2) gg 2048) k 64) k 8) k ∧ Oth g (layK (layG g (gvN (gbN g how k1 k2) gg 2048) k 64) k 8) k ∧ sumI (fs (flF how f1 f2 f)) 8 = nI (cnt (gbN g how k1 k2) 0 2048) := by
  have hx : ∀ b i, b < 32 → i < 64 → bl (joC how (fw f1 b) (fw f2 b)) i = gbN g how k1 k2 (64 * b + i) := by
    intro b i hb hi
    rw [jo_bt hh _ _ hi]
    unfold gbN
    rw [h1.1.2.2.1 _ (by omega), h2.1.2.2.1 _ (by omega)]
    unfold fbit
    rw [show (64 * b + i) / 64 = b by omega, show (64 * b + i) % 64 = i by omega]
  obtain ⟨w1, w2, w3, w4, w5, w6⟩ := flF_ok (f := f) hx
  generalize flF how f1 f2 f = F at w1 w2 w3 w4 w5 w6 ⊢
  obtain ⟨g1, g2⟩ := layG_of g (gvN (gbN g how k1 k2) gg 2048) k 64 (Nat.le_refl _)
  have gm : ∀ n, n < 2048 → mb (layG g (gvN (gbN g how k1 k2) gg 2048) k 64) k n = fbit (fw F) n := by
    intro n hn
    unfold mb
    rw [g2 _ (by omega), if_pos (by omega), show 11 + n / 32 - 11 = n / 32 by omega, gvN_bt _ _ 2048 (Nat.le_refl _) _ _ (by omega) (Nat.mod_lt _ (by decide)), show 32 * (n / 32) + n % 32 = n by omega, decide_eq_true hn, Bool.and_true]
    exact (w2 n hn).symm
  generalize layG g (gvN (gbN g how k1 k2) gg 2048) k 64 = G at g1 g2 gm ⊢
  obtain ⟨l1, l2⟩ := layK_of G k 8 (Nat.le_refl _)
  have rb : Rb F (layK G k 8) k := fun n hn => by
    rw [← gm n hn]
    unfold mb
    rw [l2 _ (by omega), if_neg (by omega)]
  have low : ∀ w, w < 3 → ofN (layK G k 8) k w = ofN g k w := fun w hw => by rw [l2 _ (by omega), if_neg (by omega), g2 _ (by omega), if_neg (by omega)]
  have hm : ∀ b, b < 8 → manyN G k b = cm (fw F) b := fun b hb => cnt_cong 256 (fun j hj => gm _ (by omega))
  have hr : ∀ b, b < 8 → runsN G k b = cr (fw F) b := fun b hb => cnt_cong 256 (fun j hj => by
    unfold runB
    rw [gm _ (by omega), gm (256 * b + j - 1) (by omega)])
  refine ⟨⟨⟨w1, fun b hb => by rw [w3 b hb]; exact bsT_q _ _, rb, ⟨?_, ?_, ?_⟩, fun b hb => ?_⟩, fun b hb => ⟨fun e => by rw [w3 b hb, e, bsT_0], fun e => by rw [w3 b hb] at e; exact bsT_2 e⟩⟩, g1.tr l1, ?_⟩
  · rw [low 0 (by omega), w4]; exact h.1.2.2.2.1.1
  · rw [low 2 (by omega), w5]; exact h.1.2.2.2.1.2.1
  · rw [low 1 (by omega), w6]; exact h.1.2.2.2.1.2.2
  · unfold Rk
    rw [l2 _ (by omega), if_pos (show 3 ≤ 3 + b ∧ 3 + b < 3 + 8 by omega), show 3 + b - 3 = b by omega, hm b hb]
    by_cases e : cm (fw F) b = 0
    · rw [if_pos e, if_pos e]
    · rw [if_neg e, if_neg e]
      unfold bestN
      rw [hm b hb, hr b hb, bestI_T (cm_le _ _) (cr_le _ _), w3 b hb]
  · rw [sum_fs w1 8 (Nat.le_refl _)]
    exact congrArg nI (cnt_cong 2048 (fun j hj => w2 _ (by omega)))
theorem sum_feq {f f' : FR} (e : Feq f f') : sumI (fs f') 8 = sumI (fs f) 8 := sum_cong 8 (fun j hj => (e.2.1 j hj).2.1)
theorem a_comb (h : Rel X Y m t sn L) (how s u v : Int32) : Ok2 (cbX X t m how s u v) (combP Y t how s u v) := by
  unfold cbX combP
  rw [q_is h, q_is h, q_is h]
  by_cases c0 : isC m s = false
  · rw [if_pos (Or.inl c0), if_pos c0]
    exact Ok2.mk rfl h
  by_cases c1 : isC m u = false
  · rw [if_pos (Or.inr (Or.inl c1)), if_neg c0, if_pos c1]
    exact Ok2.mk rfl h
  by_cases c2 : isC m v = false
  · rw [if_pos (Or.inr (Or.inr c2)), if_neg c0, if_neg c1, if_pos c2]
    exact Ok2.mk rfl h
  rw [if_neg (fun z => z.elim c0 (fun z => z.elim c1 c2)), if_neg c0, if_neg c1, if_neg c2]
  by_cases c3 : inB how 0 3 = false
  · rw [if_pos c3, if_pos c3]
    exact Ok2.mk rfl h
  rw [if_neg c3, if_neg c3]
  obtain ⟨k, hk, rfl⟩ := isC_of h.1.2.1 (bF c0)
  obtain ⟨k1, hk1, rfl⟩ := isC_of h.1.2.1 (bF c1)
  obtain ⟨k2, hk2, rfl⟩ := isC_of h.1.2.1 (bF c2)
  have hm := h.1.2.1
  rw [ix_nI (n := k) (by omega), ix_nI (n := k1) (by omega), ix_nI (n := k2) (by omega)]
  have f := rel_fl h hk
  have e0 : ofN (yn Y) k 1 = bI (fa (X.1 k)) := f.1.2.2.2.1.2.2
  rw [e0]
  cases ha : fa (X.1 k) with
  | true =>
    rw [if_pos rfl, if_pos (show bI true = 1 from rfl)]
    exact Ok2.mk rfl h
  | false =>
    have b0 : ¬ bI false = 1 := by decide
    rw [if_neg (by decide), if_neg b0]
    have n1 : (cb1 X k).1 k1 = X.1 k1 := xFi_ne _ _ (by omega)
    have n2 : (cb1 X k).1 k2 = X.1 k2 := xFi_ne _ _ (by omega)
    obtain ⟨d1, d2, d3⟩ := fl_comb (gg := yg Y) (fl_cp (f := X.1 36) f) (rel_fl h hk1) (rel_fl h hk2) (bF c3)
    have hr : Rel (cb2 X how k k1 k2) Y m t sn L := rel_try (rel_try h _) _
    have e36 : (cb3 X t m how k k1 k2).1 36 = flF how (X.1 k1) (X.1 k2) (cpF (X.1 k) (X.1 36)) := by
      show (pushX (cb2 X how k k1 k2) t m).1 36 = _
      rw [push_f hr.2.1.1.2.2.1.1 hm (Or.inr rfl)]
      show (xFi (cb1 X k) 36 _).1 36 = _
      rw [xFi_at, n1, n2]
    rw [e36]
    refine Ok2.mk ?_ (rel_act hr hk ⟨rfl, rfl, rfl, rfl, rfl, rfl⟩ d2 (fl_cp d1))
    show sumI (fs (cpF _ _)) 8 = _
    rw [sum_feq (feq_cp _ _)]
    exact d3
theorem a_keep (h : Rel X Y m t sn L) : Ok2 (kpX X m) (keepP Y) := by
  obtain ⟨⟨h0, h1⟩, ⟨h2, h3⟩, ⟨h4, h5, h6⟩, h7, h11⟩ := h
  have hm := h1.1
  refine Ok2.mk (m := m) (t := t) (sn := true) (L := L) h1.2.1.symm ?_
  have x0 : ∀ k, k ≠ 1 → xh (kpX X m).2 k = xh X k := fun k hk => cpH_hne (X := X) (h := 1) (g := 0) (m := m) (j := m) hk
  have x1 : xh (kpX X m).2 1 = nI m := cpH_h (X := X) (h := 1) (g := 0) (m := m) (j := m)
  refine ⟨⟨(x0 0 (by omega)).trans h0, hr_F h1 (fun s hs => ?_)⟩, ⟨ps_cong h2 rfl rfl (fun k a b => x0 k (by omega)) (fun i a b => ?_), h3⟩, ⟨rfl, rfl, fun _ => ⟨m, x1, hr_feq h1 (fun s hs => ?_)⟩⟩, h7, fun k hk => ?_⟩
  · show (if 6 * 1 ≤ s ∧ s < 6 * 1 + m then _ else X.1 s) = _
    rw [if_neg (by omega)]
  · show (if 6 * 1 ≤ i ∧ i < 6 * 1 + m then _ else X.1 i) = _
    rw [if_neg (by omega)]
  · show Feq (X.1 s) (if 6 * 1 ≤ 6 * 1 + s ∧ 6 * 1 + s < 6 * 1 + m then cpF (X.1 (6 * 0 + (6 * 1 + s - 6 * 1))) _ else _)
    rw [if_pos (by omega), show 6 * 0 + (6 * 1 + s - 6 * 1) = s by omega]
    exact feq_cp _ _
  · show ∃ u, u ≤ 6 ∧ va_up (xh X) 1 (nI m) k = nI u
    by_cases e : k = 1
    · rw [e, va_up_self]; exact ⟨m, hm, rfl⟩
    · rw [va_up_ne _ _ e]; exact h11 k hk
/-- a state comes back -/
theorem rel_back {X' : XS} {Y' : YS} {u g : Nat} {gg : Nat → Int32} (h : Rel X Y m t sn L) (hg : g ≠ 0) (hr : Hr (hF X g) u gg) (oy : OtY Y Y') (en : ∀ k, k < 451 → yn Y' k = gg k) (eX : X' = cpH X 0 g u u) : Rel X' Y' u t sn L := by
  subst eX
  have hu := hr.1
  refine rel_now h ⟨fun i a b => ?_, fun k a b => cpH_hne (by omega), rfl, rfl, rfl, rfl, rfl⟩ oy cpH_h (hr_row (hr_feq hr (fun s hs => ?_)) en)
  · show (if 6 * 0 ≤ i ∧ i < 6 * 0 + u then _ else X.1 i) = _
    rw [if_neg (by omega)]
  · show Feq (X.1 (6 * g + s)) (if 6 * 0 ≤ s ∧ s < 6 * 0 + u then cpF (X.1 (6 * g + (s - 6 * 0))) _ else _)
    rw [if_pos (by omega), show s - 6 * 0 = s by omega]
    exact feq_cp _ _
theorem a_undo (h : Rel X Y m t sn L) {u : Nat} (hu : u ≤ 6) (hs : xh X (2 + xq X (t - 1)) = nI u) : Ok2 (unX X t u) (undoP Y t) := by
  unfold unX undoP
  by_cases e : t = 0
  · rw [if_pos e, if_pos e]
    exact Ok2.mk rfl h
  · rw [if_neg e, if_neg e]
    refine Ok2.mk (m := u) (t := t - 1) (sn := sn) (L := L) rfl ?_
    obtain ⟨v, v1, v2⟩ := h.2.1.1.2.2.2 (t - 1) (by omega)
    have ev : v = u := (nI_eq (by have := v2.1; omega) (by omega)).mp (v1.symm.trans hs)
    subst ev
    have h' : Rel (xzS X (nI (t - 1))) (yzS Y (nI (t - 1))) m (t - 1) sn L := by
      obtain ⟨h0, ⟨⟨p1, p2, p3, p4⟩, h3⟩, h4, h7, h11⟩ := h
      exact ⟨h0, ⟨⟨rfl, by omega, p3, fun j hj => p4 j (by omega)⟩, rfl⟩, h4, h7, h11⟩
    exact rel_back h' (g := 2 + xq X (t - 1)) (by omega) v2 ⟨rfl, rfl, rfl, rfl, rfl, rfl⟩ (fun k hk => rfl) rfl
theorem a_rest (h : Rel X Y m t sn L) {u : Nat} (hu : u ≤ 6) (hs : xh X 1 = nI u) : Ok2 (rsX X t m u sn) (restP Y t) := by
  unfold rsX restP
  have hi : yi Y = bI sn := h.2.2.1.2.1
  rw [hi]
  cases hsn : sn with
  | false =>
    rw [if_pos rfl, if_pos (show bI false = 0 from rfl)]
    exact Ok2.mk rfl h
  | true =>
    have b1 : ¬ bI true = 0 := by decide
    rw [if_neg (by decide), if_neg b1]
    obtain ⟨v, v1, v2⟩ := h.2.2.1.2.2 hsn
    have ev : v = u := (nI_eq (by have := v2.1; omega) (by omega)).mp (v1.symm.trans hs)
    subst ev
    have hp := rel_push h
    obtain ⟨w, w1, w2⟩ := hp.2.2.1.2.2 hsn
    have ew : w = v := by
      rw [push_h (by omega), v1] at w1
      exact ((nI_eq (by omega) (by have := w2.1; omega)).mp w1).symm
    subst ew
    refine Ok2.mk (m := w) (t := pushZ t) (sn := sn) (L := L) v2.2.1.symm ?_
    exact rel_back hp (g := 1) (by omega) w2 ⟨rfl, rfl, rfl, rfl, rfl, rfl⟩ (fun k hk => rfl) rfl
theorem a_type (h : Rel X Y m t sn L) {v : Int32} (hv : vp_nar .char v = v) : Ok2 (typX X L v) (typeP Y L v) := by
  unfold typX typeP
  obtain ⟨h0, h2, h4, ⟨h7, h8, h9, h10⟩, h11⟩ := h
  by_cases e : L = 60
  · rw [if_pos e, if_neg (by omega)]
    exact Ok2.mk rfl ⟨h0, h2, h4, ⟨h7, h8, h9, h10⟩, h11⟩
  · rw [if_neg e, if_pos (by omega)]
    refine Ok2.mk (m := m) (t := t) (sn := sn) (L := L + 1) rfl ⟨h0, h2, h4, ⟨rfl, rfl, by omega, fun j hj => ?_⟩, h11⟩
    show upd (xc X) L (vp_nar .char v) j = upd (yx Y) L v j
    unfold upd
    rw [hv]
    by_cases e2 : j = L
    · rw [if_pos e2, if_pos e2]
    · rw [if_neg e2, if_neg e2]
      exact h10 j (by omega)
theorem a_clear (h : Rel X Y m t sn L) : Ok2 (nI L, xlS X 0) (nI L, yyS Y 0) := by
  obtain ⟨h0, h2, h4, ⟨h7, h8, h9, h10⟩, h11⟩ := h
  exact Ok2.mk (m := m) (t := t) (sn := sn) (L := 0) rfl ⟨h0, h2, h4, ⟨rfl, rfl, by omega, fun j hj => absurd hj (Nat.not_lt_zero _)⟩, h11⟩
end ACTS
