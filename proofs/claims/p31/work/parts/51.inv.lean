/-! One set: what holds of it behind every act -/
theorem i_cs (x u d : Int32) : x - u + (d + u) = x + d := by
  rw [Int32.sub_eq_add_neg, Int32.add_assoc, ← Int32.add_assoc (-u), Int32.add_comm (-u), Int32.add_assoc d, Int32.add_left_neg, Int32.add_zero]
def Pz (f : FR) : Prop := ∃ p, p ≤ 9999 ∧ fp f = nI p
/-- but for what the boat in the bay B needs -/
def Gp (f : FR) (B : Nat) : Prop := Ws f ∧ Kq f ∧ Pz f ∧ ∀ b, b < 8 → b ≠ B → (cm (fw f) b = 0 → fk f b = 0) ∧ holdC f b (fk f b) = true
def Gd (f : FR) : Prop := Gp f 8
theorem Gd.bay {f : FR} (h : Gd f) {b : Nat} (hb : b < 8) : (cm (fw f) b = 0 → fk f b = 0) ∧ holdC f b (fk f b) = true := h.2.2.2 b hb (by omega)
theorem gd_mk {f : FR} (h1 : Ws f) (h2 : Kq f) (h3 : Pz f) (h4 : ∀ b, b < 8 → (cm (fw f) b = 0 → fk f b = 0) ∧ holdC f b (fk f b) = true) : Gd f := ⟨h1, h2, h3, fun b hb _ => h4 b hb⟩
theorem ho_cong {f g : FR} {b : Nat} {k : Int32} (e1 : fs g b = fs f b) (e2 : fr g b = fr f b) : holdC g b k = holdC f b k := by
  unfold holdC
  rw [e1, e2]
theorem un_cong {f g : FR} {b : Nat} {k : Int32} (e1 : fs g b = fs f b) (e2 : fr g b = fr f b) : unitsC g b k = unitsC f b k := by
  unfold unitsC
  rw [e1, e2]
theorem be_cong {f g : FR} {b : Nat} (e1 : fs g b = fs f b) (e2 : fr g b = fr f b) : bestC g b = bestC f b := by
  unfold bestC
  simp only [ho_cong e1 e2, un_cong e1 e2]
/-- what stays when boats become others -/
def Cs (f g : FR) : Prop := fw g = fw f ∧ fs g = fs f ∧ fr g = fr f ∧ fa g = fa f ∧ fp g + fd g = fp f + fd f
theorem Cs.rf {f : FR} : Cs f f := ⟨rfl, rfl, rfl, rfl, rfl⟩
theorem Cs.tr {f g h : FR} (a : Cs f g) (b : Cs g h) : Cs f h := ⟨b.1.trans a.1, b.2.1.trans a.2.1, b.2.2.1.trans a.2.2.1, b.2.2.2.1.trans a.2.2.2.1, b.2.2.2.2.trans a.2.2.2.2⟩
theorem Cs.ws {f g : FR} (a : Cs f g) (h : Ws f) : Ws g := by
  intro b hb
  rw [a.1, a.2.1, a.2.2.1]
  exact h b hb
theorem Cs.be {f g : FR} (a : Cs f g) (b : Nat) : bestC g b = bestC f b := be_cong (by rw [a.2.1]) (by rw [a.2.2.1])
theorem Cs.un {f g : FR} (a : Cs f g) (b : Nat) (k : Int32) : unitsC g b k = unitsC f b k := un_cong (by rw [a.2.1]) (by rw [a.2.2.1])
theorem Cs.ho {f g : FR} (a : Cs f g) (b : Nat) (k : Int32) : holdC g b k = holdC f b k := ho_cong (by rw [a.2.1]) (by rw [a.2.2.1])
theorem bsT_00 {m r : Nat} (h : bsT m r = 0) : m ≤ 16 := by
  unfold bsT at h
  split at h
  · assumption
  · split at h <;> exact absurd h (by decide)
theorem ho_best {f : FR} {b : Nat} (h : Ws f) (hb : b < 8) : holdC f b (bestC f b) = true := by
  have e := bq_best h hb
  rcases bsT_q (cm (fw f) b) (cr (fw f) b) with q | q | q
  · rw [e, q, hoC_0 (h b hb).1 (cm_le _ _)]
    have := bsT_00 q
    exact decide_eq_true (by omega)
  · rw [e, q]
    exact hoC_1 f b
  · rw [e, q, hoC_2 (h b hb).2 (cr_le _ _)]
    exact decide_eq_true (bsT_2 q)
theorem be_q {f : FR} {b : Nat} (h : Ws f) (hb : b < 8) : bestC f b = 0 ∨ bestC f b = 1 ∨ bestC f b = 2 := by
  rw [bq_best h hb]
  exact bsT_q _ _
/-- what a boat of the best kind takes, as a number -/
theorem un_best {f : FR} {b : Nat} (h : Ws f) (hb : b < 8) : unitsC f b (bestC f b) = nI (unT (bestC f b) (cm (fw f) b) (cr (fw f) b)) ∧ unT (bestC f b) (cm (fw f) b) (cr (fw f) b) < 2 ^ 31 := ⟨unC_T (h b hb).1 (h b hb).2 (be_q h hb), unT_le (cm_le _ _) (cr_le _ _)⟩
-- a boat becomes one of the best kind
theorem bb_cs (f : FR) (b : Nat) : Cs f (bbF f b).1 := by
  rw [bb_eq]
  split
  · exact Cs.rf
  · exact ⟨rfl, rfl, rfl, rfl, i_cs _ _ _⟩
theorem bb_p {f : FR} {b p : Nat} (h : Ws f) (hb : b < 8) (hp : fp f = nI p) (hp2 : p ≤ 9999) : ∃ q, q ≤ p ∧ (bbF f b).2 = nI q ∧ fp (bbF f b).1 = nI (p - q) := by
  obtain ⟨u1, u2⟩ := un_best h hb
  rw [bb_eq]
  split
  · exact ⟨0, Nat.zero_le _, rfl, hp⟩
  · rename_i c
    have hU : unT (bestC f b) (cm (fw f) b) (cr (fw f) b) ≤ p := Nat.le_of_not_lt (fun z => c (Or.inr (by rw [hp, u1]; exact (nI_ltI (by omega) u2).mpr z)))
    refine ⟨_, hU, u1, ?_⟩
    show fp f - unitsC f b (bestC f b) = _
    rw [hp, u1, pk_sub hU]
theorem bb_kq {f : FR} {b : Nat} (h : Ws f) (hk : Kq f) (hb : b < 8) : Kq (bbF f b).1 := by
  rw [bb_eq]
  split
  · exact hk
  · exact kq_up hk (be_q h hb)
theorem bb_ne (f : FR) (b : Nat) {b' : Nat} (e : b' ≠ b) : fk (bbF f b).1 b' = fk f b' := by
  rw [bb_eq]
  split
  · rfl
  · exact if_neg e
theorem bb_at (f : FR) (b : Nat) : fk (bbF f b).1 b = bestC f b ∨ (fk (bbF f b).1 b = fk f b ∧ fp (bbF f b).1 = fp f ∧ fp f < unitsC f b (bestC f b)) := by
  rw [bb_eq]
  by_cases c : bestC f b = fk f b
  · rw [if_pos (Or.inl c)]
    exact Or.inl c.symm
  · by_cases c2 : fp f < unitsC f b (bestC f b)
    · rw [if_pos (Or.inr c2)]
      exact Or.inr ⟨rfl, rfl, c2⟩
    · rw [if_neg (fun z => z.elim c c2)]
      exact Or.inl (if_pos rfl)
theorem bb_pz {f : FR} {b : Nat} (h : Ws f) (hb : b < 8) (hp : Pz f) : Pz (bbF f b).1 := by
  obtain ⟨p, p1, p2⟩ := hp
  obtain ⟨q, q1, q2, q3⟩ := bb_p h hb p2 p1
  exact ⟨p - q, by omega, q3⟩
theorem bb_gd {f : FR} {b : Nat} (h : Gd f) (hb : b < 8) : Gd (bbF f b).1 := by
  have c := bb_cs f b
  refine gd_mk (c.ws h.1) (bb_kq h.1 h.2.1 hb) (bb_pz h.1 hb h.2.2.1) (fun b' hb' => ?_)
  rw [c.1, c.ho]
  by_cases e : b' = b
  · subst e
    rcases bb_at f b' with z | z
    · rw [z]
      exact ⟨fun hc => best_0 h.1 hb hc, ho_best h.1 hb⟩
    · rw [z.1]
      exact h.bay hb
  · rw [bb_ne f b e]
    exact h.bay hb'
-- numbers come and go
theorem gp_flip {f : FR} {n : Nat} (h : Gd f) (hn : n < 2048) : Gp (flipF f n) (n / 256) := by
  refine ⟨ws_flip h.1 hn, h.2.1, h.2.2.1, fun b hb hne => ?_⟩
  obtain ⟨a1, a2⟩ := h.bay hb
  have e1 : fs (flipF f n) b = fs f b := if_neg hne
  have e2 : fr (flipF f n) b = fr f b := if_neg hne
  have e3 : cm (fw (flipF f n)) b = cm (fw f) b := cm_out (w := fw f) (n := n) hne
  refine ⟨fun hc => a1 (e3.symm.trans hc), ?_⟩
  rw [ho_cong e1 e2]
  exact a2
theorem ad_ok {f : FR} {b : Nat} (h : Gp f b) (hb : b < 8) : Cs f (adF f b).1 ∧ ((adF f b).2 = true → Gd (adF f b).1) := by
  unfold adF
  by_cases c : fs f b = 0
  · rw [if_pos c]
    refine ⟨⟨rfl, rfl, rfl, rfl, rfl⟩, fun _ => gd_mk h.1 (kq_up h.2.1 (Or.inl rfl)) h.2.2.1 (fun b' hb' => ?_)⟩
    show (cm (fw f) b' = 0 → upd (fk f) b 0 b' = 0) ∧ holdC (fkS f (upd (fk f) b 0)) b' (upd (fk f) b 0 b') = true
    rw [ho_cong (f := f) (g := fkS f (upd (fk f) b 0)) rfl rfl]
    by_cases e : b' = b
    · subst e
      rw [pk_us]
      refine ⟨fun _ => rfl, ?_⟩
      rw [hoC_0 (h.1 b' hb).1 (cm_le _ _), (fs_0 h.1 hb).mp c]
      rfl
    · rw [pk_un e]
      exact h.2.2.2 b' hb' e
  · rw [if_neg c]
    have hc : cm (fw f) b ≠ 0 := fun z => c ((fs_0 h.1 hb).mpr z)
    by_cases a : fa f = false
    · rw [if_pos a]
      have k := bb_cs f b
      refine ⟨k, fun hh => gd_mk (k.ws h.1) (bb_kq h.1 h.2.1 hb) (bb_pz h.1 hb h.2.2.1) (fun b' hb' => ?_)⟩
      by_cases e : b' = b
      · subst e
        exact ⟨fun z => absurd (by rw [k.1] at z; exact z) hc, hh⟩
      · show (cm (fw (bbF f b).1) b' = 0 → fk (bbF f b).1 b' = 0) ∧ holdC (bbF f b).1 b' (fk (bbF f b).1 b') = true
        rw [k.1, k.ho, bb_ne f b e]
        exact h.2.2.2 b' hb' e
    · rw [if_neg a]
      refine ⟨Cs.rf, fun hh => gd_mk h.1 h.2.1 h.2.2.1 (fun b' hb' => ?_)⟩
      by_cases e : b' = b
      · subst e
        exact ⟨fun z => absurd z hc, hh⟩
      · exact h.2.2.2 b' hb' e
theorem sum_upd (v : Nat → Int32) (b : Nat) (x : Int32) : ∀ n, sumI (upd v b (v b + x)) n = if b < n then sumI v n + x else sumI v n
  | 0 => rfl
  | n + 1 => by
    show sumI (upd v b (v b + x)) n + upd v b (v b + x) n = if b < n + 1 then sumI v n + v n + x else sumI v n + v n
    rw [sum_upd v b x n]
    by_cases e : n = b
    · subst e
      rw [if_neg (by omega), if_pos (by omega), pk_us, Int32.add_assoc]
    · rw [pk_un e]
      by_cases c : b < n
      · rw [if_pos c, if_pos (by omega), Int32.add_assoc, Int32.add_comm x, ← Int32.add_assoc]
      · rw [if_neg c, if_neg (by omega)]
theorem sum_flip (f : FR) {n : Nat} (hn : n < 2048) : sumI (fs (flipF f n)) 8 = sumI (fs f) 8 + chI (fbit (fw f) n) := by
  have h := sum_upd (fs f) (n / 256) (chI (fbit (fw f) n)) 8
  rw [if_pos (by omega)] at h
  exact h
/-- what goes and comes -/
def pmI (c : Bool) (x : Int32) (d : Nat) : Int32 := if c = true then x + nI d else x - nI d
theorem pm_0 (c : Bool) (x : Int32) : pmI c x 0 = x := by
  cases c
  · exact Int32.sub_zero x
  · exact Int32.add_zero x
theorem pm_s {c b : Bool} (x : Int32) (d : Nat) (h : ¬ b = c) : pmI c (x + chI b) d = pmI c x (d + 1) := by
  cases c <;> cases b
  · exact absurd rfl h
  · show x + -1 - nI d = x - nI (d + 1)
    rw [Int32.sub_eq_add_neg, Int32.sub_eq_add_neg, ← nI_add d 1, Int32.neg_add, Int32.add_assoc, Int32.sub_eq_add_neg, Int32.add_comm (-nI d)]
    rfl
  · show x + 1 + nI d = x + nI (d + 1)
    rw [Int32.add_assoc, ← nI_add d 1, Int32.add_comm (nI d)]
    rfl
  · exact absurd rfl h
theorem mv_ok {c : Bool} : ∀ (k n m : Nat) (f : FR), Gd f → n + k ≤ 2048 → (mvF c k n m f).2 = -3 ∨ ∃ d, d ≤ k ∧ (mvF c k n m f).2 = nI (m + d) ∧ Gd (mvF c k n m f).1 ∧ fa (mvF c k n m f).1 = fa f ∧ fp (mvF c k n m f).1 + fd (mvF c k n m f).1 = fp f + fd f ∧ sumI (fs (mvF c k n m f).1) 8 = pmI c (sumI (fs f) 8) d
  | 0, n, m, f, h, _ => Or.inr ⟨0, Nat.le_refl _, rfl, h, rfl, rfl, (pm_0 c _).symm⟩
  | k + 1, n, m, f, h, hk => by
    unfold mvF
    by_cases e : fbit (fw f) n = c
    · rw [if_pos e]
      rcases mv_ok k (n + 1) m f h (by omega) with z | ⟨d, d1, d2, d3, d4, d5, d6⟩
      · exact Or.inl z
      · exact Or.inr ⟨d, by omega, d2, d3, d4, d5, d6⟩
    · rw [if_neg e]
      obtain ⟨a1, a2⟩ := ad_ok (gp_flip h (show n < 2048 by omega)) (show n / 256 < 8 by omega)
      by_cases a : (adF (flipF f n) (n / 256)).2 = true
      · rw [if_pos a]
        rcases mv_ok k (n + 1) (m + 1) _ (a2 a) (by omega) with z | ⟨d, d1, d2, d3, d4, d5, d6⟩
        · exact Or.inl z
        · refine Or.inr ⟨d + 1, by omega, by rw [d2]; congr 1; omega, d3, d4.trans a1.2.2.2.1, d5.trans a1.2.2.2.2, ?_⟩
          rw [d6, a1.2.1, sum_flip f (by omega), pm_s _ _ e]
      · rw [if_neg a]
        exact Or.inl rfl
-- a set docks
theorem sv_pos {f : FR} {b : Nat} (h : Gd f) (hb : b < 8) : ∃ x, x < 2 ^ 31 ∧ unitsC f b (fk f b) - unitsC f b (bestC f b) = nI x := by
  have e := bq_best h.1 hb
  have h2 := (h.bay hb).2
  have q := h.2.1 b hb
  rw [unC_T (h.1 b hb).1 (h.1 b hb).2 q, (un_best h.1 hb).1, e]
  have le : unT (bsT (cm (fw f) b) (cr (fw f) b)) (cm (fw f) b) (cr (fw f) b) ≤ unT (fk f b) (cm (fw f) b) (cr (fw f) b) := bsT_le q (fun z => by
    rw [z, hoC_2 (h.1 b hb).2 (cr_le _ _)] at h2
    exact of_decide_eq_true h2)
  exact ⟨_, Nat.lt_of_le_of_lt (Nat.sub_le _ _) (unT_le (cm_le _ _) (cr_le _ _)), pk_sub le⟩
theorem bs_ok {f : FR} {L : Int32} (h : Gd f) : ∀ n, n ≤ 8 → ((bsN f L n).1 = -5 ∧ (bsN f L n).2 = -1 ∧ ∀ b, b < n → bt L b = true ∨ fk f b = bestC f b) ∨ ∃ b, b < n ∧ (bsN f L n).1 = nI b ∧ bt L b = false ∧ ¬ fk f b = bestC f b
  | 0, _ => Or.inl ⟨rfl, rfl, fun b hb => absurd hb (Nat.not_lt_zero _)⟩
  | n + 1, hn => by
    have ih := bs_ok (L := L) h n (by omega)
    simp only [bsN]
    by_cases c : bt L n = false ∧ ¬ fk f n = bestC f n ∧ (bsN f L n).2 < unitsC f n (fk f n) - unitsC f n (bestC f n)
    · rw [if_pos c]
      exact Or.inr ⟨n, by omega, rfl, c.1, c.2.1⟩
    · rw [if_neg c]
      rcases ih with ⟨i1, i2, i3⟩ | ⟨b, i1, i2, i3⟩
      · refine Or.inl ⟨i1, i2, fun b hb => ?_⟩
        by_cases e : b = n
        · subst e
          cases hb2 : bt L b with
          | true => exact Or.inl rfl
          | false =>
            refine Or.inr (Decidable.byContradiction fun z => c ⟨hb2, z, ?_⟩)
            obtain ⟨x, x1, x2⟩ := sv_pos h (show b < 8 by omega)
            rw [i2, x2]
            exact Int32.lt_of_lt_of_le (show (-1 : Int32) < 0 by decide) (nI_pos' x1)
        · exact i3 b (by omega)
      · exact Or.inr ⟨b, by omega, i2, i3⟩
/-- no boat of the bay b could pay -/
def Np (f : FR) (b : Nat) : Prop := fk f b = bestC f b ∨ fp f < unitsC f b (bestC f b)
theorem eh_ok : ∀ (k : Nat) (f : FR) (tl L : Int32) (p : Nat), Gd f → fp f = nI p → p ≤ 9999 → un L ≤ k → (∀ b, b < 8 → bt L b = true → Np f b) →
    ∃ q, q ≤ p ∧ (ehF k f tl L).2 = tl + nI q ∧ fp (ehF k f tl L).1 = nI (p - q) ∧ Gd (ehF k f tl L).1 ∧ Cs f (ehF k f tl L).1 ∧ ∀ b, b < 8 → Np (ehF k f tl L).1 b
  | 0, f, tl, L, p, h, hp, _, hL, hs => ⟨0, Nat.zero_le _, (Int32.add_zero tl).symm, hp, h, Cs.rf, fun b hb => hs b hb (un_0 hL hb)⟩
  | k + 1, f, tl, L, p, h, hp, hp2, hL, hs => by
    rcases bs_ok (L := L) h 8 (Nat.le_refl _) with ⟨i1, i2, i3⟩ | ⟨b, i1, i2, i3, i4⟩
    · rw [eh_none i1 (k + 1) tl]
      exact ⟨0, Nat.zero_le _, (Int32.add_zero tl).symm, hp, h, Cs.rf, fun b hb => (i3 b hb).elim (fun z => hs b hb z) (fun z => Or.inl z)⟩
    · unfold ehF
      rw [if_neg (by rw [i2]; exact nI_m5 (by omega)), i2, ix_nI (by omega)]
      obtain ⟨q, q1, q2, q3⟩ := bb_p h.1 i1 hp hp2
      have c := bb_cs f b
      have h2 := un_lt i1 i3
      obtain ⟨q', r1, r2, r3, r4, r5, r6⟩ := eh_ok k (bbF f b).1 (tl + (bbF f b).2) (L ||| (1 : Int32) <<< (nI b &&& 31)) (p - q) (bb_gd h i1) q3 (by omega) (by omega) (fun b' hb' z => by
        unfold Np
        rw [c.be, c.un]
        by_cases e : b' = b
        · subst e
          rcases bb_at f b' with y | y
          · exact Or.inl y
          · exact Or.inr (by rw [y.2.1]; exact y.2.2)
        · rw [bt_or1 (by omega) (by omega), decide_eq_false e, Bool.or_false] at z
          rw [bb_ne f b e]
          rcases hs b' hb' z with y | y
          · exact Or.inl y
          · refine Or.inr (Int32.lt_of_le_of_lt ?_ y)
            rw [q3, hp]
            exact (nI_leI (by omega) (by omega)).mpr (by omega))
      refine ⟨q + q', by omega, ?_, by rw [r3]; congr 1; omega, r4, c.tr r5, r6⟩
      rw [r2, q2, Int32.add_assoc, nI_add]
theorem gd_sea {f : FR} (h : Gd f) (v : Bool) : Gd (faS f v) := h
theorem un_00 : un 0 ≤ 8 := cnt_le _ _ _
/-- a set docks -/
theorem dk_ok {f : FR} {p : Nat} (h : Gd f) (hp : fp f = nI p) (hp2 : p ≤ 9999) : ∃ q, q ≤ p ∧ (ehF 8 (faS f false) 0 0).2 = nI q ∧ fp (ehF 8 (faS f false) 0 0).1 = nI (p - q) ∧ Gd (ehF 8 (faS f false) 0 0).1 ∧ Cs (faS f false) (ehF 8 (faS f false) 0 0).1 ∧ ∀ b, b < 8 → Np (ehF 8 (faS f false) 0 0).1 b := by
  obtain ⟨q, q1, q2, q3⟩ := eh_ok 8 (faS f false) 0 0 p (gd_sea h false) hp hp2 un_00 (fun b hb z => by rw [b_0] at z; exact absurd z (by decide))
  exact ⟨q, q1, q2.trans (Int32.zero_add _), q3⟩
-- sets made of two others, new sets, copies
theorem fl_gd {how : Int32} {o p f : FR} (h : Pz f) : Gd (flF how o p f) ∧ fp (flF how o p f) = fp f ∧ fd (flF how o p f) = fd f ∧ fa (flF how o p f) = fa f := by
  obtain ⟨r1, r2, r3, r4, r5, r6⟩ := flF_ok (how := how) (o := o) (p := p) (f := f) (gv := fun n => bl (joC how (fw o (n / 64)) (fw p (n / 64))) (n % 64)) (fun b k hb hk => by
    show _ = bl (joC how (fw o ((64 * b + k) / 64)) (fw p ((64 * b + k) / 64))) ((64 * b + k) % 64)
    rw [show (64 * b + k) / 64 = b by omega, show (64 * b + k) % 64 = k by omega])
  obtain ⟨p0, p1, p2⟩ := h
  refine ⟨gd_mk r1 (fun b hb => by rw [r3 b hb]; exact bsT_q _ _) ⟨p0, p1, r4.trans p2⟩ (fun b hb => ?_), r4, r5, r6⟩
  refine ⟨fun hc => by rw [r3 b hb, hc, bsT_0], ?_⟩
  rw [r3 b hb, ← bq_best r1 hb]
  exact ho_best r1 hb
theorem bg_gd {f : FR} {p : Nat} (hp : p ≤ 9999) : Gd (bgF f (nI p)) := by
  have w := (fill_ok f (fun _ => false)).1
  refine gd_mk w (fun b hb => Or.inl (if_pos hb)) ⟨p, hp, rfl⟩ (fun b hb => ?_)
  have e : fk (bgF f (nI p)) b = 0 := if_pos hb
  have e2 : fs (bgF f (nI p)) b = 0 := if_pos hb
  refine ⟨fun _ => e, ?_⟩
  rw [e]
  show decide (fs (bgF f (nI p)) b ≤ 24) = true
  rw [e2]
  rfl
theorem fe_bit {f g : FR} (e : Feq f g) {n : Nat} (hn : n < 2048) : fbit (fw g) n = fbit (fw f) n := by
  unfold fbit
  rw [e.1 (n / 64) (by omega)]
theorem fe_cm {f g : FR} (e : Feq f g) {b : Nat} (hb : b < 8) : cm (fw g) b = cm (fw f) b := cnt_cong 256 (fun j hj => fe_bit e (by omega))
theorem fe_cr {f g : FR} (e : Feq f g) {b : Nat} (hb : b < 8) : cr (fw g) b = cr (fw f) b := cnt_cong 256 (fun j hj => by unfold runB; rw [fe_bit e (show 256 * b + j < 2048 by omega), fe_bit e (show 256 * b + j - 1 < 2048 by omega)])
theorem gd_feq {f g : FR} (e : Feq f g) (h : Gd f) : Gd g := by
  obtain ⟨p, p1, p2⟩ := h.2.2.1
  refine gd_mk (fun b hb => ?_) (fun b hb => by rw [(e.2.1 b hb).1]; exact h.2.1 b hb) ⟨p, p1, e.2.2.1.trans p2⟩ (fun b hb => ?_)
  · rw [(e.2.1 b hb).2.1, (e.2.1 b hb).2.2, fe_cm e hb, fe_cr e hb]
    exact h.1 b hb
  · rw [fe_cm e hb, (e.2.1 b hb).1, ho_cong (e.2.1 b hb).2.1 (e.2.1 b hb).2.2]
    exact h.bay hb
theorem gd_cp {o : FR} (f : FR) (h : Gd o) : Gd (cpF o f) := gd_feq (feq_cp o f) h
theorem Feq.tr {f g h : FR} (a : Feq f g) (b : Feq g h) : Feq f h := ⟨fun j hj => (b.1 j hj).trans (a.1 j hj), fun j hj => ⟨(b.2.1 j hj).1.trans (a.2.1 j hj).1, (b.2.1 j hj).2.1.trans (a.2.1 j hj).2.1, (b.2.1 j hj).2.2.trans (a.2.1 j hj).2.2⟩, b.2.2.1.trans a.2.2.1, b.2.2.2.1.trans a.2.2.2.1, b.2.2.2.2.trans a.2.2.2.2⟩
theorem Feq.sy {f g : FR} (a : Feq f g) : Feq g f := ⟨fun j hj => (a.1 j hj).symm, fun j hj => ⟨(a.2.1 j hj).1.symm, (a.2.1 j hj).2.1.symm, (a.2.1 j hj).2.2.symm⟩, a.2.2.1.symm, a.2.2.2.1.symm, a.2.2.2.2.symm⟩
-- docking tells the same of sets that tell the same
theorem fe_be {f g : FR} (e : Feq f g) {b : Nat} (hb : b < 8) : bestC g b = bestC f b := be_cong (e.2.1 b hb).2.1 (e.2.1 b hb).2.2
theorem fe_un {f g : FR} (e : Feq f g) {b : Nat} (hb : b < 8) (k : Int32) : unitsC g b k = unitsC f b k := un_cong (e.2.1 b hb).2.1 (e.2.1 b hb).2.2
theorem fe_bs {f g : FR} (e : Feq f g) (L : Int32) : ∀ n, n ≤ 8 → bsN g L n = bsN f L n
  | 0, _ => rfl
  | n + 1, hn => by
    simp only [bsN]
    rw [fe_bs e L n (by omega), fe_be e (by omega), fe_un e (by omega), fe_un e (by omega), (e.2.1 n (by omega)).1]
theorem fe_bb {f g : FR} (e : Feq f g) {b : Nat} (hb : b < 8) : (bbF g b).2 = (bbF f b).2 ∧ Feq (bbF f b).1 (bbF g b).1 := by
  rw [bb_eq, bb_eq, fe_be e hb, fe_un e hb, (e.2.1 b hb).1, e.2.2.1]
  split
  · exact ⟨rfl, e⟩
  · refine ⟨rfl, e.1, fun b' hb' => ⟨?_, (e.2.1 b' hb').2⟩, ?_, ?_, e.2.2.2.2⟩
    · show upd (fk g) b (bestC g b) b' = upd (fk f) b (bestC f b) b'
      unfold upd
      rw [fe_be e hb, (e.2.1 b' hb').1]
    · show fp g - unitsC g b (bestC g b) = fp f - unitsC f b (bestC f b)
      rw [fe_be e hb, fe_un e hb, e.2.2.1]
    · show fd g + unitsC g b (bestC g b) = fd f + unitsC f b (bestC f b)
      rw [fe_be e hb, fe_un e hb, e.2.2.2.1]
theorem fe_eh : ∀ (k : Nat) (f g : FR) (tl L : Int32), Feq f g → (ehF k g tl L).2 = (ehF k f tl L).2
  | 0, _, _, _, _, _ => rfl
  | k + 1, f, g, tl, L, e => by
    unfold ehF
    rw [fe_bs e L 8 (Nat.le_refl _)]
    by_cases c : (bsN f L 8).1 = -5
    · rw [if_pos c, if_pos c]
      exact fe_eh k f g tl L e
    · rw [if_neg c, if_neg c]
      obtain ⟨b, b1, b2⟩ := bsN_some8 c
      rw [b2, ix_nI (by omega), (fe_bb e b1).1]
      exact fe_eh k _ _ _ _ (fe_bb e b1).2
theorem fe_sea {f g : FR} (e : Feq f g) (v : Bool) : Feq (faS f v) (faS g v) := ⟨e.1, e.2.1, e.2.2.1, e.2.2.2.1, rfl⟩
