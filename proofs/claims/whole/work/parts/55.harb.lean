/-! All sets: both sides the same -/
def Hr (F : Nat → FR) (m : Nat) (g : Nat → Int32) : Prop := m ≤ 6 ∧ g 0 = nI m ∧ (∀ s, s < m → Fl (F s) g s) ∧ ∀ s w, m ≤ s → s < 6 → w < 75 → ofN g s w = 0
theorem fl_row {f : FR} {g g' : Nat → Int32} {s s' : Nat} (h : Fl f g s) (e : ∀ w, w < 75 → ofN g' s' w = ofN g s w) : Fl f g' s' := by
  obtain ⟨⟨h1, h2, h3, h4, h5⟩, h6⟩ := h
  refine ⟨⟨h1, h2, fun n hn => ?_, ⟨?_, ?_, ?_⟩, fun b hb => ?_⟩, h6⟩
  · have := h3 n hn
    unfold mb at this ⊢
    rw [e _ (by omega)]
    exact this
  · rw [e _ (by omega)]; exact h4.1
  · rw [e _ (by omega)]; exact h4.2.1
  · rw [e _ (by omega)]; exact h4.2.2
  · unfold Rk
    rw [e _ (by omega)]
    exact h5 b hb
/-- a fleet may be said otherwise beyond its rows' ends -/
def Feq (f f' : FR) : Prop := (∀ j, j < 32 → fw f' j = fw f j) ∧ (∀ b, b < 8 → fk f' b = fk f b ∧ fs f' b = fs f b ∧ fr f' b = fr f b) ∧ fp f' = fp f ∧ fd f' = fd f ∧ fa f' = fa f
theorem fl_feq {f f' : FR} {g : Nat → Int32} {s : Nat} (h : Fl f g s) (e : Feq f f') : Fl f' g s := by
  obtain ⟨⟨h1, h2, h3, h4, h5⟩, h6⟩ := h
  obtain ⟨e1, e2, e3, e4, e5⟩ := e
  have eb : ∀ n, n < 2048 → fbit (fw f') n = fbit (fw f) n := fun n hn => by
    unfold fbit
    rw [e1 _ (by omega)]
  have em : ∀ b, b < 8 → cm (fw f') b = cm (fw f) b := fun b hb => cnt_cong 256 (fun j hj => eb _ (by omega))
  have er : ∀ b, b < 8 → cr (fw f') b = cr (fw f) b := fun b hb => cnt_cong 256 (fun j hj => by
    unfold runB
    rw [eb _ (by omega), eb (256 * b + j - 1) (by omega)])
  refine ⟨⟨fun b hb => ?_, fun b hb => ?_, fun n hn => ?_, ⟨?_, ?_, ?_⟩, fun b hb => ?_⟩, fun b hb => ?_⟩
  · rw [em b hb, er b hb, (e2 b hb).2.1, (e2 b hb).2.2]; exact h1 b hb
  · rw [(e2 b hb).1]; exact h2 b hb
  · rw [eb n hn]; exact h3 n hn
  · rw [e3]; exact h4.1
  · rw [e4]; exact h4.2.1
  · rw [e5]; exact h4.2.2
  · unfold Rk
    rw [em b hb, (e2 b hb).1]; exact h5 b hb
  · unfold Kd
    rw [em b hb, er b hb, (e2 b hb).1]; exact h6 b hb
theorem feq_cp (o f : FR) : Feq o (cpF o f) := by
  refine ⟨fun j hj => ?_, fun b hb => ⟨?_, ?_, ?_⟩, rfl, rfl, rfl⟩
  · show va_cpy (fw o) (fw f) 0 0 32 j = _
    unfold va_cpy
    rw [if_pos (by omega), Nat.zero_add, Nat.sub_zero]
  · show va_cpy (fk o) (fk f) 0 0 8 b = _
    unfold va_cpy
    rw [if_pos (by omega), Nat.zero_add, Nat.sub_zero]
  · show va_cpy (fs o) (fs f) 0 0 8 b = _
    unfold va_cpy
    rw [if_pos (by omega), Nat.zero_add, Nat.sub_zero]
  · show va_cpy (fr o) (fr f) 0 0 8 b = _
    unfold va_cpy
    rw [if_pos (by omega), Nat.zero_add, Nat.sub_zero]
theorem fl_cp {o f : FR} {g : Nat → Int32} {s : Nat} (h : Fl o g s) : Fl (cpF o f) g s := fl_feq h (feq_cp o f)
theorem hr_is {F : Nat → FR} {m : Nat} {g : Nat → Int32} (h : Hr F m g) (s : Int32) : isSBm g s = isC m s := by
  cases e : isC m s with
  | true =>
    obtain ⟨k, hk, rfl⟩ := isC_of h.1 e
    exact isS_nI h.2.1 h.1 hk
  | false =>
    cases e2 : isSBm g s with
    | false => rfl
    | true =>
      obtain ⟨k, hk, rfl⟩ := isS_of h.2.1 h.1 e2
      rw [show isC m (nI k) = true from decide_eq_true ⟨nI_pos' (by have := h.1; omega), (nI_ltI (by have := h.1; omega) (by have := h.1; omega)).mpr hk⟩] at e
      exact absurd e (by decide)
theorem hoC_sw {F : Nat → FR} {g : Nat → Int32} {n : Nat} (hn : n < 2048) : ∀ m, (∀ s, s < m → Fl (F s) g s) → hoC F n m = swN g m n
  | 0, _ => rfl
  | m + 1, h => by
    show hoC F n m + (if fbit (fw (F m)) n = true then 1 else 0) = cnt (fun s => mb g s n) 0 m + (if mb g (0 + m) n = true then 1 else 0)
    rw [hoC_sw hn m (fun s hs => h s (by omega)), Nat.zero_add, (h m (by omega)).1.2.2.1 n hn]
    rfl
theorem or_bit {F : Nat → FR} (w : Nat) {i : Nat} : ∀ m, bl (orC F w m) i = decide (0 < cnt (fun j => bl (fw (F j) w) i) 0 m)
  | 0 => by
    show bl 0 i = _
    rw [l_0]; rfl
  | m + 1 => by
    show bl (orC F w m ||| fw (F m) w) i = _
    rw [l_or, or_bit w m, cnt_s, Nat.zero_add]
    cases bl (fw (F m) w) i with
    | true => rw [Bool.or_true, if_pos rfl, decide_eq_true (by omega)]
    | false => rw [Bool.or_false, if_neg (by decide), Nat.add_zero]
theorem ho_cnt (F : Nat → FR) (n : Nat) : ∀ m, hoC F n m = cnt (fun j => fbit (fw (F j)) n) 0 m
  | 0 => rfl
  | m + 1 => by
    show hoC F n m + _ = cnt _ 0 m + (if fbit (fw (F (0 + m))) n = true then 1 else 0)
    rw [ho_cnt F n m, Nat.zero_add]
theorem or_fb (F : Nat → FR) (m n : Nat) : fbit (fun w => orC F w m) n = decide (0 < hoC F n m) := by
  show bl (orC F (n / 64) m) (n % 64) = _
  rw [or_bit, ho_cnt]
  rfl
theorem diff_ok {F : Nat → FR} {m : Nat} {g : Nat → Int32} (h : ∀ s, s < m → Fl (F s) g s) : smN (fun v => pcN (orC F v m)) 32 = diffN g m := by
  rw [sm_cnt (fun v => orC F v m)]
  refine cnt_cong 2048 (fun j hj => ?_)
  rw [or_fb, hoC_sw (by omega) m h]
theorem lk_z {F : Nat → FR} {m w k : Nat} (h : orC F w m = 0) (hk : k < 64) : hoC F (w * 64 + k) m = 0 := by
  have : bl (orC F ((w * 64 + k) / 64) m) ((w * 64 + k) % 64) = decide (0 < hoC F (w * 64 + k) m) := or_fb F m (w * 64 + k)
  rw [show (w * 64 + k) / 64 = w by omega, show (w * 64 + k) % 64 = k by omega, h, l_0] at this
  have := of_decide_eq_false this.symm
  omega
theorem mostN_skip {c : Nat → Nat} {n : Nat} : ∀ k, (∀ j, j < k → c (n + j) = 0) → mostN c (n + k) = mostN c n
  | 0, _ => rfl
  | k + 1, h => by
    show (if (mostN c (n + k)).2 < c (n + k) then _ else mostN c (n + k)) = _
    rw [h k (by omega), if_neg (Nat.not_lt_zero _)]
    exact mostN_skip k (fun j hj => h j (by omega))
theorem mhI_ok {F : Nat → FR} {m w : Nat} : ∀ u k, mhI F m w u k (mostN (fun n => hoC F n m) (w * 64 + k)).1 (mostN (fun n => hoC F n m) (w * 64 + k)).2 = mostN (fun n => hoC F n m) (w * 64 + k + u)
  | 0, k => rfl
  | u + 1, k => by
    have ih := mhI_ok (F := F) (m := m) (w := w) u (k + 1)
    have e : mostN (fun n => hoC F n m) (w * 64 + (k + 1)) = if (mostN (fun n => hoC F n m) (w * 64 + k)).2 < hoC F (w * 64 + k) m then (nI (w * 64 + k), hoC F (w * 64 + k) m) else mostN (fun n => hoC F n m) (w * 64 + k) := rfl
    rw [mhI]
    rw [e] at ih
    rw [show w * 64 + k + (u + 1) = w * 64 + (k + 1) + u by omega]
    by_cases c : (mostN (fun n => hoC F n m) (w * 64 + k)).2 < hoC F (w * 64 + k) m
    · rw [if_pos c] at ih ⊢
      exact ih
    · rw [if_neg c] at ih ⊢
      exact ih
theorem mhO_ok {F : Nat → FR} {m : Nat} : ∀ u w, mhO F m u w (mostN (fun n => hoC F n m) (64 * w)).1 (mostN (fun n => hoC F n m) (64 * w)).2 = (mostN (fun n => hoC F n m) (64 * (w + u))).1
  | 0, w => rfl
  | u + 1, w => by
    rw [mhO]
    have e : mhI F m w (lkE F m w) 0 (mostN (fun n => hoC F n m) (64 * w)).1 (mostN (fun n => hoC F n m) (64 * w)).2 = mostN (fun n => hoC F n m) (64 * (w + 1)) := by
      have h1 := mhI_ok (F := F) (m := m) (w := w) (lkE F m w) 0
      rw [Nat.add_zero, Nat.mul_comm w 64] at h1
      rw [h1]
      unfold lkE
      by_cases c : orC F w m = 0
      · rw [if_pos c, Nat.add_zero]
        have h2 := mostN_skip (c := fun n => hoC F n m) (n := 64 * w) 64 (fun j hj => by
          have := lk_z c hj
          rw [Nat.mul_comm w 64] at this
          exact this)
        exact h2.symm
      · rw [if_neg c]
        rfl
    rw [e, mhO_ok u (w + 1), show w + 1 + u = w + (u + 1) by omega]
theorem most_ok {F : Nat → FR} {m : Nat} {g : Nat → Int32} (h : ∀ s, s < m → Fl (F s) g s) : mhO F m 32 0 (-5) 0 = (mostN (swN g m) 2048).1 := by
  have h1 := mhO_ok (F := F) (m := m) 32 0
  have h2 : ∀ n, n ≤ 2048 → mostN (fun n => hoC F n m) n = mostN (swN g m) n := by
    intro n
    induction n with
    | zero => intro _; rfl
    | succ n ih =>
      intro hn
      simp only [mostN]
      rw [ih (by omega), hoC_sw (by omega) m h]
  rw [h2 (64 * (0 + 32)) (by omega)] at h1
  exact h1
theorem i_lt {x c : Nat} (hx : x < 2 ^ 31) (hc : c ≤ 6) : (nI x - nI c < 0) ↔ x < c := by
  rcases Nat.lt_or_ge x c with h | h
  · refine ⟨fun _ => h, fun _ => ?_⟩
    have : ∀ c, c ≤ 6 → ∀ x, x < c → nI x - nI c < 0 := by decide
    exact this c hc x h
  · refine ⟨fun z => ?_, fun z => by omega⟩
    rw [pk_sub h] at z
    exact absurd z (nI_pos (by omega))
/-- at place x of all from n on -/
theorem oa_skip {c : Nat → Nat} {x : Nat} : ∀ k u n, (∀ j, j < k → c (n + j) = 0) → x < 2 ^ 31 → oaN c (k + u) n (nI x) = oaN c u (n + k) (nI x)
  | 0, u, n, _, _ => by rw [Nat.zero_add]; rfl
  | k + 1, u, n, h, hx => by
    rw [show k + 1 + u = (k + u) + 1 by omega, oaN]
    have h0 := h 0 (by omega)
    rw [Nat.add_zero] at h0
    rw [h0, if_neg (show ¬ nI x < nI 0 from nI_pos hx), pk_sub (Nat.zero_le _), Nat.sub_zero]
    have := oa_skip (c := c) (x := x) k u (n + 1) (fun j hj => by have := h (j + 1) (by omega); rw [show n + (j + 1) = n + 1 + j by omega] at this; exact this) hx
    rw [this, show n + 1 + k = n + (k + 1) by omega]
theorem naI_ok {F : Nat → FR} {m w : Nat} (hm : m ≤ 6) (hw : w < 32) {u : Nat} : ∀ v k x, k + v ≤ 64 → x < 2 ^ 31 → (¬ (naI F m w v k (nI x)).2 = -5 ∧ oaN (fun n => hoC F n m) (v + u) (w * 64 + k) (nI x) = (naI F m w v k (nI x)).2) ∨ (∃ y, y < 2 ^ 31 ∧ naI F m w v k (nI x) = (nI y, -5) ∧ oaN (fun n => hoC F n m) (v + u) (w * 64 + k) (nI x) = oaN (fun n => hoC F n m) u (w * 64 + k + v) (nI y))
  | 0, k, x, _, hx => Or.inr ⟨x, hx, rfl, by rw [Nat.zero_add]; rfl⟩
  | v + 1, k, x, hk, hx => by
    have hc : hoC F (w * 64 + k) m ≤ 6 := Nat.le_trans (hoC_le _ _ _) hm
    rw [show v + 1 + u = (v + u) + 1 by omega, oaN, naI]
    by_cases c : x < hoC F (w * 64 + k) m
    · rw [if_pos ((nI_ltI hx (by omega)).mpr c), if_pos ((i_lt hx hc).mpr c)]
      exact Or.inl ⟨nI_m5 (by omega), rfl⟩
    · rw [if_neg (fun z => c ((nI_ltI hx (by omega)).mp z)), if_neg (fun z => c ((i_lt hx hc).mp z)), pk_sub (by omega)]
      have := naI_ok (F := F) (m := m) (w := w) hm hw (u := u) v (k + 1) (x - hoC F (w * 64 + k) m) (by omega) (by omega)
      rw [show w * 64 + k + (v + 1) = w * 64 + (k + 1) + v by omega]
      exact this
theorem naO_ok {F : Nat → FR} {m : Nat} (hm : m ≤ 6) : ∀ u w x, w + u = 32 → x < 2 ^ 31 → naO F m u w (nI x) = oaN (fun n => hoC F n m) (64 * u) (64 * w) (nI x)
  | 0, w, x, _, _ => rfl
  | u + 1, w, x, hw, hx => by
    rw [naO]
    have ih := naO_ok (F := F) hm u (w + 1)
    by_cases c : orC F w m = 0
    · have e : lkE F m w = 0 := if_pos c
      rw [e]
      show (if (-5 : Int32) = -5 then naO F m u (w + 1) (nI x) else _) = _
      rw [if_pos rfl, ih x (by omega) hx]
      have h2 := oa_skip (c := fun n => hoC F n m) (x := x) 64 (64 * u) (64 * w) (fun j hj => by
        have := lk_z c hj
        rw [Nat.mul_comm w 64] at this
        exact this) hx
      rw [show 64 * (u + 1) = 64 + 64 * u by omega, h2]
      rfl
    · have e : lkE F m w = 64 := if_neg c
      rw [e]
      have h1 := naI_ok (F := F) (m := m) (w := w) hm (by omega) (u := 64 * u) 64 0 x (by omega) hx
      rw [show 64 * (u + 1) = 64 + 64 * u by omega]
      rw [Nat.add_zero, Nat.mul_comm w 64] at h1
      rcases h1 with ⟨a1, a2⟩ | ⟨y, y1, y2, y3⟩
      · rw [if_neg a1, a2]
      · rw [y2]
        show (if (-5 : Int32) = -5 then naO F m u (w + 1) (nI y) else _) = _
        rw [if_pos rfl, ih y (by omega) y1, y3]
        rfl
theorem oa_cong {c c' : Nat → Nat} : ∀ k n l, (∀ j, n ≤ j → j < n + k → c j = c' j) → oaN c k n l = oaN c' k n l
  | 0, _, _, _ => rfl
  | k + 1, n, l, h => by
    rw [oaN, oaN, h n (by omega) (by omega), oa_cong k (n + 1) _ (fun j h1 h2 => h j (by omega) (by omega))]
theorem all_ok {F : Nat → FR} {m : Nat} {g : Nat → Int32} (hm : m ≤ 6) (h : ∀ s, s < m → Fl (F s) g s) {x : Nat} (hx : x < 2 ^ 31) : naO F m 32 0 (nI x) = oaN (swN g m) 2048 0 (nI x) := by
  rw [naO_ok hm 32 0 x rfl hx]
  exact oa_cong 2048 0 _ (fun j h1 h2 => hoC_sw (by omega) m h)
theorem size_ok {f f' : FR} {g : Nat → Int32} {s o : Nat} (h : Fl f g s) (h' : Fl f' g o) {how : Int32} (hh : inB how 0 3 = true) : smN (fun j => pcN (joC how (fw f j) (fw f' j))) 32 = cnt (gbN g how s o) 0 2048 := by
  rw [sm_cnt (fun j => joC how (fw f j) (fw f' j))]
  refine cnt_cong 2048 (fun j hj => ?_)
  unfold gbN
  rw [h.1.2.2.1 _ (by omega), h'.1.2.2.1 _ (by omega)]
  exact jo_bt hh _ _ (Nat.mod_lt _ (by decide))
theorem ov_sum (g : Nat → Int32) (what : Int32) : ∀ n, ovN g what n = sumI (fun s => if what < 20 then setV g s what else kbN g s (what - 20) 8) n
  | 0 => rfl
  | n + 1 => by rw [ovN, ov_sum g what n]; rfl
theorem ov_ok {F : Nat → FR} {m : Nat} {g : Nat → Int32} {v : Nat → Int32} {what : Int32} (h : ∀ s, s < m → v s = if what < 20 then setV g s what else kbN g s (what - 20) 8) : sumI v m = ovN g what m := by
  rw [ov_sum]
  exact sum_cong m h
