/-! One set on both sides: the fleet f of the class, the set s of the row g -/
def cm (w : Nat → Int64) (b : Nat) : Nat := cnt (fbit w) (256 * b) 256
def cr (w : Nat → Int64) (b : Nat) : Nat := cnt (runB (fbit w)) (256 * b) 256
theorem cm_le (w : Nat → Int64) (b : Nat) : cm w b ≤ 256 := cnt_le _ _ _
theorem cr_le (w : Nat → Int64) (b : Nat) : cr w b ≤ 256 := cnt_le _ _ _
/-- a boat's numbers and runs, as they are kept -/
def Ws (f : FR) : Prop := ∀ b, b < 8 → fs f b = nI (cm (fw f) b) ∧ fr f b = nI (cr (fw f) b)
def Kq (f : FR) : Prop := ∀ b, b < 8 → fk f b = 0 ∨ fk f b = 1 ∨ fk f b = 2
def Kd (f : FR) (b : Nat) : Prop := (cm (fw f) b = 0 → fk f b = 0) ∧ (fk f b = 2 → cr (fw f) b ≤ 8)
def Rb (f : FR) (g : Nat → Int32) (s : Nat) : Prop := ∀ n, n < 2048 → mb g s n = fbit (fw f) n
def Rp (f : FR) (g : Nat → Int32) (s : Nat) : Prop := ofN g s 0 = fp f ∧ ofN g s 2 = fd f ∧ ofN g s 1 = bI (fa f)
def Rk (f : FR) (g : Nat → Int32) (s b : Nat) : Prop := ofN g s (3 + b) = if cm (fw f) b = 0 then 0 else fk f b + 1
/-- without what a boat's kind needs -/
def Fl0 (f : FR) (g : Nat → Int32) (s : Nat) : Prop := Ws f ∧ Kq f ∧ Rb f g s ∧ Rp f g s ∧ ∀ b, b < 8 → Rk f g s b
def Fl (f : FR) (g : Nat → Int32) (s : Nat) : Prop := Fl0 f g s ∧ ∀ b, b < 8 → Kd f b
-- rows
theorem of_lay {g : Nat → Int32} {s w : Nat} {v : Int32} {s' w' : Nat} (hw : w < 75) (hw' : w' < 75) : ofN (layN g s w v) s' w' = if s' = s ∧ w' = w then v else ofN g s' w' := by
  unfold ofN layN upd
  by_cases h : s' = s ∧ w' = w
  · obtain ⟨rfl, rfl⟩ := h
    rw [if_pos rfl, if_pos ⟨rfl, rfl⟩]
  · rw [if_neg h, if_neg (by omega)]
theorem of_lay1 {g : Nat → Int32} {s w : Nat} {v : Int32} : ofN (layN g s w v) s w = v := ofN_layN g s w v
theorem of_lay2 {g : Nat → Int32} {s w : Nat} {v : Int32} {s' w' : Nat} (hw : w < 75) (hw' : w' < 75) (h : ¬ (s' = s ∧ w' = w)) : ofN (layN g s w v) s' w' = ofN g s' w' := by rw [of_lay hw hw', if_neg h]
theorem mb_lay {g : Nat → Int32} {s w : Nat} {v : Int32} {s' n : Nat} (hw : w < 11) (hn : n < 2048) : mb (layN g s w v) s' n = mb g s' n := by
  unfold mb
  rw [of_lay2 (by omega) (by omega) (by omega)]
theorem b_not (x : Int32) {i : Nat} (hi : i < 32) : bt (x ^^^ (-1)) i = !bt x i := by rw [b_xor, b_m1 i hi, Bool.xor_true]
theorem pv_bt (x : Int32) (n : Nat) (is : Bool) {k : Nat} (hk : k < 32) : bt (if is = true then x ||| bitI n else x &&& (bitI n ^^^ (-1))) k = if k = n % 32 then is else bt x k := by
  have hb : bt (bitI n) k = decide (k = n % 32) := bt_one _ (Nat.mod_lt _ (by decide)) hk
  cases is
  · show bt (x &&& (bitI n ^^^ (-1))) k = _
    rw [b_and, b_not _ hk, hb]
    by_cases h : k = n % 32
    · rw [if_pos h, decide_eq_true h]; simp
    · rw [if_neg h, decide_eq_false h]; simp
  · show bt (x ||| bitI n) k = _
    rw [b_or, hb]
    by_cases h : k = n % 32
    · rw [if_pos h, decide_eq_true h]; simp
    · rw [if_neg h, decide_eq_false h]; simp
theorem mb_put {g : Nat → Int32} {s n : Nat} {is : Bool} {s' k : Nat} (hn : n < 2048) (hk : k < 2048) : mb (putN g s n is) s' k = if s' = s ∧ k = n then is else mb g s' k := by
  unfold putN mb
  by_cases h : s' = s ∧ k / 32 = n / 32
  · obtain ⟨rfl, h2⟩ := h
    rw [h2, of_lay1, pv_bt _ _ _ (Nat.mod_lt k (show 0 < 32 by decide))]
    by_cases hkn : k = n
    · subst hkn
      rw [if_pos rfl, if_pos ⟨rfl, rfl⟩]
    · rw [if_neg (show ¬ k % 32 = n % 32 by omega), if_neg (fun h => hkn h.2)]
  · rw [of_lay2 (by omega) (by omega) (by omega), if_neg (fun g => h ⟨g.1, by rw [g.2]⟩)]
/-- the other sets' rows are as they were -/
def Oth (g g' : Nat → Int32) (s : Nat) : Prop := g' 0 = g 0 ∧ ∀ s' w, s' ≠ s → w < 75 → ofN g' s' w = ofN g s' w
theorem Oth.rf {g : Nat → Int32} {s : Nat} : Oth g g s := ⟨rfl, fun _ _ _ _ => rfl⟩
theorem Oth.tr {g g' g'' : Nat → Int32} {s : Nat} (h : Oth g g' s) (h' : Oth g' g'' s) : Oth g g'' s := ⟨h'.1.trans h.1, fun s' w h1 h2 => (h'.2 s' w h1 h2).trans (h.2 s' w h1 h2)⟩
theorem Oth.lay {g : Nat → Int32} {s w : Nat} {v : Int32} (hw : w < 75) : Oth g (layN g s w v) s := ⟨layN_0 g s w v, fun s' w' h1 h2 => of_lay2 hw h2 (fun h => h1 h.1)⟩
theorem Oth.put {g : Nat → Int32} {s n : Nat} {is : Bool} (hn : n < 2048) : Oth g (putN g s n is) s := Oth.lay (by omega)
-- one number flips
theorem bl_xor1 (x : Int64) (n : Nat) {i : Nat} (hi : i < 64) : bl (x ^^^ onL n) i = (bl x i ^^ decide (i = n % 64)) := by
  rw [l_xor]
  unfold onL
  rw [bl_one _ (Nat.mod_lt _ (by decide)) hi]
theorem fb_fl (w : Nat → Int64) (n k : Nat) : fbit (flW w n) k = if k = n then !fbit w n else fbit w k := by
  unfold fbit flW vp_updL
  have hm := Nat.mod_lt k (show 0 < 64 by decide)
  by_cases h : k / 64 = n / 64
  · rw [if_pos h, bl_xor1 _ _ hm]
    by_cases e : k = n
    · subst e
      rw [if_pos rfl]; simp
    · have h3 : ¬ k % 64 = n % 64 := by omega
      rw [if_neg e, h]; simp [h3]
  · rw [if_neg h, if_neg (fun e => h (by rw [e]))]
theorem cnt_at {p q : Nat → Bool} {a k n : Nat} (h : ∀ j, j ≠ a + k → q j = p j) (hk : k < n) : cnt q a n + (if p (a + k) = true then 1 else 0) = cnt p a n + (if q (a + k) = true then 1 else 0) := by
  induction n with
  | zero => exact absurd hk (Nat.not_lt_zero _)
  | succ n ih =>
    rw [cnt_s, cnt_s]
    by_cases e : k = n
    · subst e
      rw [cnt_cong (q := p) k (fun j hj => h (a + j) (by omega))]
      omega
    · have := ih (by omega)
      rw [h (a + n) (by omega)]
      omega
theorem run_in {b c : Nat → Bool} {n : Nat} (hb : b n = false) (hc : c n = true) (h : ∀ j, j ≠ n → c j = b j) :
    cnt (runB c) (256 * (n / 256)) 256 + ((if 0 < n % 256 ∧ b (n - 1) = true then 1 else 0) + (if n % 256 < 255 ∧ b (n + 1) = true then 1 else 0)) = cnt (runB b) (256 * (n / 256)) 256 + 1 := by
  have en : 256 * (n / 256) + n % 256 = n := by omega
  have hm : n % 256 < 256 := Nat.mod_lt _ (by decide)
  have r1 : runB b n = false := by unfold runB; rw [hb]; rfl
  have r2 : runB c n = (decide (n % 256 = 0) || !b (n - 1)) := by
    unfold runB
    rw [hc, Bool.true_and]
    by_cases h0 : n % 256 = 0
    · rw [decide_eq_true h0, Bool.true_or, Bool.true_or]
    · rw [h (n - 1) (by omega)]
  have rj : ∀ j, j ≠ n → j ≠ n + 1 → runB c j = runB b j := by
    intro j h1 h2
    unfold runB
    rw [h j h1]
    by_cases h0 : j % 256 = 0
    · rw [decide_eq_true h0, Bool.true_or, Bool.true_or]
    · rw [h (j - 1) (by omega)]
  have s1 := cnt_at (p := runB b) (q := fun j => if j = n then runB c n else runB b j) (a := 256 * (n / 256)) (k := n % 256) (n := 256) (fun j hj => if_neg (by omega)) hm
  simp only [en, if_true, r1] at s1
  have s2 : cnt (runB c) (256 * (n / 256)) 256 + (if n % 256 < 255 ∧ b (n + 1) = true then 1 else 0) = cnt (fun j => if j = n then runB c n else runB b j) (256 * (n / 256)) 256 := by
    by_cases hp : n % 256 < 255
    · have s3 := cnt_at (p := fun j => if j = n then runB c n else runB b j) (q := runB c) (a := 256 * (n / 256)) (k := n % 256 + 1) (n := 256) (fun j hj => by
        by_cases e : j = n
        · subst e; exact (if_pos rfl).symm
        · show _ = if j = n then _ else _
          rw [if_neg e]; exact rj j e (by omega)) (by omega)
      have e1 : 256 * (n / 256) + (n % 256 + 1) = n + 1 := by omega
      have q1 : runB c (n + 1) = false := by
        unfold runB
        rw [Nat.add_sub_cancel, hc, decide_eq_false (show ¬ (n + 1) % 256 = 0 by omega)]
        simp
      have q2 : runB b (n + 1) = b (n + 1) := by
        unfold runB
        rw [Nat.add_sub_cancel, hb, decide_eq_false (show ¬ (n + 1) % 256 = 0 by omega)]
        simp
      simp only [e1, q1, show ¬ n + 1 = n by omega, if_false, q2] at s3
      by_cases hq : b (n + 1) = true
      · rw [if_pos hq] at s3
        rw [if_pos ⟨hp, hq⟩]
        simpa using s3
      · rw [if_neg hq] at s3
        rw [if_neg (fun h => hq h.2)]
        simpa using s3
    · rw [if_neg (fun h => hp h.1), Nat.add_zero]
      refine cnt_cong 256 (fun j hj => ?_)
      by_cases e : 256 * (n / 256) + j = n
      · rw [if_pos e, e]
      · rw [if_neg e]; exact rj _ e (by omega)
  have s4 : (if 0 < n % 256 ∧ b (n - 1) = true then 1 else 0) + (if runB c n = true then 1 else 0) = 1 := by
    rw [r2]
    by_cases h0 : n % 256 = 0
    · rw [decide_eq_true h0, if_neg (by omega)]; rfl
    · rw [decide_eq_false h0, Bool.false_or]
      cases hl : b (n - 1) with
      | true => rw [if_pos ⟨by omega, rfl⟩]; rfl
      | false => rw [if_neg (by simp)]; rfl
  simp only [Bool.false_eq_true, if_false, Nat.add_zero] at s1
  omega
theorem run_out {b c : Nat → Bool} {n b2 : Nat} (h : ∀ j, j ≠ n → c j = b j) (hb : b2 ≠ n / 256) : cnt (runB c) (256 * b2) 256 = cnt (runB b) (256 * b2) 256 := by
  refine cnt_cong 256 (fun j hj => ?_)
  unfold runB
  rw [h (256 * b2 + j) (by omega)]
  by_cases h0 : (256 * b2 + j) % 256 = 0
  · rw [decide_eq_true h0, Bool.true_or, Bool.true_or]
  · rw [h (256 * b2 + j - 1) (by omega)]
theorem cm_out {w : Nat → Int64} {n b2 : Nat} (hb : b2 ≠ n / 256) : cm (flW w n) b2 = cm w b2 := cnt_cong 256 (fun j hj => by rw [fb_fl, if_neg (by omega)])
theorem cr_out {w : Nat → Int64} {n b2 : Nat} (hb : b2 ≠ n / 256) : cr (flW w n) b2 = cr w b2 := run_out (n := n) (fun j hj => by rw [fb_fl, if_neg hj]) hb
theorem nb_fl (w : Nat → Int64) (n : Nat) : nbN (flW w n) n = nbN w n := by
  unfold nbN
  by_cases h0 : n = 0
  · subst h0
    have z : ∀ P : Prop, ¬ (0 < 0 % 256 ∧ P) := fun P h => absurd h.1 (by decide)
    rw [if_neg (z _), if_neg (z _), fb_fl, if_neg (show ¬ 0 + 1 = 0 by omega)]
  · rw [fb_fl, fb_fl, if_neg (show ¬ n - 1 = n by omega), if_neg (show ¬ n + 1 = n by omega)]
theorem cm_in (w : Nat → Int64) (n : Nat) : nI (cm (flW w n) (n / 256)) = nI (cm w (n / 256)) + chI (fbit w n) := by
  have en : 256 * (n / 256) + n % 256 = n := by omega
  have hm : n % 256 < 256 := Nat.mod_lt _ (by decide)
  unfold cm
  cases hb : fbit w n with
  | false =>
    rw [cnt_flip (b := fbit w) (c := fbit (flW w n)) (k := n % 256) (by rw [en]; exact hb) (by rw [en, fb_fl, if_pos rfl, hb]; rfl) (fun j hj => by rw [fb_fl, if_neg (by omega)]) 256, if_pos hm]
    exact (nI_add _ 1).symm
  | true =>
    rw [cnt_flip (b := fbit (flW w n)) (c := fbit w) (k := n % 256) (by rw [en, fb_fl, if_pos rfl, hb]; rfl) (by rw [en]; exact hb) (fun j hj => by rw [fb_fl, if_neg (by omega)]) 256, if_pos hm]
    show _ = _ + (-1)
    rw [nI_m1 (by omega), Nat.add_sub_cancel]
theorem i_ar1 (x y : Int32) : x + 1 * (1 - y) = x + 1 - y := by rw [Int32.one_mul, Int32.sub_eq_add_neg, Int32.sub_eq_add_neg, Int32.add_assoc]
theorem i_ar2 (x y : Int32) : x + -1 * (1 - y) = x + y - 1 := by
  rw [← Int32.neg_eq_neg_one_mul, Int32.neg_sub, Int32.sub_eq_add_neg, Int32.sub_eq_add_neg, Int32.add_assoc]
theorem cr_inn (w : Nat → Int64) (n : Nat) : nI (cr (flW w n) (n / 256)) = nI (cr w (n / 256)) + chI (fbit w n) * (1 - nI (nbN (flW w n) n)) := by
  have hnb : nbN (flW w n) n ≤ 2 := nbN_le _ _
  unfold cr
  cases hb : fbit w n with
  | false =>
    have h := run_in (b := fbit w) (c := fbit (flW w n)) hb (by rw [fb_fl, if_pos rfl, hb]; rfl) (fun j hj => by rw [fb_fl, if_neg hj])
    have h2 : cnt (runB (fbit (flW w n))) (256 * (n / 256)) 256 + nbN (flW w n) n = cnt (runB (fbit w)) (256 * (n / 256)) 256 + 1 := by rw [nb_fl]; exact h
    show _ = _ + 1 * _
    rw [i_ar1, show nI (cnt (runB (fbit w)) (256 * (n / 256)) 256) + 1 = nI (cnt (runB (fbit w)) (256 * (n / 256)) 256 + 1) from nI_add _ 1, ← h2, pk_sub (by omega), Nat.add_sub_cancel]
  | true =>
    have h := run_in (b := fbit (flW w n)) (c := fbit w) (by rw [fb_fl, if_pos rfl, hb]; rfl) hb (fun j hj => by rw [fb_fl, if_neg hj])
    have h2 : cnt (runB (fbit w)) (256 * (n / 256)) 256 + nbN (flW w n) n = cnt (runB (fbit (flW w n))) (256 * (n / 256)) 256 + 1 := h
    show _ = _ + -1 * _
    rw [i_ar2, nI_add, h2]
    exact (nI_pred _).symm
theorem ws_flip {f : FR} {n : Nat} (h : Ws f) (hn : n < 2048) : Ws (flipF f n) := by
  intro b hb
  show upd (fs f) (n / 256) (fs f (n / 256) + chI (fbit (fw f) n)) b = nI (cm (flW (fw f) n) b) ∧ upd (fr f) (n / 256) (fr f (n / 256) + chI (fbit (fw f) n) * (1 - nI (nbN (flW (fw f) n) n))) b = nI (cr (flW (fw f) n) b)
  unfold upd
  by_cases e : b = n / 256
  · subst e
    rw [if_pos rfl, if_pos rfl, cm_in, cr_inn, (h _ hb).1, (h _ hb).2]
    exact ⟨rfl, rfl⟩
  · rw [if_neg e, if_neg e, cm_out e, cr_out e]
    exact h b hb
theorem rb_flip {f : FR} {g : Nat → Int32} {s n : Nat} {c : Bool} (h : Rb f g s) (hn : n < 2048) (hc : ¬ fbit (fw f) n = c) : Rb (flipF f n) (putN g s n c) s := by
  intro k hk
  show _ = fbit (flW (fw f) n) k
  rw [mb_put hn hk, fb_fl]
  by_cases e : k = n
  · rw [if_pos ⟨rfl, e⟩, if_pos e]
    revert hc
    cases c <;> cases fbit (fw f) n <;> simp
  · rw [if_neg (fun g => e g.2), if_neg e]
    exact h k hk
