/-! The fleets: rows for Math.max, Math.min, ends; what their methods answer -/
section FROWS
variable {Λ : Lk} {κ : Kx} {R0 : Room} {cc : ByteArray} {Ts : List Cond} {own : String} {nL0 : Nat} {C : Mem} {pc : Nat} {lv : Lvs} {st : List Value}
theorem v_mmax (hC : Ok Λ R0 cc Ts own nL0 κ) {index : Nat} (w1 : Cond.methodLink own index Lib.Math.max.name ∈ Ts) (w2 : Cond.static Lib.Math.max.name ∈ Ts) (w3 : Cond.initialized "java/lang/Math" ∈ Ts) (w4 : Cond.code Lib.Math.max.name Lib.Math.max.code 2 (some .int) ∈ Ts) (hfr : 1 ≤ R0.frames) (hlo : (st.map fun v => v.category).sum + 13 ≤ R0.locals) {x y z : Int32} (hz : (if x < y then y else x) = z) (hdg : decode cc pc = .ok (.invokestatic index, 3))
    (k : V Λ κ C (pc + 3) lv (.int z :: st)) : V Λ κ C pc lv (.int y :: .int x :: st) := by
  subst hz
  obtain ⟨p, e, R, s, m, args, below, meth, c, nL, kc, ks', Q⟩ := κ
  obtain ⟨S, rfl, rfl, hK, hN, hkc, hks⟩ := hC
  exact fun H locs ls hP hD hS hl => va_mmax S.1 S.2.1 (by rw [S.2.2.1, hl.1]) S.2.2.2.1 (S.2.2.2.2 _ w1) (S.2.2.2.2 _ w2) (S.2.2.2.2 _ w3) (S.2.2.2.2 _ w4) hfr hlo hkc hks hdg (k H locs ls hP hD hS hl)
theorem v_mmin (hC : Ok Λ R0 cc Ts own nL0 κ) {index : Nat} (w1 : Cond.methodLink own index Lib.Math.min.name ∈ Ts) (w2 : Cond.static Lib.Math.min.name ∈ Ts) (w3 : Cond.initialized "java/lang/Math" ∈ Ts) (w4 : Cond.code Lib.Math.min.name Lib.Math.min.code 2 (some .int) ∈ Ts) (hfr : 1 ≤ R0.frames) (hlo : (st.map fun v => v.category).sum + 13 ≤ R0.locals) {x y z : Int32} (hz : (if y < x then y else x) = z) (hdg : decode cc pc = .ok (.invokestatic index, 3))
    (k : V Λ κ C (pc + 3) lv (.int z :: st)) : V Λ κ C pc lv (.int y :: .int x :: st) := by
  subst hz
  obtain ⟨p, e, R, s, m, args, below, meth, c, nL, kc, ks', Q⟩ := κ
  obtain ⟨S, rfl, rfl, hK, hN, hkc, hks⟩ := hC
  exact fun H locs ls hP hD hS hl => va_mmin S.1 S.2.1 (by rw [S.2.2.1, hl.1]) S.2.2.2.1 (S.2.2.2.2 _ w1) (S.2.2.2.2 _ w2) (S.2.2.2.2 _ w3) (S.2.2.2.2 _ w4) hfr hlo hkc hks hdg (k H locs ls hP hD hS hl)
theorem v_iretB {X : XS} {Y : YS} {i : Nat} (hC : Ok Λ R0 cc Ts own nL0 κ) {E : FR × Int32} {x : Int32} {f : FR} (hR : Rt Λ (some .int) (some (.int E.2)) (CC Λ (xFi X i E.1) Y) κ) (e : E = (f, x)) (hdg : decode cc pc = .ok (.ireturn, 1)) : V Λ κ (CC Λ (xFi X i f) Y) pc lv [.int x] := by
  subst e
  exact v_iret hC hR rfl rfl hdg
theorem v_zretB {X : XS} {Y : YS} {i : Nat} (hC : Ok Λ R0 cc Ts own nL0 κ) {E : FR × Bool} {x : Int32} {b : Bool} {f : FR} (hR : Rt Λ (some .boolean) (some (.int (bI E.2))) (CC Λ (xFi X i E.1) Y) κ) (e : E = (f, b)) (hx : bI b = x) (hdg : decode cc pc = .ok (.ireturn, 1)) : V Λ κ (CC Λ (xFi X i f) Y) pc lv [.int x] := by
  subst e hx
  exact v_zret hC hR rfl rfl (nar_b _) hdg
end FROWS
theorem mem_f {Λ : Lk} {X : XS} {Y : YS} {i : Nat} {f g : FR} (h : f = g) : CC Λ (xFi X i f) Y = CC Λ (xFi X i g) Y := h ▸ rfl
theorem mem_X {Λ : Lk} {X X' : XS} {Y : YS} (h : X = X') : CC Λ X Y = CC Λ X' Y := h ▸ rfl
theorem i32_le {x y : Int32} : x ≤ y ↔ x.toInt ≤ y.toInt := Int32.le_iff_toInt_le
theorem i32_lt {x y : Int32} : x < y ↔ x.toInt < y.toInt := Int32.lt_iff_toInt_lt
theorem num_T {v : Int32} (h1 : ¬ v < 0) (h2 : ¬ 2048 ≤ v) : inB v 0 2047 = true := by
  refine decide_eq_true ⟨Int32.not_lt.mp h1, ?_⟩
  rw [i32_le] at h2 ⊢
  rw [show (2048 : Int32).toInt = 2048 by decide] at h2
  rw [show (2047 : Int32).toInt = 2047 by decide]
  omega
theorem num_F1 {v : Int32} (h1 : v < 0) : inB v 0 2047 = false := inB_lt h1
theorem num_F2 {v : Int32} (h2 : 2048 ≤ v) : inB v 0 2047 = false := by
  refine inB_gt ?_
  rw [i32_le] at h2
  rw [i32_lt]
  rw [show (2048 : Int32).toInt = 2048 by decide] at h2
  rw [show (2047 : Int32).toInt = 2047 by decide]
  omega
def fbit (w : Nat → Int64) (n : Nat) : Bool := bl (w (n / 64)) (n % 64)
def nbN (w : Nat → Int64) (n : Nat) : Nat := (if 0 < n % 256 ∧ fbit w (n - 1) = true then 1 else 0) + (if n % 256 < 255 ∧ fbit w (n + 1) = true then 1 else 0)
def onL (n : Nat) : Int64 := (1 : Int64) <<< ((nI (n % 64)).toInt64 &&& 63)
def chI (b : Bool) : Int32 := if b = true then -1 else 1
def flW (w : Nat → Int64) (n : Nat) : Nat → Int64 := vp_updL w (n / 64) (w (n / 64) ^^^ onL n)
def flipF (f : FR) (n : Nat) : FR :=
  frS (fsS (fwS f (flW (fw f) n)) (upd (fs f) (n / 256) (fs f (n / 256) + chI (fbit (fw f) n)))) (upd (fr f) (n / 256) (fr f (n / 256) + chI (fbit (fw f) n) * (1 - nI (nbN (flW (fw f) n) n))))
def holdC (f : FR) (b : Nat) (k : Int32) : Bool := if k = 0 then decide (fs f b ≤ 24) else if k = 2 then decide (fr f b ≤ 8) else true
def unitsC (f : FR) (b : Nat) (k : Int32) : Int32 := if k = 0 then 2 * fs f b else if k = 2 then 3 * fr f b else 32
def bestC (f : FR) (b : Nat) : Int32 :=
  let k1 : Int32 := if holdC f b 0 = true ∧ unitsC f b 0 ≤ unitsC f b 1 then 0 else 1
  if holdC f b 2 = true ∧ unitsC f b 2 < unitsC f b k1 then 2 else k1
def bbF (f : FR) (b : Nat) : FR × Int32 := if bestC f b = fk f b ∨ fp f < unitsC f b (bestC f b) then (f, 0) else
  (fkS (fdS (fpS f (fp f - unitsC f b (bestC f b))) (fd f + unitsC f b (bestC f b))) (upd (fk f) b (bestC f b)), unitsC f b (bestC f b))
def adF (f : FR) (b : Nat) : FR × Bool := if fs f b = 0 then (fkS f (upd (fk f) b 0), true) else
  if fa f = false then ((bbF f b).1, holdC (bbF f b).1 b (fk (bbF f b).1 b)) else (f, holdC f b (fk f b))
def mvF (c : Bool) : Nat → Nat → Nat → FR → FR × Int32
  | 0, _, m, f => (f, nI m)
  | k + 1, n, m, f => if fbit (fw f) n = c then mvF c k (n + 1) m f else
    if (adF (flipF f n) (n / 256)).2 = true then mvF c k (n + 1) (m + 1) (adF (flipF f n) (n / 256)).1 else ((adF (flipF f n) (n / 256)).1, -3)
def bsN (f : FR) (seen : Int32) : Nat → Int32 × Int32
  | 0 => (-5, -1)
  | b + 1 => if bt seen b = false ∧ ¬ fk f b = bestC f b ∧ (bsN f seen b).2 < unitsC f b (fk f b) - unitsC f b (bestC f b) then (nI b, unitsC f b (fk f b) - unitsC f b (bestC f b)) else bsN f seen b
def ehF : Nat → FR → Int32 → Int32 → FR × Int32
  | 0, f, tolls, _ => (f, tolls)
  | k + 1, f, tolls, seen => if (bsN f seen 8).1 = -5 then ehF k f tolls seen else
    ehF k (bbF f (ix (bsN f seen 8).1)).1 (tolls + (bbF f (ix (bsN f seen 8).1)).2) (seen ||| (1 : Int32) <<< ((bsN f seen 8).1 &&& 31))
theorem bsN_some {f : FR} {L : Int32} : ∀ n, n ≤ 8 → (bsN f L n).1 = -5 ∨ ∃ b, b < n ∧ (bsN f L n).1 = nI b
  | 0, _ => Or.inl rfl
  | n + 1, hn => by
    have ih := bsN_some (f := f) (L := L) n (by omega)
    simp only [bsN]
    split
    · exact Or.inr ⟨n, by omega, rfl⟩
    · rcases ih with h1 | ⟨b, h1, h2⟩
      · exact Or.inl h1
      · exact Or.inr ⟨b, by omega, h2⟩
theorem bsN_some8 {f : FR} {L : Int32} (h : ¬ (bsN f L 8).1 = -5) : ∃ b, b < 8 ∧ (bsN f L 8).1 = nI b := by
  rcases bsN_some (f := f) (L := L) 8 (Nat.le_refl _) with h1 | ⟨b, h1, h2⟩
  · exact absurd h1 h
  · exact ⟨b, h1, h2⟩
def bkC (f : FR) (k : Int32) : Nat → Int32
  | 0 => 0
  | b + 1 => bkC f k b + (if 0 < fs f b ∧ fk f b = k then 1 else 0)
def gapF (b : Nat → Bool) (len : Int32) : Nat → Nat → Nat → Int32
  | 0, _, _ => -5
  | k + 1, n, s => if b n = true then gapF b len k (n + 1) (n + 1) else if len ≤ nI n - nI s + 1 then nI s else gapF b len k (n + 1) s
theorem nbN_le (w : Nat → Int64) (n : Nat) : nbN w n ≤ 2 := by unfold nbN; split <;> split <;> omega
def tbC (f : FR) (b : Nat) : Int32 := if bestC f b = fk f b then 0 else unitsC f b (bestC f b)
theorem mx0 {n : Nat} (h : n < 2 ^ 31) : (if nI n < (0 : Int32) then (0 : Int32) else nI n) = nI n := if_neg (Int32.not_lt.mpr (nI_pos' h))
theorem mn2 {n : Nat} (h : n ≤ 2047) : (if (2047 : Int32) < nI n then (2047 : Int32) else nI n) = nI n := if_neg (Int32.not_lt.mpr ((nI_leI (b := 2047) (by omega) (by decide)).mpr h))
