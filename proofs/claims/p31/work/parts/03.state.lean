/-! The state. Roles: a fleet i (i < 37: 6 * h + j for the fleet j of the harbour h; 36 the trial) has 5 * i (object), + 1 words, + 2 kinds, + 3 sizes, + 4 runs;
a harbour h (0 now, 1 snapshot, 2 to 5 the states) 185 + 2 * h and its row 186 + 2 * h; 197 the BoatSets, 198 the History, 199 its row, 200 the RangeText, 201 characters, 202 firsts, 203 lasts;
204 the reference, 205 now, 206 past, 207 kept, 208 trial, 209 text, 210 given, 211 numbers -/
abbrev FR : Type := (Nat → Int64) × (Nat → Int32) × (Nat → Int32) × (Nat → Int32) × Int32 × Int32 × Bool
abbrev fw (f : FR) : Nat → Int64 := f.1
abbrev fk (f : FR) : Nat → Int32 := f.2.1
abbrev fs (f : FR) : Nat → Int32 := f.2.2.1
abbrev fr (f : FR) : Nat → Int32 := f.2.2.2.1
abbrev fp (f : FR) : Int32 := f.2.2.2.2.1
abbrev fd (f : FR) : Int32 := f.2.2.2.2.2.1
abbrev fa (f : FR) : Bool := f.2.2.2.2.2.2
abbrev fwS (f : FR) (v : Nat → Int64) : FR := (v, fk f, fs f, fr f, fp f, fd f, fa f)
abbrev fkS (f : FR) (v : Nat → Int32) : FR := (fw f, v, fs f, fr f, fp f, fd f, fa f)
abbrev fsS (f : FR) (v : Nat → Int32) : FR := (fw f, fk f, v, fr f, fp f, fd f, fa f)
abbrev frS (f : FR) (v : Nat → Int32) : FR := (fw f, fk f, fs f, v, fp f, fd f, fa f)
abbrev fpS (f : FR) (v : Int32) : FR := (fw f, fk f, fs f, fr f, v, fd f, fa f)
abbrev fdS (f : FR) (v : Int32) : FR := (fw f, fk f, fs f, fr f, fp f, v, fa f)
abbrev faS (f : FR) (v : Bool) : FR := (fw f, fk f, fs f, fr f, fp f, fd f, v)
/-- the class: fleets, the sets of each harbour, the order of the states, how many states, whether there is a snapshot, characters, firsts, lasts, length, ranges -/
abbrev XS : Type := (Nat → FR) × (Nat → Int32) × (Nat → Nat) × Int32 × Int32 × (Nat → Int32) × (Nat → Int32) × (Nat → Int32) × Int32 × Int32
abbrev xF (X : XS) : Nat → FR := X.1
abbrev xh (X : XS) : Nat → Int32 := X.2.1
abbrev xq (X : XS) : Nat → Nat := X.2.2.1
abbrev xz (X : XS) : Int32 := X.2.2.2.1
abbrev xn (X : XS) : Int32 := X.2.2.2.2.1
abbrev xc (X : XS) : Nat → Int32 := X.2.2.2.2.2.1
abbrev xb (X : XS) : Nat → Int32 := X.2.2.2.2.2.2.1
abbrev xe (X : XS) : Nat → Int32 := X.2.2.2.2.2.2.2.1
abbrev xl (X : XS) : Int32 := X.2.2.2.2.2.2.2.2.1
abbrev xm (X : XS) : Int32 := X.2.2.2.2.2.2.2.2.2
abbrev xFS (X : XS) (v : Nat → FR) : XS := (v, xh X, xq X, xz X, xn X, xc X, xb X, xe X, xl X, xm X)
abbrev xhS (X : XS) (v : Nat → Int32) : XS := (xF X, v, xq X, xz X, xn X, xc X, xb X, xe X, xl X, xm X)
abbrev xqS (X : XS) (v : Nat → Nat) : XS := (xF X, xh X, v, xz X, xn X, xc X, xb X, xe X, xl X, xm X)
abbrev xzS (X : XS) (v : Int32) : XS := (xF X, xh X, xq X, v, xn X, xc X, xb X, xe X, xl X, xm X)
abbrev xnS (X : XS) (v : Int32) : XS := (xF X, xh X, xq X, xz X, v, xc X, xb X, xe X, xl X, xm X)
abbrev xcS (X : XS) (v : Nat → Int32) : XS := (xF X, xh X, xq X, xz X, xn X, v, xb X, xe X, xl X, xm X)
abbrev xbS (X : XS) (v : Nat → Int32) : XS := (xF X, xh X, xq X, xz X, xn X, xc X, v, xe X, xl X, xm X)
abbrev xeS (X : XS) (v : Nat → Int32) : XS := (xF X, xh X, xq X, xz X, xn X, xc X, xb X, v, xl X, xm X)
abbrev xlS (X : XS) (v : Int32) : XS := (xF X, xh X, xq X, xz X, xn X, xc X, xb X, xe X, v, xm X)
abbrev xmS (X : XS) (v : Int32) : XS := (xF X, xh X, xq X, xz X, xn X, xc X, xb X, xe X, xl X, v)
/-- the row that is given: what the purses have got -/
abbrev YS : Type := Nat → Int32
def xFi (X : XS) (i : Nat) (f : FR) : XS := (va_up X.1 i f, X.2)
theorem xFi_at (X : XS) (i : Nat) (f : FR) : (xFi X i f).1 i = f := va_up_self _ _ _
theorem xFi_ne (X : XS) {i j : Nat} (f : FR) (h : j ≠ i) : (xFi X i f).1 j = X.1 j := va_up_ne _ _ h
theorem xFi_2 (X : XS) (i : Nat) (f g : FR) : xFi (xFi X i f) i g = xFi X i g := by
  unfold xFi
  refine Prod.ext (funext fun j => ?_) rfl
  by_cases h : j = i
  · subst h; simp [va_up]
  · simp [va_up, h]
theorem xFi_self {X : XS} {i : Nat} {f : FR} (h : X.1 i = f) : X = xFi X i f := by
  subst h
  refine Prod.ext (funext fun j => ?_) rfl
  by_cases h : j = i
  · subst h; simp [xFi, va_up]
  · simp [xFi, va_up, h]
def fcell (Λ : Lk) (i c : Nat) (f : FR) : va_E :=
  if c = 0 then .inr (0, [rf Λ (5 * i + 1), rf Λ (5 * i + 2), rf Λ (5 * i + 3), rf Λ (5 * i + 4), .int (fp f), .int (fd f), .int (bI (fa f))])
  else if c = 1 then .inl (Λ.2.2.2.1 0, 32, .inr (.inl (fw f)))
  else if c = 2 then .inl (Λ.2.2.2.1 1, 8, .inl (fk f))
  else if c = 3 then .inl (Λ.2.2.2.1 1, 8, .inl (fs f))
  else .inl (Λ.2.2.2.1 1, 8, .inl (fr f))
def hcell (Λ : Lk) (X : XS) (r : Nat) : va_E := if r % 2 = 1 then .inr (1, [rf Λ (r + 1), .int (xh X ((r - 185) / 2))]) else .inl (Λ.2.2.2.1 3, 6, .inr (.inr (.inr (.inr (fun j => some (Λ.2.1 (5 * (6 * ((r - 186) / 2) + j))))))))
/-- the memory by roles -/
def CC (Λ : Lk) (X : XS) (Y : YS) : Mem := fun r =>
  if r < 185 then fcell Λ (r / 5) (r % 5) (xF X (r / 5))
  else if r < 197 then hcell Λ X r
  else if r = 197 then (.inr (4, [rf Λ 185, rf Λ 187, rf Λ 198, rf Λ 200, rf Λ 180, .int (xn X)]))
  else if r = 198 then (.inr (2, [rf Λ 199, .int (xz X)]))
  else if r = 199 then (.inl (Λ.2.2.2.1 4, 4, .inr (.inr (.inr (.inr (fun j => some (Λ.2.1 (189 + 2 * xq X j))))))))
  else if r = 200 then (.inr (3, [rf Λ 201, rf Λ 202, rf Λ 203, .int (xl X), .int (xm X)]))
  else if r = 201 then (.inl (Λ.2.2.2.1 2, 60, .inl (xc X)))
  else if r = 202 then (.inl (Λ.2.2.2.1 1, 30, .inl (xb X)))
  else if r = 203 then (.inl (Λ.2.2.2.1 1, 30, .inl (xe X)))
  else if r = 204 then (.inl (Λ.2.2.2.1 1, 8, .inl Y))
  else .inl (Λ.2.2.2.1 1, 0, .inl (fun _ => 0))
theorem cc_197 (Λ : Lk) (X : XS) (Y : YS) : CC Λ X Y 197 = .inr (4, [rf Λ 185, rf Λ 187, rf Λ 198, rf Λ 200, rf Λ 180, .int (xn X)]) := rfl
theorem cc_198 (Λ : Lk) (X : XS) (Y : YS) : CC Λ X Y 198 = .inr (2, [rf Λ 199, .int (xz X)]) := rfl
theorem cc_199 (Λ : Lk) (X : XS) (Y : YS) : CC Λ X Y 199 = .inl (Λ.2.2.2.1 4, 4, .inr (.inr (.inr (.inr (fun j => some (Λ.2.1 (189 + 2 * xq X j))))))) := rfl
theorem cc_200 (Λ : Lk) (X : XS) (Y : YS) : CC Λ X Y 200 = .inr (3, [rf Λ 201, rf Λ 202, rf Λ 203, .int (xl X), .int (xm X)]) := rfl
theorem cc_201 (Λ : Lk) (X : XS) (Y : YS) : CC Λ X Y 201 = .inl (Λ.2.2.2.1 2, 60, .inl (xc X)) := rfl
theorem cc_202 (Λ : Lk) (X : XS) (Y : YS) : CC Λ X Y 202 = .inl (Λ.2.2.2.1 1, 30, .inl (xb X)) := rfl
theorem cc_203 (Λ : Lk) (X : XS) (Y : YS) : CC Λ X Y 203 = .inl (Λ.2.2.2.1 1, 30, .inl (xe X)) := rfl
theorem cc_204 (Λ : Lk) (X : XS) (Y : YS) : CC Λ X Y 204 = .inl (Λ.2.2.2.1 1, 8, .inl Y) := rfl
theorem nR_of {r : Nat} (h : r < 205) : r < nR := h
theorem cc_f (Λ : Lk) {X : XS} (Y : YS) {i c : Nat} {f : FR} (hi : i < 37) (hc : c < 5) (hf : X.1 i = f) : CC Λ X Y (5 * i + c) = fcell Λ i c f := by
  unfold CC
  rw [if_pos (by omega), show (5 * i + c) / 5 = i by omega, show (5 * i + c) % 5 = c by omega, ← hf]
theorem cc_f0 (Λ : Lk) {X : XS} (Y : YS) {i : Nat} {f : FR} (hi : i < 37) (hf : X.1 i = f) : CC Λ X Y (5 * i) = .inr (0, [rf Λ (5 * i + 1), rf Λ (5 * i + 2), rf Λ (5 * i + 3), rf Λ (5 * i + 4), .int (fp f), .int (fd f), .int (bI (fa f))]) := cc_f Λ Y (c := 0) hi (by omega) hf
theorem cc_f1 (Λ : Lk) {X : XS} (Y : YS) {i : Nat} {f : FR} (hi : i < 37) (hf : X.1 i = f) : CC Λ X Y (5 * i + 1) = .inl (Λ.2.2.2.1 0, 32, .inr (.inl (fw f))) := cc_f Λ Y (c := 1) hi (by omega) hf
theorem cc_f2 (Λ : Lk) {X : XS} (Y : YS) {i : Nat} {f : FR} (hi : i < 37) (hf : X.1 i = f) : CC Λ X Y (5 * i + 2) = .inl (Λ.2.2.2.1 1, 8, .inl (fk f)) := cc_f Λ Y (c := 2) hi (by omega) hf
theorem cc_f3 (Λ : Lk) {X : XS} (Y : YS) {i : Nat} {f : FR} (hi : i < 37) (hf : X.1 i = f) : CC Λ X Y (5 * i + 3) = .inl (Λ.2.2.2.1 1, 8, .inl (fs f)) := cc_f Λ Y (c := 3) hi (by omega) hf
theorem cc_f4 (Λ : Lk) {X : XS} (Y : YS) {i : Nat} {f : FR} (hi : i < 37) (hf : X.1 i = f) : CC Λ X Y (5 * i + 4) = .inl (Λ.2.2.2.1 1, 8, .inl (fr f)) := cc_f Λ Y (c := 4) hi (by omega) hf
theorem rb_f {i c : Nat} (hi : i < 37) (hc : c < 5) : 5 * i + c < nR := by unfold nR; omega
theorem rb_f0 {i : Nat} (hi : i < 37) : 5 * i < nR := by unfold nR; omega
theorem cc_h (Λ : Lk) (X : XS) (Y : YS) {h : Nat} (hh : h < 6) : CC Λ X Y (185 + 2 * h) = .inr (1, [rf Λ (186 + 2 * h), .int (xh X h)]) := by
  unfold CC hcell
  rw [if_neg (by omega), if_pos (by omega), if_pos (by omega), show 185 + 2 * h + 1 = 186 + 2 * h by omega, show (185 + 2 * h - 185) / 2 = h by omega]
theorem cc_hr (Λ : Lk) (X : XS) (Y : YS) {h : Nat} (hh : h < 6) : CC Λ X Y (186 + 2 * h) = .inl (Λ.2.2.2.1 3, 6, .inr (.inr (.inr (.inr (fun j => some (Λ.2.1 (5 * (6 * h + j)))))))) := by
  unfold CC hcell
  rw [if_neg (by omega), if_pos (by omega), if_neg (by omega), show (186 + 2 * h - 186) / 2 = h by omega]
theorem rb_h {h : Nat} (hh : h < 6) : 185 + 2 * h < nR := by unfold nR; omega
theorem rb_hr {h : Nat} (hh : h < 6) : 186 + 2 * h < nR := by unfold nR; omega
/-- a fleet's cell is written -/
theorem cs_f (Λ : Lk) (X : XS) (Y : YS) {i c : Nat} (f g : FR) {e : va_E} (hi : i < 37) (hc : c < 5) (he : e = fcell Λ i c g) (ho : ∀ c', c' < 5 → c' ≠ c → fcell Λ i c' g = fcell Λ i c' f) : va_up (CC Λ (xFi X i f) Y) (5 * i + c) e = CC Λ (xFi X i g) Y := by
  funext r
  by_cases hr : r = 5 * i + c
  · subst hr
    rw [va_up_self, he, cc_f Λ Y hi hc (xFi_at X i g)]
  · rw [va_up_ne _ _ hr]
    by_cases h1 : r < 185
    · by_cases h2 : r / 5 = i
      · have e1 : r = 5 * i + r % 5 := by omega
        have h3 : r % 5 < 5 := by omega
        have h4 : r % 5 ≠ c := by omega
        rw [e1, cc_f Λ Y hi h3 (xFi_at X i f), cc_f Λ Y hi h3 (xFi_at X i g)]
        exact (ho _ h3 h4).symm
      · unfold CC
        rw [if_pos h1, if_pos h1]
        show fcell Λ (r / 5) (r % 5) ((xFi X i f).1 (r / 5)) = fcell Λ (r / 5) (r % 5) ((xFi X i g).1 (r / 5))
        rw [xFi_ne X f h2, xFi_ne X g h2]
    · unfold CC
      rw [if_neg h1, if_neg h1]
      rfl
theorem cs_hs (Λ : Lk) (X : XS) (Y : YS) {h : Nat} (hh : h < 6) (v : Int32) : va_up (CC Λ X Y) (185 + 2 * h) (.inr (1, [rf Λ (186 + 2 * h), .int v])) = CC Λ (xhS X (va_up (xh X) h v)) Y := by
  funext r
  by_cases hr : r = 185 + 2 * h
  · subst hr
    rw [va_up_self, cc_h Λ _ Y hh]
    show _ = Sum.inr (1, [rf Λ (186 + 2 * h), Value.int (va_up (xh X) h v h)])
    rw [va_up_self]
  · rw [va_up_ne _ _ hr]
    unfold CC
    by_cases h1 : r < 185
    · rw [if_pos h1, if_pos h1]
    · rw [if_neg h1, if_neg h1]
      by_cases h2 : r < 197
      · rw [if_pos h2, if_pos h2]
        unfold hcell
        by_cases h3 : r % 2 = 1
        · rw [if_pos h3, if_pos h3]
          have h4 : (r - 185) / 2 ≠ h := by omega
          show _ = Sum.inr (1, [rf Λ (r + 1), Value.int (va_up (xh X) h v ((r - 185) / 2))])
          rw [va_up_ne _ _ h4]
        · rw [if_neg h3, if_neg h3]
      · rw [if_neg h2, if_neg h2]
theorem cs_fw (Λ : Lk) (X : XS) (Y : YS) {i : Nat} (f : FR) (v : Nat → Int64) (hi : i < 37) : va_up (CC Λ (xFi X i f) Y) (5 * i + 1) (.inl (Λ.2.2.2.1 0, 32, .inr (.inl v))) = CC Λ (xFi X i (fwS f v)) Y := cs_f Λ X Y (c := 1) f (fwS f v) hi (by omega) rfl (fun c' h1 h2 => by
  rcases (show c' = 0 ∨ c' = 1 ∨ c' = 2 ∨ c' = 3 ∨ c' = 4 by omega) with rfl | rfl | rfl | rfl | rfl <;> first | rfl | exact absurd rfl h2)
theorem cs_fk (Λ : Lk) (X : XS) (Y : YS) {i : Nat} (f : FR) (v : Nat → Int32) (hi : i < 37) : va_up (CC Λ (xFi X i f) Y) (5 * i + 2) (.inl (Λ.2.2.2.1 1, 8, .inl v)) = CC Λ (xFi X i (fkS f v)) Y := cs_f Λ X Y (c := 2) f (fkS f v) hi (by omega) rfl (fun c' h1 h2 => by
  rcases (show c' = 0 ∨ c' = 1 ∨ c' = 2 ∨ c' = 3 ∨ c' = 4 by omega) with rfl | rfl | rfl | rfl | rfl <;> first | rfl | exact absurd rfl h2)
theorem cs_fs (Λ : Lk) (X : XS) (Y : YS) {i : Nat} (f : FR) (v : Nat → Int32) (hi : i < 37) : va_up (CC Λ (xFi X i f) Y) (5 * i + 3) (.inl (Λ.2.2.2.1 1, 8, .inl v)) = CC Λ (xFi X i (fsS f v)) Y := cs_f Λ X Y (c := 3) f (fsS f v) hi (by omega) rfl (fun c' h1 h2 => by
  rcases (show c' = 0 ∨ c' = 1 ∨ c' = 2 ∨ c' = 3 ∨ c' = 4 by omega) with rfl | rfl | rfl | rfl | rfl <;> first | rfl | exact absurd rfl h2)
theorem cs_fr (Λ : Lk) (X : XS) (Y : YS) {i : Nat} (f : FR) (v : Nat → Int32) (hi : i < 37) : va_up (CC Λ (xFi X i f) Y) (5 * i + 4) (.inl (Λ.2.2.2.1 1, 8, .inl v)) = CC Λ (xFi X i (frS f v)) Y := cs_f Λ X Y (c := 4) f (frS f v) hi (by omega) rfl (fun c' h1 h2 => by
  rcases (show c' = 0 ∨ c' = 1 ∨ c' = 2 ∨ c' = 3 ∨ c' = 4 by omega) with rfl | rfl | rfl | rfl | rfl <;> first | rfl | exact absurd rfl h2)
theorem cs_fp (Λ : Lk) (X : XS) (Y : YS) {i : Nat} (f : FR) (v : Int32) (hi : i < 37) : va_up (CC Λ (xFi X i f) Y) (5 * i) (.inr (0, [rf Λ (5 * i + 1), rf Λ (5 * i + 2), rf Λ (5 * i + 3), rf Λ (5 * i + 4), .int v, .int (fd f), .int (bI (fa f))])) = CC Λ (xFi X i (fpS f v)) Y := cs_f Λ X Y (c := 0) f (fpS f v) hi (by omega) rfl (fun c' h1 h2 => by
  rcases (show c' = 0 ∨ c' = 1 ∨ c' = 2 ∨ c' = 3 ∨ c' = 4 by omega) with rfl | rfl | rfl | rfl | rfl <;> first | rfl | exact absurd rfl h2)
theorem cs_fd (Λ : Lk) (X : XS) (Y : YS) {i : Nat} (f : FR) (v : Int32) (hi : i < 37) : va_up (CC Λ (xFi X i f) Y) (5 * i) (.inr (0, [rf Λ (5 * i + 1), rf Λ (5 * i + 2), rf Λ (5 * i + 3), rf Λ (5 * i + 4), .int (fp f), .int v, .int (bI (fa f))])) = CC Λ (xFi X i (fdS f v)) Y := cs_f Λ X Y (c := 0) f (fdS f v) hi (by omega) rfl (fun c' h1 h2 => by
  rcases (show c' = 0 ∨ c' = 1 ∨ c' = 2 ∨ c' = 3 ∨ c' = 4 by omega) with rfl | rfl | rfl | rfl | rfl <;> first | rfl | exact absurd rfl h2)
theorem cs_fa (Λ : Lk) (X : XS) (Y : YS) {i : Nat} (f : FR) (v : Bool) (hi : i < 37) : va_up (CC Λ (xFi X i f) Y) (5 * i) (.inr (0, [rf Λ (5 * i + 1), rf Λ (5 * i + 2), rf Λ (5 * i + 3), rf Λ (5 * i + 4), .int (fp f), .int (fd f), .int (bI v)])) = CC Λ (xFi X i (faS f v)) Y := cs_f Λ X Y (c := 0) f (faS f v) hi (by omega) rfl (fun c' h1 h2 => by
  rcases (show c' = 0 ∨ c' = 1 ∨ c' = 2 ∨ c' = 3 ∨ c' = 4 by omega) with rfl | rfl | rfl | rfl | rfl <;> first | rfl | exact absurd rfl h2)
theorem cc_low (Λ : Lk) {X X' : XS} {Y Y' : YS} (h1 : xF X = xF X') (h2 : xh X = xh X') {r : Nat} (hr : r < 197) : CC Λ X Y r = CC Λ X' Y' r := by
  unfold CC
  by_cases h : r < 185
  · rw [if_pos h, if_pos h, h1]
  · rw [if_neg h, if_pos hr, if_neg h, if_pos hr]
    unfold hcell
    rw [h2]
theorem cc_big (Λ : Lk) (X : XS) (Y : YS) {r : Nat} (hr : 205 ≤ r) : CC Λ X Y r = .inl (Λ.2.2.2.1 1, 0, .inl (fun _ => 0)) := by
  unfold CC
  rw [if_neg (by omega), if_neg (by omega), if_neg (by omega), if_neg (by omega), if_neg (by omega), if_neg (by omega), if_neg (by omega), if_neg (by omega), if_neg (by omega), if_neg (by omega)]
theorem r_cases {r : Nat} (h1 : ¬ r < 197) (h2 : ¬ 205 ≤ r) : r = 197 ∨ r = 198 ∨ r = 199 ∨ r = 200 ∨ r = 201 ∨ r = 202 ∨ r = 203 ∨ r = 204 := by omega
theorem cs_n (Λ : Lk) (X : XS) (Y : YS) (v : Int32) : va_up (CC Λ X Y) 197 (.inr (4, [rf Λ 185, rf Λ 187, rf Λ 198, rf Λ 200, rf Λ 180, .int v])) = CC Λ (xnS X v) (Y) := by
  funext r
  by_cases h1 : r < 197
  · rw [va_up_ne _ _ (by omega)]; exact cc_low Λ (X := X) (X' := xnS X v) (Y := Y) (Y' := Y) rfl rfl h1
  by_cases h2 : 205 ≤ r
  · rw [va_up_ne _ _ (by omega), cc_big Λ _ _ h2, cc_big Λ _ _ h2]
  rcases r_cases h1 h2 with rfl | rfl | rfl | rfl | rfl | rfl | rfl | rfl <;> rfl
theorem cs_z (Λ : Lk) (X : XS) (Y : YS) (v : Int32) : va_up (CC Λ X Y) 198 (.inr (2, [rf Λ 199, .int v])) = CC Λ (xzS X v) (Y) := by
  funext r
  by_cases h1 : r < 197
  · rw [va_up_ne _ _ (by omega)]; exact cc_low Λ (X := X) (X' := xzS X v) (Y := Y) (Y' := Y) rfl rfl h1
  by_cases h2 : 205 ≤ r
  · rw [va_up_ne _ _ (by omega), cc_big Λ _ _ h2, cc_big Λ _ _ h2]
  rcases r_cases h1 h2 with rfl | rfl | rfl | rfl | rfl | rfl | rfl | rfl <;> rfl
theorem cs_q (Λ : Lk) (X : XS) (Y : YS) (v : Nat → Nat) : va_up (CC Λ X Y) 199 (.inl (Λ.2.2.2.1 4, 4, .inr (.inr (.inr (.inr (fun j => some (Λ.2.1 (189 + 2 * v j)))))))) = CC Λ (xqS X v) (Y) := by
  funext r
  by_cases h1 : r < 197
  · rw [va_up_ne _ _ (by omega)]; exact cc_low Λ (X := X) (X' := xqS X v) (Y := Y) (Y' := Y) rfl rfl h1
  by_cases h2 : 205 ≤ r
  · rw [va_up_ne _ _ (by omega), cc_big Λ _ _ h2, cc_big Λ _ _ h2]
  rcases r_cases h1 h2 with rfl | rfl | rfl | rfl | rfl | rfl | rfl | rfl <;> rfl
theorem cs_l (Λ : Lk) (X : XS) (Y : YS) (v : Int32) : va_up (CC Λ X Y) 200 (.inr (3, [rf Λ 201, rf Λ 202, rf Λ 203, .int v, .int (xm X)])) = CC Λ (xlS X v) (Y) := by
  funext r
  by_cases h1 : r < 197
  · rw [va_up_ne _ _ (by omega)]; exact cc_low Λ (X := X) (X' := xlS X v) (Y := Y) (Y' := Y) rfl rfl h1
  by_cases h2 : 205 ≤ r
  · rw [va_up_ne _ _ (by omega), cc_big Λ _ _ h2, cc_big Λ _ _ h2]
  rcases r_cases h1 h2 with rfl | rfl | rfl | rfl | rfl | rfl | rfl | rfl <;> rfl
theorem cs_m (Λ : Lk) (X : XS) (Y : YS) (v : Int32) : va_up (CC Λ X Y) 200 (.inr (3, [rf Λ 201, rf Λ 202, rf Λ 203, .int (xl X), .int v])) = CC Λ (xmS X v) (Y) := by
  funext r
  by_cases h1 : r < 197
  · rw [va_up_ne _ _ (by omega)]; exact cc_low Λ (X := X) (X' := xmS X v) (Y := Y) (Y' := Y) rfl rfl h1
  by_cases h2 : 205 ≤ r
  · rw [va_up_ne _ _ (by omega), cc_big Λ _ _ h2, cc_big Λ _ _ h2]
  rcases r_cases h1 h2 with rfl | rfl | rfl | rfl | rfl | rfl | rfl | rfl <;> rfl
theorem cs_c (Λ : Lk) (X : XS) (Y : YS) (v : Nat → Int32) : va_up (CC Λ X Y) 201 (.inl (Λ.2.2.2.1 2, 60, .inl v)) = CC Λ (xcS X v) (Y) := by
  funext r
  by_cases h1 : r < 197
  · rw [va_up_ne _ _ (by omega)]; exact cc_low Λ (X := X) (X' := xcS X v) (Y := Y) (Y' := Y) rfl rfl h1
  by_cases h2 : 205 ≤ r
  · rw [va_up_ne _ _ (by omega), cc_big Λ _ _ h2, cc_big Λ _ _ h2]
  rcases r_cases h1 h2 with rfl | rfl | rfl | rfl | rfl | rfl | rfl | rfl <;> rfl
theorem cs_b (Λ : Lk) (X : XS) (Y : YS) (v : Nat → Int32) : va_up (CC Λ X Y) 202 (.inl (Λ.2.2.2.1 1, 30, .inl v)) = CC Λ (xbS X v) (Y) := by
  funext r
  by_cases h1 : r < 197
  · rw [va_up_ne _ _ (by omega)]; exact cc_low Λ (X := X) (X' := xbS X v) (Y := Y) (Y' := Y) rfl rfl h1
  by_cases h2 : 205 ≤ r
  · rw [va_up_ne _ _ (by omega), cc_big Λ _ _ h2, cc_big Λ _ _ h2]
  rcases r_cases h1 h2 with rfl | rfl | rfl | rfl | rfl | rfl | rfl | rfl <;> rfl
theorem cs_e (Λ : Lk) (X : XS) (Y : YS) (v : Nat → Int32) : va_up (CC Λ X Y) 203 (.inl (Λ.2.2.2.1 1, 30, .inl v)) = CC Λ (xeS X v) (Y) := by
  funext r
  by_cases h1 : r < 197
  · rw [va_up_ne _ _ (by omega)]; exact cc_low Λ (X := X) (X' := xeS X v) (Y := Y) (Y' := Y) rfl rfl h1
  by_cases h2 : 205 ≤ r
  · rw [va_up_ne _ _ (by omega), cc_big Λ _ _ h2, cc_big Λ _ _ h2]
  rcases r_cases h1 h2 with rfl | rfl | rfl | rfl | rfl | rfl | rfl | rfl <;> rfl
section PAIRS
variable {Λ : Lk} {κ : Kx} {R0 : Room} {cc : ByteArray} {Ts : List Cond} {own : String} {nL0 : Nat} {pc : Nat} {lv : Lvs} {X : XS} {Y : YS}
theorem v_iretX (hC : Ok Λ R0 cc Ts own nL0 κ) {E : Int32 × XS} {x : Int32} {X' : XS} (hR : Rt Λ (some .int) (some (.int E.1)) (CC Λ E.2 Y) κ) (e : E = (x, X')) (hdg : decode cc pc = .ok (.ireturn, 1)) : V Λ κ (CC Λ X' Y) pc lv [.int x] := by
  subst e
  exact v_iret hC hR rfl rfl hdg
end PAIRS
theorem cs_y (Λ : Lk) (X : XS) (Y : YS) (v : Nat → Int32) : va_up (CC Λ X Y) 204 (.inl (Λ.2.2.2.1 1, 8, .inl v)) = CC Λ X v := by
  funext r
  by_cases h1 : r < 197
  · rw [va_up_ne _ _ (by omega)]; exact cc_low Λ (X := X) (X' := X) (Y := Y) (Y' := v) rfl rfl h1
  by_cases h2 : 205 ≤ r
  · rw [va_up_ne _ _ (by omega), cc_big Λ _ _ h2, cc_big Λ _ _ h2]
  rcases r_cases h1 h2 with rfl | rfl | rfl | rfl | rfl | rfl | rfl | rfl <;> rfl
