/-! Harbours copied, the text's ranges -/
def cpH (X : XS) (h g m j : Nat) : XS := (fun i => if 6 * h ≤ i ∧ i < 6 * h + j then cpF (X.1 (6 * g + (i - 6 * h))) (X.1 i) else X.1 i, va_up (xh X) h (nI m), X.2.2)
theorem cpH_h {X : XS} {h g m j : Nat} : xh (cpH X h g m j) h = nI m := va_up_self _ _ _
theorem cpH_0 {X : XS} {h g m : Nat} : xhS X (va_up (xh X) h (nI m)) = cpH X h g m 0 := by
  refine Prod.ext (funext fun i => ?_) rfl
  show X.1 i = if 6 * h ≤ i ∧ i < 6 * h + 0 then _ else X.1 i
  rw [if_neg (by omega)]
theorem cpH_s {X : XS} {h g m j : Nat} (hg : g ≠ h) (hj : j < 6) : xFi (cpH X h g m j) (6 * h + j) (cpF (hF (cpH X h g m j) g j) (hF (cpH X h g m j) h j)) = cpH X h g m (j + 1) := by
  have e1 : hF (cpH X h g m j) g j = X.1 (6 * g + j) := by
    show (if 6 * h ≤ 6 * g + j ∧ 6 * g + j < 6 * h + j then _ else X.1 (6 * g + j)) = _
    rw [if_neg (by omega)]
  have e2 : hF (cpH X h g m j) h j = X.1 (6 * h + j) := by
    show (if 6 * h ≤ 6 * h + j ∧ 6 * h + j < 6 * h + j then _ else X.1 (6 * h + j)) = _
    rw [if_neg (by omega)]
  rw [e1, e2]
  refine Prod.ext (funext fun i => ?_) rfl
  by_cases hi : i = 6 * h + j
  · subst hi
    rw [xFi_at]
    show _ = if 6 * h ≤ 6 * h + j ∧ 6 * h + j < 6 * h + (j + 1) then _ else _
    rw [if_pos (by omega), show 6 * h + j - 6 * h = j by omega]
  · rw [xFi_ne _ _ hi]
    show (if 6 * h ≤ i ∧ i < 6 * h + j then _ else X.1 i) = if 6 * h ≤ i ∧ i < 6 * h + (j + 1) then _ else X.1 i
    by_cases h1 : 6 * h ≤ i ∧ i < 6 * h + j
    · rw [if_pos h1, if_pos (by omega)]
    · rw [if_neg h1, if_neg (by omega)]
def opH (X : XS) (h m : Nat) (c : Int32) : XS := xhS (xFi X (6 * h + m) (bgF (hF X h m) c)) (va_up (xh X) h (nI (m + 1)))
def gvC (b e : Nat → Int32) : Nat → Nat → Bool
  | 0, _ => true
  | u + 1, i => if inB (b i) 0 2047 = true ∧ inB (e i) 0 2047 = true ∧ b i ≤ e i then gvC b e u (i + 1) else false
def ntX (X : XS) (r : Nat) (f l : Int32) : XS := if r < 30 then xmS (xeS (xbS X (upd (xb X) r f)) (upd (xe X) r l)) (nI (r + 1)) else X
