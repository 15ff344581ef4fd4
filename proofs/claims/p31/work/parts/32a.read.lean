/-! The text read -/
def ntR (r : Nat) : Nat := if r < 30 then r + 1 else r
theorem ntR_le {r : Nat} (h : r ≤ 30) : ntR r ≤ 30 := by unfold ntR; split <;> omega
theorem ntX_m {X : XS} {r : Nat} {f l : Int32} (h : xm X = nI r) : xm (ntX X r f l) = nI (ntR r) := by
  unfold ntX ntR
  by_cases h1 : r < 30
  · rw [if_pos h1, if_pos h1]
  · rw [if_neg h1, if_neg h1, h]
theorem ntX_l {X : XS} {r : Nat} {f l : Int32} : xl (ntX X r f l) = xl X := by unfold ntX; split <;> rfl
theorem ntX_c {X : XS} {r : Nat} {f l : Int32} : xc (ntX X r f l) = xc X := by unfold ntX; split <;> rfl
def rdC (c : Nat → Int32) (L : Nat) : Nat → Nat → Nat → Int32 → Int32 → Bool → XS → Nat → Int32 × XS
  | 0, _, d, f, v, s, Z, r => if d = 0 then (nI L, Z) else (-1, ntX Z r (if s = true then f else v) v)
  | u + 1, i, d, f, v, s, Z, r =>
    if 48 ≤ c i ∧ c i ≤ 57 then (if d = 4 ∨ (d = 1 ∧ v = 0) then (nI i, Z) else rdC c L u (i + 1) (d + 1) f (10 * v + (c i - 48)) s Z r)
    else if c i = 45 ∧ 0 < d ∧ s = false then rdC c L u (i + 1) 0 v 0 true Z r
    else if c i = 44 ∧ 0 < d then rdC c L u (i + 1) 0 f 0 false (ntX Z r (if s = true then f else v) v) (ntR r)
    else (nI i, Z)
def rdX (X : XS) (L : Nat) : Int32 × XS := rdC (xc X) L L 0 0 0 0 false (xmS X 0) 0
