/-! BoatSets: what its acts answer, and what they leave -/
theorem cpH_hne {X : XS} {h g m j h' : Nat} (hh : h' ≠ h) : xh (cpH X h g m j) h' = xh X h' := va_up_ne _ _ hh
theorem push_h {X : XS} {t m h : Nat} (hh : h < 2) : xh (pushX X t m) h = xh X h := by
  unfold pushX
  split
  · exact cpH_hne (X := X) (g := 0) (m := m) (j := m) (by omega)
  · exact cpH_hne (X := dropX X) (g := 0) (m := m) (j := m) (by omega)
theorem pushA_f {X : XS} {t m i : Nat} (hq : ∀ j, xq X j < 4) (hm : m ≤ 6) (hi : i < 12 ∨ i = 36) : (pushA X t m).1 i = X.1 i := by
  have := hq t
  show (if 6 * (2 + xq X t) ≤ i ∧ i < 6 * (2 + xq X t) + m then _ else X.1 i) = _
  rw [if_neg (by omega)]
theorem push_f {X : XS} {t m i : Nat} (hq : ∀ j, xq X j < 4) (hm : m ≤ 6) (hi : i < 12 ∨ i = 36) : (pushX X t m).1 i = X.1 i := by
  unfold pushX
  split
  · exact pushA_f hq hm hi
  · exact pushA_f (X := dropX X) (dropX_lt hq) hm hi
def nsX (X : XS) (t m : Nat) (c : Int32) : Int32 × XS := if c < 0 ∨ 9999 < c then (-2, X) else if m < 6 then (nI m, opH (pushX X t m) 0 m c) else (-3, X)
def payX (X : XS) (t m : Nat) (s c : Int32) : Int32 × XS := if isC m s = false then (-1, X) else if c < 1 ∨ 9999 < c then (-2, X) else if 9999 < fp (X.1 (ix s)) + c then (-3, X) else
  (fp (X.1 (ix s)) + c, xFi (pushX X t m) (ix s) (fpS (X.1 (ix s)) (fp (X.1 (ix s)) + c)))
def sailX (X : XS) (t m : Nat) (s : Int32) : Int32 × XS := if isC m s = false then (-1, X) else if fa (X.1 (ix s)) = true then (-5, X) else
  (bkC (faS (X.1 (ix s)) true) 0 8 + bkC (faS (X.1 (ix s)) true) 1 8 + bkC (faS (X.1 (ix s)) true) 2 8, xFi (pushX X t m) (ix s) (faS (X.1 (ix s)) true))
def dockX (X : XS) (t m : Nat) (s : Int32) : Int32 × XS := if isC m s = false then (-1, X) else
  ((ehF 8 (faS ((pushX X t m).1 (ix s)) false) 0 0).2, xFi (pushX X t m) (ix s) (ehF 8 (faS ((pushX X t m).1 (ix s)) false) 0 0).1)
def stX (X : XS) (t m k : Nat) (v : Int32) : Int32 × XS := if v < 0 then (v, X) else if v = 0 then (-5, X) else (v, xFi (pushX X t m) k (cpF ((pushX X t m).1 36) ((pushX X t m).1 k)))
def mvR (X : XS) (k a b : Nat) (cm : Bool) : FR × Int32 := mvF cm (b + 1 - a) a 0 (cpF (X.1 k) (X.1 36))
def mvX (X : XS) (k a b : Nat) (cm : Bool) : XS := xFi (xFi X 36 (cpF (X.1 k) (X.1 36))) 36 (mvR X k a b cm).1
def mrX (X : XS) (t m : Nat) (s a b : Int32) (cm : Bool) : Int32 × XS := if isC m s = false then (-1, X) else if inB a 0 2047 = true ∧ inB b 0 2047 = true ∧ a ≤ b then
  stX (mvX X (ix s) (ix a) (ix b) cm) t m (ix s) (mvR X (ix s) (ix a) (ix b) cm).2 else (-2, X)
def tollX (X : XS) (m : Nat) (s : Int32) : Int32 × XS := if isC m s = false then (-1, X) else
  ((ehF 8 (faS (cpF (X.1 (ix s)) (X.1 36)) false) 0 0).2, xFi (xFi X 36 (cpF (X.1 (ix s)) (X.1 36))) 36 (ehF 8 (faS (cpF (X.1 (ix s)) (X.1 36)) false) 0 0).1)
theorem mvX_h {X : XS} {k a b : Nat} {cm : Bool} : xh (mvX X k a b cm) = xh X := rfl
