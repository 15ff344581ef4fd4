/-! BoatSets: the other acts -/
theorem st_neg {X : XS} {t m k : Nat} {v : Int32} (h : v < 0) : (stX X t m k v).1 < 0 := by rw [stX, if_pos h]; exact h
theorem mr_ok {X : XS} {t m : Nat} {s a b : Int32} {cm : Bool} (h : ¬ (mrX X t m s a b cm).1 < 0) : isC m s = true ∧ inB a 0 2047 = true := by
  unfold mrX at h
  split at h
  · exact absurd (show (-1 : Int32) < 0 by decide) h
  · rename_i h1
    split at h
    · rename_i h2
      exact ⟨by simpa using h1, h2.1⟩
    · exact absurd (show (-2 : Int32) < 0 by decide) h
def addX (X : XS) (t m : Nat) (s n : Int32) : Int32 × XS := if (mrX X t m s n n true).1 < 0 then mrX X t m s n n true else (fk ((mrX X t m s n n true).2.1 (ix s)) (ix n / 256), (mrX X t m s n n true).2)
def remX (X : XS) (t m : Nat) (s n : Int32) : Int32 × XS := if (mrX X t m s n n false).1 < 0 then mrX X t m s n n false else (fs ((mrX X t m s n n false).2.1 (ix s)) (ix n / 256), (mrX X t m s n n false).2)
def cb1 (X : XS) (k : Nat) : XS := xFi X 36 (cpF (X.1 k) (X.1 36))
def cb2 (X : XS) (how : Int32) (k k2 k3 : Nat) : XS := xFi (cb1 X k) 36 (flF how ((cb1 X k).1 k2) ((cb1 X k).1 k3) (cpF (X.1 k) (X.1 36)))
def cb3 (X : XS) (t m : Nat) (how : Int32) (k k2 k3 : Nat) : XS := pushX (cb2 X how k k2 k3) t m
def cbX (X : XS) (t m : Nat) (how s u v : Int32) : Int32 × XS := if isC m s = false ∨ isC m u = false ∨ isC m v = false then (-1, X) else if inB how 0 3 = false then (-2, X) else if fa (X.1 (ix s)) = true then (-4, X) else
  (sumI (fs (cpF ((cb3 X t m how (ix s) (ix u) (ix v)).1 36) ((cb3 X t m how (ix s) (ix u) (ix v)).1 (ix s)))) 8,
    xFi (cb3 X t m how (ix s) (ix u) (ix v)) (ix s) (cpF ((cb3 X t m how (ix s) (ix u) (ix v)).1 36) ((cb3 X t m how (ix s) (ix u) (ix v)).1 (ix s))))
def unX (X : XS) (t u : Nat) : Int32 × XS := if t = 0 then (-5, X) else (nI (t - 1), popX X t u)
def kpX (X : XS) (m : Nat) : Int32 × XS := (nI m, xnS (cpH X 1 0 m m) 1)
def rsX (X : XS) (t m u : Nat) (sn : Bool) : Int32 × XS := if sn = false then (-5, X) else (nI u, cpH (pushX X t m) 0 1 u u)
