/-! BoatSets: what its queries answer -/
def isC (m : Nat) (s : Int32) : Bool := decide (0 ≤ s ∧ s < nI m)
theorem isC_F1 {m : Nat} {s : Int32} (h : s < 0) : isC m s = false := decide_eq_false (fun g => Int32.not_le.mpr h g.1)
theorem isC_F2 {m : Nat} {s : Int32} (h : nI m ≤ s) : isC m s = false := decide_eq_false (fun g => Int32.not_lt.mpr h g.2)
theorem isC_T {m : Nat} {s : Int32} (h1 : ¬ s < 0) (h2 : ¬ nI m ≤ s) : isC m s = true := decide_eq_true ⟨Int32.not_lt.mp h1, Int32.not_le.mp h2⟩
theorem isC_of {m : Nat} {s : Int32} (hm : m ≤ 6) (h : isC m s = true) : ∃ k, k < m ∧ s = nI k := by
  have h2 := of_decide_eq_true h
  obtain ⟨j, hj, rfl⟩ := nI_of (Int32.not_lt.mpr h2.1)
  exact ⟨j, (nI_ltI hj (by omega)).mp h2.2, rfl⟩
theorem inB_T {v lo hi : Int32} (h1 : ¬ v < lo) (h2 : ¬ hi < v) : inB v lo hi = true := decide_eq_true ⟨Int32.not_lt.mp h1, Int32.not_lt.mp h2⟩
theorem lt8_of {b : Int32} (h1 : ¬ b < 0) (h2 : ¬ 8 ≤ b) : ∃ q, q < 8 ∧ b = nI q := by
  obtain ⟨j, hj, rfl⟩ := nI_of h1
  exact ⟨j, Nat.lt_of_not_le (fun g => h2 ((nI_leI (a := 8) (by decide) hj).mpr g)), rfl⟩
def hasC (X : XS) (m : Nat) (s n : Int32) : Int32 := if isC m s = false then -1 else if inB n 0 2047 = false then -2 else bI (fbit (fw (X.1 (ix s))) (ix n))
def rankC (X : XS) (m : Nat) (s n : Int32) : Int32 := if isC m s = false then -1 else if inB n 0 2047 = false then -2 else nI (rkC (fw (X.1 (ix s))) (ix n))
def placeC (X : XS) (m : Nat) (s n : Int32) : Int32 := if isC m s = false then -1 else if n < 0 then -2 else atI (fw (X.1 (ix s))) n
def nextC (X : XS) (m : Nat) (s n : Int32) : Int32 := if isC m s = false then -1 else if inB n 0 2047 = false then -2 else atI (fw (X.1 (ix s))) (nI (rkC (fw (X.1 (ix s))) (ix n)))
def nearC (X : XS) (m : Nat) (s n : Int32) : Int32 := if isC m s = false then -1 else if inB n 0 2047 = false then -2 else
  if atI (fw (X.1 (ix s))) (nI (rkC (fw (X.1 (ix s))) (ix n)) - 1) = -5 then atI (fw (X.1 (ix s))) (nI (rkC (fw (X.1 (ix s))) (ix n))) else
  if atI (fw (X.1 (ix s))) (nI (rkC (fw (X.1 (ix s))) (ix n))) = -5 then atI (fw (X.1 (ix s))) (nI (rkC (fw (X.1 (ix s))) (ix n)) - 1) else
  if atI (fw (X.1 (ix s))) (nI (rkC (fw (X.1 (ix s))) (ix n))) - n < n - atI (fw (X.1 (ix s))) (nI (rkC (fw (X.1 (ix s))) (ix n)) - 1) then atI (fw (X.1 (ix s))) (nI (rkC (fw (X.1 (ix s))) (ix n))) else atI (fw (X.1 (ix s))) (nI (rkC (fw (X.1 (ix s))) (ix n)) - 1)
def gapC (X : XS) (m : Nat) (s len : Int32) : Int32 := if isC m s = false then -1 else if len < 1 ∨ 2048 < len then -2 else gapF (fbit (fw (X.1 (ix s)))) len 2048 0 0
def setC (X : XS) (m : Nat) (s what : Int32) : Int32 := if isC m s = false then -1 else
  if what = 0 then sumI (fs (X.1 (ix s))) 8 else if what = 1 then bkC (X.1 (ix s)) 0 8 + bkC (X.1 (ix s)) 1 8 + bkC (X.1 (ix s)) 2 8 else
  if what = 2 then sumI (fun b => unitsC (X.1 (ix s)) b (fk (X.1 (ix s)) b)) 8 else if what = 3 then fp (X.1 (ix s)) else if what = 4 then bI (fa (X.1 (ix s))) else
  if what = 5 then fd (X.1 (ix s)) else if what = 6 then sumI (fr (X.1 (ix s))) 8 else if what = 7 then atI (fw (X.1 (ix s))) 0 else
  if what = 8 then atI (fw (X.1 (ix s))) (sumI (fs (X.1 (ix s))) 8 - 1) else if what = 9 then sumI (fun b => unitsC (X.1 (ix s)) b (bestC (X.1 (ix s)) b)) 8 else -2
def boatC (X : XS) (m : Nat) (s b what : Int32) : Int32 := if isC m s = false then -1 else if b < 0 ∨ 8 ≤ b ∨ what < 0 ∨ 5 < what then -2 else
  if fs (X.1 (ix s)) (ix b) = 0 then -5 else if what = 0 then fk (X.1 (ix s)) (ix b) else if what = 1 then fs (X.1 (ix s)) (ix b) else if what = 2 then fr (X.1 (ix s)) (ix b) else
  if what = 3 then unitsC (X.1 (ix s)) (ix b) (fk (X.1 (ix s)) (ix b)) else if what = 4 then bestC (X.1 (ix s)) (ix b) else tbC (X.1 (ix s)) (ix b)
def sizeC (X : XS) (m : Nat) (how s o : Int32) : Int32 := if isC m s = false ∨ isC m o = false then -1 else if inB how 0 3 = false then -2 else nI (smN (fun j => pcN (joC how (fw (X.1 (ix s)) j) (fw (X.1 (ix o)) j))) 32)
def allC (X : XS) (m : Nat) (p : Int32) : Int32 := if p < 0 then -2 else naO (hF X 0) m 32 0 p
def cntC (X : XS) (m t L : Nat) (what : Int32) : Int32 :=
  if what = 0 then nI m else if what = 1 then sumI (fun j => bI (fa (hF X 0 j))) m else if what = 2 then sumI (fun j => bkC (hF X 0 j) 0 8) m else if what = 3 then sumI (fun j => bkC (hF X 0 j) 1 8) m else
  if what = 4 then sumI (fun j => bkC (hF X 0 j) 2 8) m else if what = 5 then sumI (fun j => sumI (fun b => unitsC (hF X 0 j) b (fk (hF X 0 j) b)) 8) m else
  if what = 6 then sumI (fun j => sumI (fs (hF X 0 j)) 8) m else if what = 7 then nI (smN (fun v => pcN (orC (hF X 0) v m)) 32) else if what = 8 then sumI (fun j => fd (hF X 0 j)) m else
  if what = 9 then nI t else if what = 10 then nI L else -2
def typX (X : XS) (L : Nat) (v : Int32) : Int32 × XS := if L < 60 then (nI (L + 1), xlS (xcS X (upd (xc X) L (vp_nar .char v))) (nI (L + 1))) else (-3, X)
