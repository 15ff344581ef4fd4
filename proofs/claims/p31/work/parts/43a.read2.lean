/-! BoatSets: ranges from a text -/
theorem ntX_ok {X Z : XS} {r : Nat} {f l : Int32} (h : ∃ b e, Z = xmS (xeS (xbS X b) e) (nI r)) : ∃ b e, ntX Z r f l = xmS (xeS (xbS X b) e) (nI (ntR r)) := by
  obtain ⟨b, e, rfl⟩ := h
  unfold ntX ntR
  split
  · exact ⟨upd b r f, upd e r l, rfl⟩
  · exact ⟨b, e, rfl⟩
theorem rdC_ok (X : XS) (c : Nat → Int32) (L : Nat) : ∀ (fu i d : Nat) (f v : Int32) (s : Bool) (Z : XS) (r : Nat), r ≤ 30 → (∃ b e, Z = xmS (xeS (xbS X b) e) (nI r)) → ∃ b e r', r' ≤ 30 ∧ (rdC c L fu i d f v s Z r).2 = xmS (xeS (xbS X b) e) (nI r')
  | 0, i, d, f, v, s, Z, r, hr, hZ => by
    rw [rdC]
    split
    · obtain ⟨b, e, h⟩ := hZ
      exact ⟨b, e, r, hr, h⟩
    · obtain ⟨b, e, h⟩ := ntX_ok (f := if s = true then f else v) (l := v) hZ
      exact ⟨b, e, ntR r, ntR_le hr, h⟩
  | fu + 1, i, d, f, v, s, Z, r, hr, hZ => by
    rw [rdC]
    split
    · split
      · obtain ⟨b, e, h⟩ := hZ
        exact ⟨b, e, r, hr, h⟩
      · exact rdC_ok X c L fu _ _ _ _ _ Z r hr hZ
    · split
      · exact rdC_ok X c L fu _ _ _ _ _ Z r hr hZ
      · split
        · exact rdC_ok X c L fu _ _ _ _ _ _ _ (ntR_le hr) (ntX_ok hZ)
        · obtain ⟨b, e, h⟩ := hZ
          exact ⟨b, e, r, hr, h⟩
theorem rdX_ok (X : XS) (L : Nat) : ∃ b e r, r ≤ 30 ∧ (rdX X L).2 = xmS (xeS (xbS X b) e) (nI r) := rdC_ok X _ L _ _ _ _ _ _ _ 0 (by omega) ⟨xb X, xe X, rfl⟩
theorem gv_at {b e : Nat → Int32} : ∀ (u i j : Nat), gvC b e u i = true → i ≤ j → j < i + u → inB (b j) 0 2047 = true ∧ inB (e j) 0 2047 = true ∧ b j ≤ e j
  | 0, i, j, _, h1, h2 => absurd h2 (by omega)
  | u + 1, i, j, h, h1, h2 => by
    rw [gvC] at h
    split at h
    · rename_i hc
      by_cases hj : j = i
      · subst hj; exact hc
      · exact gv_at u (i + 1) j h (by omega) (by omega)
    · exact absurd h (by decide)
theorem gv_at0 {b e : Nat → Int32} {r i : Nat} (h : gvC b e r 0 = true) (hi : i < r) : inB (b i) 0 2047 = true ∧ inB (e i) 0 2047 = true ∧ b i ≤ e i := gv_at r 0 i h (by omega) (by omega)
def rlF (b e : Nat → Int32) : Nat → Nat → Int32 → FR → FR × Int32 × Bool
  | 0, _, mv, g => (g, mv, true)
  | u + 1, i, mv, g => if (mvF true (ix (e i) + 1 - ix (b i)) (ix (b i)) 0 g).2 < 0 then ((mvF true (ix (e i) + 1 - ix (b i)) (ix (b i)) 0 g).1, (mvF true (ix (e i) + 1 - ix (b i)) (ix (b i)) 0 g).2, false) else
    rlF b e u (i + 1) (mv + (mvF true (ix (e i) + 1 - ix (b i)) (ix (b i)) 0 g).2) (mvF true (ix (e i) + 1 - ix (b i)) (ix (b i)) 0 g).1
def rlZ (Z : XS) (k r : Nat) : FR × Int32 × Bool := rlF (xb Z) (xe Z) r 0 0 (cpF (Z.1 k) (Z.1 36))
def rrE (Z : XS) (t m k : Nat) (q : FR × Int32 × Bool) : Int32 × XS := if q.2.2 = false then (q.2.1, xFi Z 36 q.1) else stX (xFi Z 36 q.1) t m k q.2.1
def rrC (Z : XS) (t m k r : Nat) : Int32 × XS := if gvC (xb Z) (xe Z) r 0 = false then (-2, Z) else rrE Z t m k (rlZ Z k r)
def rrX (X : XS) (t m L : Nat) (s : Int32) : Int32 × XS := if isC m s = false then (-1, X) else if ¬ (rdX X L).1 = -1 then (-100 - (rdX X L).1, (rdX X L).2) else rrC (rdX X L).2 t m (ix s) (ix (xm (rdX X L).2))
