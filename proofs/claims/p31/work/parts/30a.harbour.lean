/-! The harbours: what their methods answer -/
abbrev hF (X : XS) (h j : Nat) : FR := X.1 (6 * h + j)
def orC (F : Nat → FR) (w : Nat) : Nat → Int64
  | 0 => 0
  | j + 1 => orC F w j ||| fw (F j) w
def hoC (F : Nat → FR) (n : Nat) : Nat → Nat
  | 0 => 0
  | j + 1 => hoC F n j + (if fbit (fw (F j)) n = true then 1 else 0)
theorem hoC_le (F : Nat → FR) (n : Nat) : ∀ m, hoC F n m ≤ m
  | 0 => Nat.le_refl _
  | m + 1 => by
    have := hoC_le F n m
    show hoC F n m + _ ≤ _
    split <;> omega
def mhI (F : Nat → FR) (m w : Nat) : Nat → Nat → Int32 → Nat → Int32 × Nat
  | 0, _, f, t => (f, t)
  | u + 1, k, f, t => if t < hoC F (w * 64 + k) m then mhI F m w u (k + 1) (nI (w * 64 + k)) (hoC F (w * 64 + k) m) else mhI F m w u (k + 1) f t
def lkE (F : Nat → FR) (m w : Nat) : Nat := if orC F w m = 0 then 0 else 64
theorem lkE_le (F : Nat → FR) (m w : Nat) : lkE F m w ≤ 64 := by unfold lkE; split <;> omega
def mhO (F : Nat → FR) (m : Nat) : Nat → Nat → Int32 → Nat → Int32
  | 0, _, f, _ => f
  | u + 1, w, f, t => mhO F m u (w + 1) (mhI F m w (lkE F m w) 0 f t).1 (mhI F m w (lkE F m w) 0 f t).2
def naI (F : Nat → FR) (m w : Nat) : Nat → Nat → Int32 → Int32 × Int32
  | 0, _, l => (l, -5)
  | u + 1, k, l => if l - nI (hoC F (w * 64 + k) m) < 0 then (l - nI (hoC F (w * 64 + k) m), nI (w * 64 + k)) else naI F m w u (k + 1) (l - nI (hoC F (w * 64 + k) m))
def naO (F : Nat → FR) (m : Nat) : Nat → Nat → Int32 → Int32
  | 0, _, _ => -5
  | u + 1, w, l => if (naI F m w (lkE F m w) 0 l).2 = -5 then naO F m u (w + 1) (naI F m w (lkE F m w) 0 l).1 else (naI F m w (lkE F m w) 0 l).2
theorem lgc0 {x : Int64} : lg_cmp x 0 = 0 ↔ x = 0 := by
  unfold lg_cmp
  constructor
  · intro h
    split at h
    · exact absurd h (by decide)
    · split at h
      · assumption
      · exact absurd h (by decide)
  · intro h
    subst h
    decide
theorem lkE_0 {F : Nat → FR} {m w : Nat} (h : lg_cmp (orC F w m) 0 = 0) : 0 = lkE F m w := (if_pos (lgc0.mp h)).symm
theorem lkE_1 {F : Nat → FR} {m w : Nat} (h : ¬ lg_cmp (orC F w m) 0 = 0) : 64 = lkE F m w := (if_neg (fun g => h (lgc0.mpr g))).symm
theorem nI_m5 {n : Nat} (h : n < 2 ^ 31) : ¬ nI n = -5 := fun e => nI_pos h (by rw [e]; decide)
