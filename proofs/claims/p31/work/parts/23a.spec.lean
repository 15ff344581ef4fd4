/-! The fleets: ranks, places, gaps -/
def smN (f : Nat → Nat) : Nat → Nat
  | 0 => 0
  | n + 1 => smN f n + f n
def rkC (w : Nat → Int64) (n : Nat) : Nat := smN (fun j => pcN (w j)) (n / 64) + pcN (w (n / 64) &&& (onL n - 1))
def dropL (x : Int64) : Nat → Int64
  | 0 => x
  | k + 1 => dropL x k &&& (dropL x k - 1)
def pbC (x : Int64) (k : Nat) : Nat := pcN ((dropL x k &&& -dropL x k) - 1)
theorem pbC_le (x : Int64) (k : Nat) : pbC x k ≤ 64 := pcN_le _
def atC (w : Nat → Int64) : Nat → Nat → Nat → Int32
  | 0, _, _ => -5
  | k + 1, b, l => if l < pcN (w b) then nI (64 * b + pbC (w b) l) else atC w k (b + 1) (l - pcN (w b))
def atI (w : Nat → Int64) (p : Int32) : Int32 := if p < 0 then -5 else atC w 32 0 (ix p)
theorem smN_le64 (f : Nat → Nat) (h : ∀ j, f j ≤ 64) : ∀ n, smN f n ≤ 64 * n
  | 0 => Nat.le_refl _
  | n + 1 => by
    have := smN_le64 f h n
    have := h n
    show smN f n + f n ≤ _
    omega
theorem rkC_le {w : Nat → Int64} {n : Nat} (h : n < 2048) : rkC w n ≤ 2048 := by
  have h1 := smN_le64 (fun j => pcN (w j)) (fun j => pcN_le _) (n / 64)
  have h2 := pcN_le (w (n / 64) &&& (onL n - 1))
  unfold rkC
  omega
theorem gapF_end {b : Nat → Bool} {len : Int32} {n s : Nat} : gapF b len 0 n s = -5 := rfl
def filK {α : Type} (v : α) (g : Nat → α) (n : Nat) : Nat → α := fun z => if z < n then v else g z
theorem filK_0 {α : Type} (v : α) (g : Nat → α) : filK v g 0 = g := by funext z; simp [filK]
theorem filK_sI (v : Int32) (g : Nat → Int32) (n : Nat) : upd (filK v g n) n v = filK v g (n + 1) := by
  funext z
  unfold upd filK
  by_cases h : z = n
  · subst h; simp
  · by_cases h2 : z < n
    · rw [if_neg h, if_pos h2, if_pos (by omega)]
    · rw [if_neg h, if_neg h2, if_neg (by omega)]
theorem filK_sL (v : Int64) (g : Nat → Int64) (n : Nat) : vp_updL (filK v g n) n v = filK v g (n + 1) := by
  funext z
  unfold vp_updL filK
  by_cases h : z = n
  · subst h; simp
  · by_cases h2 : z < n
    · rw [if_neg h, if_pos h2, if_pos (by omega)]
    · rw [if_neg h, if_neg h2, if_neg (by omega)]
def fillF (f : FR) : FR := (filK 0 (fw f) 32, filK 0 (fk f) 8, filK 0 (fs f) 8, filK 0 (fr f) 8, fp f, fd f, fa f)
