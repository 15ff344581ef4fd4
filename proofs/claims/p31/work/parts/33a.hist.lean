/-! The history -/
theorem q_lt {q : Nat → Nat} (h : ∀ j, q j < 4) (j : Nat) : 2 + q j < 6 := by have := h j; omega
theorem q_role (Λ : Lk) (q : Nat) : some (Λ.2.1 (189 + 2 * q)) = some (Λ.2.1 (185 + 2 * (2 + q))) := by rw [show 189 + 2 * q = 185 + 2 * (2 + q) by omega]
theorem cs_qs (Λ : Lk) (X : XS) (Y : YS) (k q : Nat) : va_up (CC Λ X Y) 199 (.inl (Λ.2.2.2.1 4, 4, .inr (.inr (.inr (.inr (va_up (fun j => some (Λ.2.1 (189 + 2 * xq X j))) k (some (Λ.2.1 (185 + 2 * (2 + q)))))))))) = CC Λ (xqS X (va_up (xq X) k q)) Y := by
  have e : va_up (fun j => some (Λ.2.1 (189 + 2 * xq X j))) k (some (Λ.2.1 (185 + 2 * (2 + q)))) = fun j => some (Λ.2.1 (189 + 2 * va_up (xq X) k q j)) := by
    funext j
    by_cases h : j = k
    · subst h
      rw [va_up_self, va_up_self, show 185 + 2 * (2 + q) = 189 + 2 * q by omega]
    · rw [va_up_ne _ _ h, va_up_ne _ _ h]
  rw [e]
  exact cs_q Λ X Y _
def rotK (q : Nat → Nat) (j : Nat) : Nat → Nat := fun i => if i + 1 < j then q (i + 1) else q i
theorem rotK_1 {q : Nat → Nat} : rotK q 1 = q := by
  funext i
  unfold rotK
  rw [if_neg (by omega)]
theorem rotK_s {q : Nat → Nat} {j : Nat} (h : 1 ≤ j) : va_up (rotK q j) (j - 1) (rotK q j j) = rotK q (j + 1) := by
  funext i
  by_cases hi : i = j - 1
  · subst hi
    rw [va_up_self]
    unfold rotK
    rw [if_neg (by omega), if_pos (by omega), show j - 1 + 1 = j by omega]
  · rw [va_up_ne _ _ hi]
    unfold rotK
    by_cases h2 : i + 1 < j
    · rw [if_pos h2, if_pos (by omega)]
    · rw [if_neg h2, if_neg (by omega)]
theorem rotK_lt {q : Nat → Nat} (h : ∀ j, q j < 4) (k j : Nat) : rotK q k j < 4 := by unfold rotK; split <;> exact h _
theorem up_lt {q : Nat → Nat} (h : ∀ j, q j < 4) (k : Nat) {v : Nat} (hv : v < 4) (j : Nat) : va_up q k v j < 4 := by
  by_cases hj : j = k
  · subst hj; rw [va_up_self]; exact hv
  · rw [va_up_ne _ _ hj]; exact h j
def dropX (X : XS) : XS := xzS (xqS X (va_up (rotK (xq X) 4) 3 (xq X 0))) 3
theorem dropX_lt {X : XS} (h : ∀ j, xq X j < 4) (j : Nat) : xq (dropX X) j < 4 := up_lt (rotK_lt h 4) 3 (h 0) j
def pushA (X : XS) (t m : Nat) : XS := xzS (cpH X (2 + xq X t) 0 m m) (nI (t + 1))
def pushX (X : XS) (t m : Nat) : XS := if t < 4 then pushA X t m else pushA (dropX X) 3 m
def popX (X : XS) (t m : Nat) : XS := cpH (xzS X (nI (t - 1))) 0 (2 + xq X (t - 1)) m m
