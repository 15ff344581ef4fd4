/-! What the reference's acts answer, and leave -/
def recM (Y : YS) (state : Nat → Int32) (p : Nat) : YS := yzS (ypS Y (pushN (yp Y) state p)) (nI (pushZ p))
def sizeP (Y : YS) (how s o : Int32) : Int32 × YS := if isSBm (yn Y) s = false then (-1, Y) else if isSBm (yn Y) o = false then (-1, Y) else if inB how 0 3 = false then (-2, Y) else (nI (cnt (gbN (yn Y) how (ix s) (ix o)) 0 2048), ygS Y (gvN (gbN (yn Y) how (ix s) (ix o)) (yg Y) 2048))
def typeP (Y : YS) (ty : Nat) (ch : Int32) : Int32 × YS := if ty = 60 then (-3, Y) else (nI (ty + 1), yyS (yxS Y (upd (yx Y) ty ch)) (nI (ty + 1)))
def newP (Y : YS) (ns p : Nat) (c : Int32) : Int32 × YS := if inB c 0 9999 = false then (-2, Y) else if ns = 6 then (-3, Y) else (nI ns, ynS (recM Y (yn Y) p) (upd (layN (yn Y) ns 0 c) 0 (nI (ns + 1))))
def payP (Y : YS) (p : Nat) (s c : Int32) : Int32 × YS := if isSBm (yn Y) s = false then (-1, Y) else if inB c 1 9999 = false then (-2, Y) else if 9999 < ofN (yn Y) (ix s) 0 + c then (-3, Y) else (ofN (yn Y) (ix s) 0 + c, ynS (recM Y (yn Y) p) (layN (yn Y) (ix s) 0 (ofN (yn Y) (ix s) 0 + c)))
def sailP (Y : YS) (p : Nat) (s : Int32) : Int32 × YS := if isSBm (yn Y) s = false then (-1, Y) else if ofN (yn Y) (ix s) 1 = 1 then (-5, Y) else (boatsN (layN (yn Y) (ix s) 1 1) (ix s) 8, ynS (recM Y (yn Y) p) (layN (yn Y) (ix s) 1 1))
def dockR (now : Nat → Int32) (s : Nat) : (Nat → Int32) × Int32 := dkN s 9 (layN now s 1 0) 0
def dockP (Y : YS) (p : Nat) (s : Int32) : Int32 × YS := if isSBm (yn Y) s = false then (-1, Y) else (ofN (dockR (yn Y) (ix s)).1 (ix s) 2 - ofN (yn Y) (ix s) 2, yoS (ynS (recM Y (yn Y) p) (dockR (yn Y) (ix s)).1) (dockR (yn Y) (ix s)).2)
def tollP (Y : YS) (s : Int32) : Int32 × YS := if isSBm (yn Y) s = false then (-1, Y) else (ofN (dockR (yn Y) (ix s)).1 (ix s) 2 - ofN (yn Y) (ix s) 2, yoS (ytS Y (yn Y)) (dockR (yn Y) (ix s)).2)
def addP (Y : YS) (p : Nat) (s n : Int32) : Int32 × YS := if isSBm (yn Y) s = false then (-1, Y) else if inB n 0 2047 = false then (-2, Y) else if mb (yn Y) (ix s) (ix n) = true then (-5, Y) else
  if (goesN (yn Y) (ix s) (ix n) true).2 = false then (-3, ytS Y (yn Y)) else (kindN (goesN (yn Y) (ix s) (ix n) true).1 (ix s) (ix n / 256), recM (ynS (ytS Y (yn Y)) (goesN (yn Y) (ix s) (ix n) true).1) (yn Y) p)
def remP (Y : YS) (p : Nat) (s n : Int32) : Int32 × YS := if isSBm (yn Y) s = false then (-1, Y) else if inB n 0 2047 = false then (-2, Y) else if mb (yn Y) (ix s) (ix n) = false then (-5, Y) else
  if (goesN (yn Y) (ix s) (ix n) false).2 = false then (-3, ytS Y (yn Y)) else (nI (manyN (goesN (yn Y) (ix s) (ix n) false).1 (ix s) (ix n / 256)), recM (ynS (ytS Y (yn Y)) (goesN (yn Y) (ix s) (ix n) false).1) (yn Y) p)
def rngP (Y : YS) (p : Nat) (s lo hi : Int32) (c : Bool) : Int32 × YS := if isSBm (yn Y) s = false then (-1, Y) else if inB lo 0 2047 = false then (-2, Y) else if inB hi lo 2047 = false then (-2, Y) else
  endsM (ynS (ytS Y (yn Y)) (gaN (ix s) c (ix hi + 1 - ix lo) (ix lo) 0 (yn Y)).1) p (gaN (ix s) c (ix hi + 1 - ix lo) (ix lo) 0 (yn Y)).2
def layG (now g : Nat → Int32) (s : Nat) : Nat → Nat → Int32
  | 0 => now
  | k + 1 => layN (layG now g s k) s (11 + k) (g k)
def layK (now : Nat → Int32) (s : Nat) : Nat → Nat → Int32
  | 0 => now
  | b + 1 => layN (layK now s b) s (3 + b) (if manyN (layK now s b) s b = 0 then 0 else bestN (layK now s b) s b + 1)
def combP (Y : YS) (p : Nat) (how t s o : Int32) : Int32 × YS := if isSBm (yn Y) t = false then (-1, Y) else if isSBm (yn Y) s = false then (-1, Y) else if isSBm (yn Y) o = false then (-1, Y) else if inB how 0 3 = false then (-2, Y) else if ofN (yn Y) (ix t) 1 = 1 then (-4, Y) else
  (nI (cnt (gbN (yn Y) how (ix s) (ix o)) 0 2048), ynS (ygS (recM Y (yn Y) p) (gvN (gbN (yn Y) how (ix s) (ix o)) (yg Y) 2048)) (layK (layG (yn Y) (gvN (gbN (yn Y) how (ix s) (ix o)) (yg Y) 2048) (ix t) 64) (ix t) 8))
def undoP (Y : YS) (p : Nat) : Int32 × YS := if p = 0 then (-5, Y) else (nI (p - 1), ynS (yzS Y (nI (p - 1))) (fun j => yp Y ((p - 1) * 451 + j)))
def keepP (Y : YS) : Int32 × YS := (yn Y 0, yiS (ykS Y (yn Y)) 1)
def restP (Y : YS) (p : Nat) : Int32 × YS := if yi Y = 0 then (-5, Y) else (yk Y 0, ynS (recM Y (yn Y) p) (yk Y))
theorem layN_0 (now : Nat → Int32) (s w : Nat) (v : Int32) : layN now s w v 0 = now 0 := by unfold layN upd; rw [if_neg (by omega)]
theorem ofN_layN (now : Nat → Int32) (s w : Nat) (v : Int32) : ofN (layN now s w v) s w = v := by unfold ofN layN upd; rw [if_pos rfl]
theorem upd_s {f : Nat → Int32} {i : Nat} {v : Int32} : upd f i v i = v := if_pos rfl
-- texts
def signM (t : Nat → Int32) (ty k : Nat) : Int32 := if k < ty then t k else -5
def isD (c : Int32) : Bool := inB c 48 57
def rnL (sg : Nat → Int32) : Nat → Int32 → Nat → Int32 × Nat
  | 0, v, a => (v, a)
  | k + 1, v, a => if 0 < v ∧ isD (sg a) = true then rnL sg k (10 * v + sg a - 48) (a + 1) else (v, a)
def rn (sg : Nat → Int32) (a : Nat) : Int32 × Nat := if isD (sg a) = false then (-1, a) else rnL sg 3 (sg a - 48) (a + 1)
def to2 (sg : Nat → Int32) (r : Int32 × Nat) : Int32 × Nat := if sg r.2 = 45 then rn sg (r.2 + 1) else r
def putU (u : Nat → Int32) (m : Nat) (x y : Int32) : Nat → Int32 := upd (upd u (2 * m) x) (2 * m + 1) y
def foL (sg : Nat → Int32) (ty : Nat) : Nat → Nat → Nat → (Nat → Int32) → Int32 × Nat × Nat × (Nat → Int32)
  | 0, a, m, u => (-5, a, m, u)
  | k + 1, a, m, u => if (rn sg a).1 < 0 then (nI (rn sg a).2, (rn sg a).2, m, u) else
    if (to2 sg (rn sg a)).1 < 0 then (nI (to2 sg (rn sg a)).2, (to2 sg (rn sg a)).2, m, u) else
    if ty ≤ (to2 sg (rn sg a)).2 then (-5, (to2 sg (rn sg a)).2, m + 1, putU u m (rn sg a).1 (to2 sg (rn sg a)).1) else
    if sg (to2 sg (rn sg a)).2 = 44 then foL sg ty k ((to2 sg (rn sg a)).2 + 1) (m + 1) (putU u m (rn sg a).1 (to2 sg (rn sg a)).1) else (nI (to2 sg (rn sg a)).2, (to2 sg (rn sg a)).2, m + 1, putU u m (rn sg a).1 (to2 sg (rn sg a)).1)
theorem isD_lt {t : Nat → Int32} {ty k : Nat} (h : isD (signM t ty k) = true) : k < ty := by
  unfold signM at h
  by_cases hk : k < ty
  · exact hk
  · rw [if_neg hk] at h
    exact absurd h (by decide)
theorem sg_lt {t : Nat → Int32} {ty k : Nat} {c : Int32} (h : signM t ty k = c) (hc : ¬ c = -5) : k < ty := by
  unfold signM at h
  by_cases hk : k < ty
  · exact hk
  · rw [if_neg hk] at h
    exact absurd h.symm hc
theorem inL_of {n : Int32} {q : Nat} (h : inB n (nI q) 2047 = true) (hq : q < 2048) : ∃ k, q ≤ k ∧ k < 2048 ∧ n = nI k := by
  have h1 := of_decide_eq_true h
  obtain ⟨j, hj, rfl⟩ := nI_of (Int32.not_lt.mpr (Int32.le_trans (nI_pos' (by omega)) h1.1))
  have h2 := (nI_leI (b := 2047) hj (by decide)).mp h1.2
  exact ⟨j, (nI_leI (by omega) hj).mp h1.1, by omega, rfl⟩
theorem mem_a {Λ : Lk} {X : XS} {Y : YS} {g g' : Int32} (h : g = g') : CC Λ X (yaS Y g) = CC Λ X (yaS Y g') := h ▸ rfl
theorem rnL_le {t : Nat → Int32} {ty : Nat} : ∀ (k : Nat) (v : Int32) (a : Nat), a ≤ ty → a ≤ (rnL (signM t ty) k v a).2 ∧ (rnL (signM t ty) k v a).2 ≤ ty
  | 0, v, a, h => ⟨Nat.le_refl _, h⟩
  | k + 1, v, a, h => by
    simp only [rnL]
    by_cases hc : 0 < v ∧ isD (signM t ty a) = true
    · rw [if_pos hc]
      have h2 := isD_lt hc.2
      have := rnL_le (t := t) (ty := ty) k (10 * v + signM t ty a - 48) (a + 1) (by omega)
      omega
    · rw [if_neg hc]
      exact ⟨Nat.le_refl _, h⟩
theorem rn_le {t : Nat → Int32} {ty a : Nat} (h : a ≤ ty) : a ≤ (rn (signM t ty) a).2 ∧ (rn (signM t ty) a).2 ≤ ty := by
  unfold rn
  by_cases hc : isD (signM t ty a) = false
  · rw [if_pos hc]; exact ⟨Nat.le_refl _, h⟩
  · rw [if_neg hc]
    have h2 : isD (signM t ty a) = true := by revert hc; cases isD (signM t ty a) <;> simp
    have h3 := isD_lt h2
    have := rnL_le (t := t) (ty := ty) 3 (signM t ty a - 48) (a + 1) (by omega)
    exact ⟨by omega, this.2⟩
theorem rn_gt {t : Nat → Int32} {ty a : Nat} (h : 0 ≤ (rn (signM t ty) a).1) : a < (rn (signM t ty) a).2 := by
  unfold rn at h ⊢
  by_cases hc : isD (signM t ty a) = false
  · rw [if_pos hc] at h; exact absurd (show (0 : Int32) ≤ -1 from h) (by decide)
  · rw [if_neg hc]
    have h2 : isD (signM t ty a) = true := by revert hc; cases isD (signM t ty a) <;> simp
    have h3 := isD_lt h2
    have := rnL_le (t := t) (ty := ty) 3 (signM t ty a - 48) (a + 1) (by omega)
    omega
theorem v_iretF {Λ : Lk} {κ : Kx} {R0 : Room} {cc : ByteArray} {Ts : List Cond} {own : String} {nL0 : Nat} {pc : Nat} {lv : Lvs} {X : XS} {Y : YS} (hC : Ok Λ R0 cc Ts own nL0 κ) {F : Int32 × Nat × Nat × (Nat → Int32)} {x : Int32} {a m : Nat} {u : Nat → Int32} (hR : Rt Λ (some .int) (some (.int F.1)) (CC Λ X (yaS (ymS (yuS Y F.2.2.2) (nI F.2.2.1)) (nI F.2.1))) κ) (e : F = (x, a, m, u)) (hdg : decode cc pc = .ok (.ireturn, 1)) : V Λ κ (CC Λ X (yaS (ymS (yuS Y u) (nI m)) (nI a))) pc lv [.int x] := by
  subst e
  exact v_iret hC hR rfl rfl hdg
theorem foL_m {t : Nat → Int32} {ty : Nat} {u : Nat → Int32} (hty : ty ≤ 60) : (foL (signM t ty) ty 61 0 0 u).2.2.1 ≤ 30 := by
  have key : ∀ (k a m : Nat) (u : Nat → Int32), a ≤ ty → 2 * m ≤ a → (foL (signM t ty) ty k a m u).2.2.1 ≤ 30 := by
    intro k
    induction k with
    | zero => intro a m u h1 h2; show m ≤ 30; omega
    | succ k ih =>
      intro a m u h1 h2
      simp only [foL]
      have hr := rn_le (t := t) h1
      by_cases c1 : (rn (signM t ty) a).1 < 0
      · rw [if_pos c1]; show m ≤ 30; omega
      · rw [if_neg c1]
        have hgt := rn_gt (Int32.not_lt.mp c1)
        have ht : a < (to2 (signM t ty) (rn (signM t ty) a)).2 ∧ (to2 (signM t ty) (rn (signM t ty) a)).2 ≤ ty := by
          unfold to2
          by_cases c2 : signM t ty (rn (signM t ty) a).2 = 45
          · rw [if_pos c2]
            have := sg_lt c2 (by decide)
            have := rn_le (t := t) (ty := ty) (a := (rn (signM t ty) a).2 + 1) (by omega)
            omega
          · rw [if_neg c2]; omega
        by_cases c3 : (to2 (signM t ty) (rn (signM t ty) a)).1 < 0
        · rw [if_pos c3]; show m ≤ 30; omega
        · rw [if_neg c3]
          by_cases c4 : ty ≤ (to2 (signM t ty) (rn (signM t ty) a)).2
          · rw [if_pos c4]; show m + 1 ≤ 30; omega
          · rw [if_neg c4]
            by_cases c5 : signM t ty (to2 (signM t ty) (rn (signM t ty) a)).2 = 44
            · rw [if_pos c5]
              exact ih _ _ _ (by omega) (by omega)
            · rw [if_neg c5]; show m + 1 ≤ 30; omega
  exact key 61 0 0 u (by omega) (by omega)
def okB (u : Nat → Int32) (j : Nat) : Bool := inB (u (2 * j)) 0 2047 && inB (u (2 * j + 1)) (u (2 * j)) 2047
def okA (u : Nat → Int32) : Nat → Bool
  | 0 => true
  | j + 1 => okA u j && okB u j
theorem okA_at {u : Nat → Int32} {j : Nat} : ∀ {m : Nat}, okA u m = true → j < m → okB u j = true
  | 0, _, h => absurd h (Nat.not_lt_zero _)
  | m + 1, h, hj => by
    simp only [okA, Bool.and_eq_true] at h
    by_cases e : j = m
    · subst e; exact h.2
    · exact okA_at h.1 (by omega)
theorem okA_no {u : Nat → Int32} {j m : Nat} (hj : j < m) (h : okB u j = false) : okA u m = false := by
  cases e : okA u m with
  | false => rfl
  | true => rw [okA_at e hj] at h; exact absurd h (by decide)
def raL (s : Nat) (u : Nat → Int32) : Nat → Nat → Int32 → (Nat → Int32) → (Nat → Int32) × Int32
  | 0, _, many, now => (now, many)
  | k + 1, j, many, now => if many < 0 then (now, many) else
    raL s u k (j + 1) (if (gaN s true (ix (u (2 * j + 1)) + 1 - ix (u (2 * j))) (ix (u (2 * j))) 0 now).2 < 0 then -1 else many + (gaN s true (ix (u (2 * j + 1)) + 1 - ix (u (2 * j))) (ix (u (2 * j))) 0 now).2) (gaN s true (ix (u (2 * j + 1)) + 1 - ix (u (2 * j))) (ix (u (2 * j))) 0 now).1
theorem raL_neg {s : Nat} {u : Nat → Int32} {k j : Nat} {many : Int32} {now : Nat → Int32} (h : many < 0) : raL s u k j many now = (now, many) := by
  cases k with
  | zero => rfl
  | succ k => simp only [raL, if_pos h]
abbrev FoT : Type := Int32 × Nat × Nat × (Nat → Int32)
def rrY (Y : YS) (F : FoT) : YS := yaS (ymS (yuS Y F.2.2.2) (nI F.2.2.1)) (nI F.2.1)
def rrQ (Y : YS) (p : Nat) (s : Nat) (F : FoT) : Int32 × YS := if ¬ F.1 = -5 then (-100 - F.1, rrY Y F) else if okA F.2.2.2 F.2.2.1 = false then (-2, rrY Y F) else
  endsM (ynS (ytS (rrY Y F) (yn Y)) (raL s F.2.2.2 F.2.2.1 0 0 (yn Y)).1) p (raL s F.2.2.2 F.2.2.1 0 0 (yn Y)).2
def rrP (Y : YS) (p ty : Nat) (s : Int32) : Int32 × YS := if isSBm (yn Y) s = false then (-1, Y) else rrQ Y p (ix s) (foL (signM (yx Y) ty) ty 61 0 0 (yu Y))
