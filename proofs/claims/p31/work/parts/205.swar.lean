/-! How many bits of a long stand -/
theorem and_split (s h a M m : Nat) (ha : a < 2 ^ s) (hm : m < 2 ^ s) : (2 ^ s * h + a) &&& (2 ^ s * M + m) = 2 ^ s * (h &&& M) + (a &&& m) := by
  apply Nat.eq_of_testBit_eq
  intro j
  rw [Nat.testBit_and, Nat.testBit_two_pow_mul_add _ ha, Nat.testBit_two_pow_mul_add _ hm, Nat.testBit_two_pow_mul_add _ (Nat.and_lt_two_pow _ hm)]
  split
  · rw [Nat.testBit_and]
  · rw [Nat.testBit_and]
def sS1 (m n : Nat) : Nat := n - (n / 2 &&& m)
def sS2 (m n : Nat) : Nat := (n &&& m) + (n / 4 &&& m)
def sS3 (m n : Nat) : Nat := (n + n / 16) &&& m
def sMk (d e : Nat) : Nat → Nat
  | 0 => 0
  | k + 1 => d * sMk d e k + e
def pop4 (a : Nat) : Nat := cnt (fun i => a.testBit i) 0 4
theorem pop4_le (a : Nat) : pop4 a ≤ 4 := cnt_le _ _ _
theorem sS1_step (m h a : Nat) (ha : a < 16) : sS1 (16 * m + 5) (16 * h + a) = 16 * sS1 m h + (a - (a / 2 &&& 5)) := by
  have e : (16 * h + a) / 2 = 2 ^ 4 * (h / 2) + (8 * (h % 2) + a / 2) := by omega
  have s := and_split 4 (h / 2) (8 * (h % 2) + a / 2) m 5 (by omega) (by decide)
  have t : (8 * (h % 2) + a / 2) &&& 5 = a / 2 &&& 5 := (by decide +kernel : ∀ r, r < 2 → ∀ a, a < 16 → (8 * r + a / 2) &&& 5 = a / 2 &&& 5) _ (Nat.mod_lt _ (by decide)) _ ha
  unfold sS1
  rw [e, show 16 * m + 5 = 2 ^ 4 * m + 5 from rfl, s, t]
  have l1 : h / 2 &&& m ≤ h / 2 := Nat.and_le_left
  have l2 : a / 2 &&& 5 ≤ a / 2 := Nat.and_le_left
  generalize h / 2 &&& m = u at l1 ⊢
  generalize a / 2 &&& 5 = v at l2 ⊢
  omega
theorem sS2_step (m h a : Nat) (ha : a < 16) : sS2 (16 * m + 3) (16 * h + a) = 16 * sS2 m h + ((a &&& 3) + (a / 4 &&& 3)) := by
  have e : (16 * h + a) / 4 = 2 ^ 4 * (h / 4) + (4 * (h % 4) + a / 4) := by omega
  have s := and_split 4 (h / 4) (4 * (h % 4) + a / 4) m 3 (by omega) (by decide)
  have s2 := and_split 4 h a m 3 ha (by decide)
  have t : (4 * (h % 4) + a / 4) &&& 3 = a / 4 &&& 3 := (by decide +kernel : ∀ r, r < 4 → ∀ a, a < 16 → (4 * r + a / 4) &&& 3 = a / 4 &&& 3) _ (Nat.mod_lt _ (by decide)) _ ha
  unfold sS2
  rw [e, show 16 * m + 3 = 2 ^ 4 * m + 3 from rfl, s, t, show 16 * h + a = 2 ^ 4 * h + a from rfl, s2]
  generalize h / 4 &&& m = u
  generalize a / 4 &&& 3 = v
  generalize h &&& m = u2
  generalize a &&& 3 = v2
  omega
theorem s_nib : ∀ a, a < 16 → ((a - (a / 2 &&& 5)) &&& 3) + ((a - (a / 2 &&& 5)) / 4 &&& 3) = pop4 a := by decide +kernel
def sQ : Nat → Nat → Nat
  | 0, _ => 0
  | k + 1, N => 16 * sQ k (N / 16) + pop4 (N % 16)
theorem sQ_eq : ∀ k N, N < 16 ^ k → sS2 (sMk 16 3 k) (sS1 (sMk 16 5 k) N) = sQ k N
  | 0, N, h => by
    have : N = 0 := by simp at h; exact h
    subst this; rfl
  | k + 1, N, h => by
    have ih := sQ_eq k (N / 16) (by rw [Nat.pow_succ] at h; omega)
    have ha : N % 16 < 16 := Nat.mod_lt _ (by decide)
    have e1 := sS1_step (sMk 16 5 k) (N / 16) (N % 16) ha
    have e2 := sS2_step (sMk 16 3 k) (sS1 (sMk 16 5 k) (N / 16)) (N % 16 - (N % 16 / 2 &&& 5)) (by omega)
    rw [show 16 * (N / 16) + N % 16 = N by omega] at e1
    show sS2 (16 * sMk 16 3 k + 3) (sS1 (16 * sMk 16 5 k + 5) N) = 16 * sQ k (N / 16) + pop4 (N % 16)
    rw [e1, e2, ih, s_nib _ ha]
theorem sQ_le : ∀ k N, sQ k N ≤ 4 * sMk 16 1 k
  | 0, _ => Nat.le_refl _
  | k + 1, N => by
    have ih := sQ_le k (N / 16)
    have := pop4_le (N % 16)
    show 16 * sQ k (N / 16) + pop4 (N % 16) ≤ 4 * (16 * sMk 16 1 k + 1)
    omega
theorem sQ_mod (k N : Nat) : sQ k N % 16 ≤ 4 := by
  cases k with
  | zero =>
    show 0 % 16 ≤ 4
    decide
  | succ k =>
    have := pop4_le (N % 16)
    show (16 * sQ k (N / 16) + pop4 (N % 16)) % 16 ≤ 4
    omega
theorem sS3_step (m h p q : Nat) (hp : p ≤ 4) (hq : q ≤ 4) (hh : h % 16 ≤ 4) : sS3 (256 * m + 15) (16 * (16 * h + p) + q) = 256 * sS3 m h + (q + p) := by
  have e : (16 * (16 * h + p) + q) + (16 * (16 * h + p) + q) / 16 = 2 ^ 8 * (h + h / 16) + (16 * (p + h % 16) + (q + p)) := by omega
  have s := and_split 8 (h + h / 16) (16 * (p + h % 16) + (q + p)) m 15 (by omega) (by decide)
  have t : (16 * (p + h % 16) + (q + p)) &&& 15 = q + p := by
    rw [show (15 : Nat) = 2 ^ 4 - 1 from rfl, Nat.and_two_pow_sub_one_eq_mod]
    omega
  unfold sS3
  rw [e, show 256 * m + 15 = 2 ^ 8 * m + 15 from rfl, s, t]
def bN (N : Nat) : Nat := pop4 (N % 16) + pop4 (N / 16 % 16)
theorem bN_le (N : Nat) : bN N ≤ 8 := by
  have h1 := pop4_le (N % 16)
  have h2 := pop4_le (N / 16 % 16)
  unfold bN
  omega
def sB : Nat → Nat → Nat
  | 0, _ => 0
  | k + 1, N => 256 * sB k (N / 16 / 16) + bN N
def sT : Nat → Nat → Nat
  | 0, _ => 0
  | k + 1, N => bN N + sT k (N / 16 / 16)
theorem sB_eq : ∀ k N, sS3 (sMk 256 15 k) (sQ (2 * k) N) = sB k N
  | 0, N => by
    show (sQ (2 * 0) N + sQ (2 * 0) N / 16) &&& 0 = 0
    exact Nat.and_zero _
  | k + 1, N => by
    have ih := sB_eq k (N / 16 / 16)
    have := sS3_step (sMk 256 15 k) (sQ (2 * k) (N / 16 / 16)) (pop4 (N / 16 % 16)) (pop4 (N % 16)) (pop4_le _) (pop4_le _) (sQ_mod _ _)
    rw [ih] at this
    exact this
theorem cnt_tb (h a : Nat) (ha : a < 16) : ∀ n, cnt (fun i => (16 * h + a).testBit i) 0 (4 + n) = pop4 a + cnt (fun i => h.testBit i) 0 n
  | 0 => by
    have t : ∀ j, j < 4 → (16 * h + a).testBit j = a.testBit j := fun j hj => by
      rw [show 16 * h + a = 2 ^ 4 * h + a from rfl, Nat.testBit_two_pow_mul_add _ ha, if_pos hj]
    have t0 := t 0 (by decide)
    have t1 := t 1 (by decide)
    have t2 := t 2 (by decide)
    have t3 := t 3 (by decide)
    show cnt (fun i => (16 * h + a).testBit i) 0 4 = pop4 a + 0
    simp only [pop4, cnt, Nat.zero_add, t0, t1, t2, t3, Nat.add_zero]
  | n + 1 => by
    have ih := cnt_tb h a ha n
    have t : (16 * h + a).testBit (0 + (4 + n)) = h.testBit (0 + n) := by
      rw [show 16 * h + a = 2 ^ 4 * h + a from rfl, Nat.testBit_two_pow_mul_add _ ha, if_neg (by omega)]
      congr 1
      omega
    show cnt (fun i => (16 * h + a).testBit i) 0 (4 + n) + (if (16 * h + a).testBit (0 + (4 + n)) then 1 else 0) = pop4 a + (cnt (fun i => h.testBit i) 0 n + (if h.testBit (0 + n) then 1 else 0))
    rw [t, ih, Nat.add_assoc]
theorem cnt_sT : ∀ k N, cnt (fun i => N.testBit i) 0 (8 * k) = sT k N
  | 0, _ => rfl
  | k + 1, N => by
    have h1 := cnt_tb (N / 16) (N % 16) (Nat.mod_lt _ (by decide)) (4 + 8 * k)
    have h2 := cnt_tb (N / 16 / 16) (N / 16 % 16) (Nat.mod_lt _ (by decide)) (8 * k)
    rw [show 16 * (N / 16) + N % 16 = N by omega] at h1
    rw [show 16 * (N / 16 / 16) + N / 16 % 16 = N / 16 by omega] at h2
    rw [show 8 * (k + 1) = 4 + (4 + 8 * k) by omega, h1, h2, cnt_sT k]
    show _ = bN N + sT k (N / 16 / 16)
    unfold bN
    omega
def yA (y : Nat) : Nat := y + y / 256
def yB (y : Nat) : Nat := yA y + yA y / 65536
def yC (y : Nat) : Nat := yB y + yB y / 4294967296
theorem s_dA {u w l : Nat} (h : u = 256 * w + l) (hl : l < 256) : u / 256 = w := by omega
theorem s_dB {u0 u1 u2 l0 l1 : Nat} (h0 : u0 = 256 * u1 + l0) (h1 : u1 = 256 * u2 + l1) (g0 : l0 ≤ 16) (g1 : l1 ≤ 16) : u0 / 65536 = u2 := by omega
theorem s_dC {v0 v1 v2 v3 v4 l0 l1 l2 l3 : Nat} (h0 : v0 = 256 * v1 + l0) (h1 : v1 = 256 * v2 + l1) (h2 : v2 = 256 * v3 + l2) (h3 : v3 = 256 * v4 + l3) (g0 : l0 ≤ 32) (g1 : l1 ≤ 32) (g2 : l2 ≤ 32) (g3 : l3 ≤ 32) : v0 / 4294967296 = v4 := by
  have e1 : v0 / 256 = v1 := by omega
  have e2 : v1 / 256 = v2 := by omega
  have e3 : v2 / 256 = v3 := by omega
  have e4 : v3 / 256 = v4 := by omega
  rw [show (4294967296 : Nat) = 256 * 256 * 256 * 256 from rfl, ← Nat.div_div_eq_div_mul, ← Nat.div_div_eq_div_mul, ← Nat.div_div_eq_div_mul, e1, e2, e3, e4]
theorem s_m {v0 v1 v4 v5 l0 l4 : Nat} (h0 : v0 = 256 * v1 + l0) (h4 : v4 = 256 * v5 + l4) (g0 : l0 ≤ 32) (g4 : l4 ≤ 32) : (v0 + v4) % 128 = l0 + l4 := by omega
theorem s_fin8 (b0 b1 b2 b3 b4 b5 b6 b7 : Nat) (h0 : b0 ≤ 8) (h1 : b1 ≤ 8) (h2 : b2 ≤ 8) (h3 : b3 ≤ 8) (h4 : b4 ≤ 8) (h5 : b5 ≤ 8) (h6 : b6 ≤ 8) (h7 : b7 ≤ 8) (y : Nat) (hy : y = 256 * (256 * (256 * (256 * (256 * (256 * (256 * (256 * 0 + b7) + b6) + b5) + b4) + b3) + b2) + b1) + b0) : y ≤ 8 * 72340172838076673 ∧ yC y % 128 = b0 + (b1 + (b2 + (b3 + (b4 + (b5 + (b6 + (b7 + 0))))))) := by
  refine ⟨by omega, ?_⟩
  obtain ⟨t7, e7⟩ : ∃ t, t = 256 * 0 + b7 := ⟨_, rfl⟩
  obtain ⟨t6, e6⟩ : ∃ t, t = 256 * t7 + b6 := ⟨_, rfl⟩
  obtain ⟨t5, e5⟩ : ∃ t, t = 256 * t6 + b5 := ⟨_, rfl⟩
  obtain ⟨t4, e4⟩ : ∃ t, t = 256 * t5 + b4 := ⟨_, rfl⟩
  obtain ⟨t3, e3⟩ : ∃ t, t = 256 * t4 + b3 := ⟨_, rfl⟩
  obtain ⟨t2, e2⟩ : ∃ t, t = 256 * t3 + b2 := ⟨_, rfl⟩
  obtain ⟨t1, e1⟩ : ∃ t, t = 256 * t2 + b1 := ⟨_, rfl⟩
  have e0 : y = 256 * t1 + b0 := by rw [hy, e1, e2, e3, e4, e5, e6, e7]
  clear hy
  have a1 : yA y = y + t1 := by unfold yA; rw [s_dA e0 (by omega)]
  obtain ⟨u0, eu0⟩ : ∃ u, u = y + t1 := ⟨_, rfl⟩
  obtain ⟨u1, eu1⟩ : ∃ u, u = t1 + t2 := ⟨_, rfl⟩
  obtain ⟨u2, eu2⟩ : ∃ u, u = t2 + t3 := ⟨_, rfl⟩
  obtain ⟨u3, eu3⟩ : ∃ u, u = t3 + t4 := ⟨_, rfl⟩
  obtain ⟨u4, eu4⟩ : ∃ u, u = t4 + t5 := ⟨_, rfl⟩
  obtain ⟨u5, eu5⟩ : ∃ u, u = t5 + t6 := ⟨_, rfl⟩
  obtain ⟨u6, eu6⟩ : ∃ u, u = t6 + t7 := ⟨_, rfl⟩
  obtain ⟨u7, eu7⟩ : ∃ u, u = t7 + 0 := ⟨_, rfl⟩
  have p0 : u0 = 256 * u1 + (b0 + b1) := by omega
  have p1 : u1 = 256 * u2 + (b1 + b2) := by omega
  have p2 : u2 = 256 * u3 + (b2 + b3) := by omega
  have p3 : u3 = 256 * u4 + (b3 + b4) := by omega
  have p4 : u4 = 256 * u5 + (b4 + b5) := by omega
  have p5 : u5 = 256 * u6 + (b5 + b6) := by omega
  have p6 : u6 = 256 * u7 + (b6 + b7) := by omega
  have a2 : yB y = u0 + u2 := by unfold yB; rw [a1, ← eu0, s_dB p0 p1 (by omega) (by omega)]
  obtain ⟨v0, ev0⟩ : ∃ v, v = u0 + u2 := ⟨_, rfl⟩
  obtain ⟨v1, ev1⟩ : ∃ v, v = u1 + u3 := ⟨_, rfl⟩
  obtain ⟨v2, ev2⟩ : ∃ v, v = u2 + u4 := ⟨_, rfl⟩
  obtain ⟨v3, ev3⟩ : ∃ v, v = u3 + u5 := ⟨_, rfl⟩
  obtain ⟨v4, ev4⟩ : ∃ v, v = u4 + u6 := ⟨_, rfl⟩
  obtain ⟨v5, ev5⟩ : ∃ v, v = u5 + u7 := ⟨_, rfl⟩
  obtain ⟨v6, ev6⟩ : ∃ v, v = u6 + 0 := ⟨_, rfl⟩
  obtain ⟨v7, ev7⟩ : ∃ v, v = u7 + 0 := ⟨_, rfl⟩
  have r0 : v0 = 256 * v1 + (b0 + b1 + b2 + b3) := by
    rw [ev0, ev1, p0, p2]
    omega
  have r1 : v1 = 256 * v2 + (b1 + b2 + b3 + b4) := by
    rw [ev1, ev2, p1, p3]
    omega
  have r2 : v2 = 256 * v3 + (b2 + b3 + b4 + b5) := by
    rw [ev2, ev3, p2, p4]
    omega
  have r3 : v3 = 256 * v4 + (b3 + b4 + b5 + b6) := by
    rw [ev3, ev4, p3, p5]
    omega
  have r4 : v4 = 256 * v5 + (b4 + b5 + b6 + b7) := by
    rw [ev4, ev5, p4, p6]
    omega
  have a3 : yC y = v0 + v4 := by unfold yC; rw [a2, ← ev0, s_dC r0 r1 r2 r3 (by omega) (by omega) (by omega) (by omega)]
  rw [a3, s_m r0 r4 (by omega) (by omega)]
  omega
theorem s_fin (N : Nat) : sB 8 N ≤ 8 * 72340172838076673 ∧ yC (sB 8 N) % 128 = sT 8 N :=
  s_fin8 _ _ _ _ _ _ _ _ (bN_le _) (bN_le _) (bN_le _) (bN_le _) (bN_le _) (bN_le _) (bN_le _) (bN_le _) _ rfl
/-! the same over longs -/
def uL (x : Int64) : Nat := x.toBitVec.toNat
def shr64 (x : Int64) (k : Int32) : Int64 := (x.toUInt64 >>> (k.toInt64.toUInt64 &&& Int64.toUInt64 63)).toInt64
theorem uL_lt (x : Int64) : uL x < 2 ^ 64 := x.toBitVec.isLt
theorem uL_shr (x : Int64) {k : Nat} (hk : k < 64) : uL (shr64 x (nI k)) = uL x / 2 ^ k := by
  unfold shr64
  rw [wb_cu k hk]
  have hs : (UInt64.ofNat k).toNat = k := by
    show (BitVec.ofNat 64 k).toNat = k
    rw [BitVec.toNat_ofNat, Nat.mod_eq_of_lt (by omega)]
  show (x.toUInt64 >>> UInt64.ofNat k).toNat = _
  rw [UInt64.toNat_shiftRight, hs, Nat.mod_eq_of_lt hk, Nat.shiftRight_eq_div_pow]
  rfl
theorem uL_and (x y : Int64) : uL (x &&& y) = uL x &&& uL y := by unfold uL; rw [Int64.toBitVec_and, BitVec.toNat_and]
theorem uL_add {x y : Int64} (h : uL x + uL y < 2 ^ 64) : uL (x + y) = uL x + uL y := by
  unfold uL at *
  rw [Int64.toBitVec_add, BitVec.toNat_add_of_lt h]
theorem uL_sub {x y : Int64} (h : uL y ≤ uL x) : uL (x - y) = uL x - uL y := by
  unfold uL at *
  rw [Int64.toBitVec_sub, BitVec.toNat_sub_of_le (BitVec.le_def.mpr h)]
theorem uL_fin (x : Int64) : x.toInt32 &&& 127 = nI (uL x % 128) := by
  apply Int32.toBitVec_inj.mp
  apply BitVec.eq_of_toNat_eq
  rw [Int32.toBitVec_and, Int64.toBitVec_toInt32, BitVec.signExtend_eq_setWidth_of_le _ (by decide), BitVec.toNat_and, BitVec.toNat_setWidth]
  show uL x % 2 ^ 32 &&& 127 = (BitVec.ofNat 32 (uL x % 128)).toNat
  rw [show (127 : Nat) = 2 ^ 7 - 1 from rfl, Nat.and_two_pow_sub_one_eq_mod, BitVec.toNat_ofNat]
  omega
def pcA (x : Int64) : Int64 := x - (shr64 x 1 &&& 6148914691236517205)
def pcB (x : Int64) : Int64 := (x &&& 3689348814741910323) + (shr64 x 2 &&& 3689348814741910323)
def pcC (x : Int64) : Int64 := (x + shr64 x 4) &&& 1085102592571150095
def pcD (x : Int64) (k : Int32) : Int64 := x + shr64 x k
def pcI (x : Int64) : Int32 := (pcD (pcD (pcD (pcC (pcB (pcA x))) 8) 16) 32).toInt32 &&& 127
def pcN (x : Int64) : Nat := cnt (bl x) 0 64
theorem pcN_le (x : Int64) : pcN x ≤ 64 := cnt_le _ _ _
theorem pcN_sT (x : Int64) : pcN x = sT 8 (uL x) := cnt_sT 8 (uL x)
theorem swar (x : Int64) : pcI x = nI (pcN x) := by
  have hA : uL (pcA x) = sS1 (sMk 16 5 16) (uL x) := by
    have e : uL (shr64 x 1 &&& 6148914691236517205) = uL x / 2 &&& sMk 16 5 16 := by
      rw [uL_and, show (1 : Int32) = nI 1 from rfl, uL_shr x (by decide)]; rfl
    unfold pcA
    rw [uL_sub (by rw [e]; have : uL x / 2 &&& sMk 16 5 16 ≤ uL x / 2 := Nat.and_le_left; omega), e]
    rfl
  have l3 : sMk 16 3 16 = 3689348814741910323 := by decide +kernel
  have hB : uL (pcB (pcA x)) = sQ 16 (uL x) := by
    have e1 : uL (pcA x &&& 3689348814741910323) = uL (pcA x) &&& sMk 16 3 16 := by rw [uL_and]; rfl
    have e2 : uL (shr64 (pcA x) 2 &&& 3689348814741910323) = uL (pcA x) / 4 &&& sMk 16 3 16 := by
      rw [uL_and, show (2 : Int32) = nI 2 from rfl, uL_shr _ (by decide)]; rfl
    have b1 : uL (pcA x) &&& sMk 16 3 16 ≤ sMk 16 3 16 := Nat.and_le_right
    have b2 : uL (pcA x) / 4 &&& sMk 16 3 16 ≤ sMk 16 3 16 := Nat.and_le_right
    unfold pcB
    rw [uL_add (by rw [e1, e2]; omega), e1, e2, hA]
    exact sQ_eq 16 (uL x) (uL_lt x)
  have q16 : sQ 16 (uL x) ≤ 4 * 1229782938247303441 := sQ_le 16 (uL x)
  have hC : uL (pcC (pcB (pcA x))) = sB 8 (uL x) := by
    have e : uL (shr64 (pcB (pcA x)) 4) = sQ 16 (uL x) / 16 := by
      rw [show (4 : Int32) = nI 4 from rfl, uL_shr _ (by decide), hB]
    unfold pcC
    rw [uL_and, uL_add (by rw [e, hB]; omega), e, hB]
    exact sB_eq 8 (uL x)
  obtain ⟨f1, f2⟩ := s_fin (uL x)
  have h8 : uL (pcD (pcC (pcB (pcA x))) 8) = yA (sB 8 (uL x)) := by
    have e : uL (shr64 (pcC (pcB (pcA x))) 8) = sB 8 (uL x) / 256 := by
      rw [show (8 : Int32) = nI 8 from rfl, uL_shr _ (by decide), hC]
    unfold pcD
    rw [uL_add (by rw [e, hC]; omega), e, hC]
    rfl
  generalize sB 8 (uL x) = y at *
  have hy1 : yA y = y + y / 256 := rfl
  have h16 : uL (pcD (pcD (pcC (pcB (pcA x))) 8) 16) = yB y := by
    have e : uL (shr64 (pcD (pcC (pcB (pcA x))) 8) 16) = yA y / 65536 := by
      rw [show (16 : Int32) = nI 16 from rfl, uL_shr _ (by decide), h8]
    rw [pcD, uL_add (by rw [e, h8]; omega), e, h8]
    rfl
  have hy2 : yB y = yA y + yA y / 65536 := rfl
  have h32 : uL (pcD (pcD (pcD (pcC (pcB (pcA x))) 8) 16) 32) = yC y := by
    have e : uL (shr64 (pcD (pcD (pcC (pcB (pcA x))) 8) 16) 32) = yB y / 4294967296 := by
      rw [show (32 : Int32) = nI 32 from rfl, uL_shr _ (by decide), h16]
    rw [pcD, uL_add (by rw [e, h16]; omega), e, h16]
    rfl
  unfold pcI
  rw [uL_fin, h32, f2, pcN_sT]
