/-! Rows that the law wants besides: longs, constants, the script as an argument -/
section LROWS0
variable {Λ : Lk} {κ : Kx} {R0 : Room} {cc : ByteArray} {Ts : List Cond} {own : String} {nL0 : Nat} {C : Mem} {pc : Nat} {lv : Lvs} {st : List Value}
theorem v_lmul (hC : Ok Λ R0 cc Ts own nL0 κ) {x y : Int64} (hdg : decode cc pc = .ok (.lmul, 1)) (k : V Λ κ C (pc + 1) lv (.long (x * y) :: st)) : V Λ κ C pc lv (.long y :: .long x :: st) := by
  obtain ⟨p, e, R, s, m, args, below, meth, c, nL, kc, ks', Q⟩ := κ
  exact fun H locs ls hP hD hS hl => lv_lmul hC.1.1 hC.1.2.1 hdg (k H locs ls hP hD hS hl)
theorem v_i2l (hC : Ok Λ R0 cc Ts own nL0 κ) {x : Int32} (hdg : decode cc pc = .ok (.i2l, 1)) (k : V Λ κ C (pc + 1) lv (.long x.toInt64 :: st)) : V Λ κ C pc lv (.int x :: st) := by
  obtain ⟨p, e, R, s, m, args, below, meth, c, nL, kc, ks', Q⟩ := κ
  exact fun H locs ls hP hD hS hl => lv_i2l hC.1.1 hC.1.2.1 hdg rfl (k H locs ls hP hD hS hl)
theorem v_ldc (hC : Ok Λ R0 cc Ts own nL0 κ) {index : Nat} {v : Int32} (hdg : decode cc pc = .ok (.ldc index, 2)) (hw : Jvm.Cond.constant own index v ∈ Ts) (k : V Λ κ C (pc + 2) lv (.int v :: st)) : V Λ κ C pc lv st := by
  obtain ⟨p, e, R, s, m, args, below, meth, c, nL, kc, ks', Q⟩ := κ
  exact fun H locs ls hP hD hS hl => lv_ldc hC.1.1 hC.1.2.1 hC.1.2.2.2.1 (hC.1.2.2.2.2 _ hw) hdg (k H locs ls hP hD hS hl)
end LROWS0
/-- the script, as a state of the law finds it -/
def Scr (Λ : Lk) (b L : Nat) (xs : Nat → Int32) : Kx → Prop
  | (_, _, _, s, _, _, _, _, _, _, _, _, _) => va_X b L xs s s.heap ∧ b < s.heap.size ∧ ¬ Λ.2.2.2.2 b
section LROWS
variable {Λ : Lk} {κ : Kx} {R0 : Room} {cc : ByteArray} {Ts : List Cond} {own : String} {nL0 : Nat} {C : Mem} {pc : Nat} {lv : Lvs} {st : List Value} {b L : Nat} {xs : Nat → Int32}
theorem v_sld (hC : Ok Λ R0 cc Ts own nL0 κ) (hS : Scr Λ b L xs κ) {x : Int32} (j : Nat) (hx : x = nI j) (hj : j < L) (hL : L < 2 ^ 31) (hdg : decode cc pc = .ok (.iaload, 1)) (k : V Λ κ C (pc + 1) lv (.int (xs j) :: st)) : V Λ κ C pc lv (.int x :: .ref b :: st) := by
  subst hx
  obtain ⟨p, e, R, s, m, args, below, meth, c, nL, kc, ks', Q⟩ := κ
  obtain ⟨h1, h2, h3⟩ := hS
  intro H locs ls hP hD hSS hl
  refine va_sld hC.1.1 hC.1.2.1 h1 h2 h3 hSS (vp_in_nI hj hL) hdg ?_
  rw [nI_clamp (Nat.lt_trans hj hL)]
  exact k H locs ls hP hD hSS hl
theorem v_slen (hC : Ok Λ R0 cc Ts own nL0 κ) (hS : Scr Λ b L xs κ) (hdg : decode cc pc = .ok (.arraylength, 1)) (k : V Λ κ C (pc + 1) lv (.int (nI L) :: st)) : V Λ κ C pc lv (.ref b :: st) := by
  obtain ⟨p, e, R, s, m, args, below, meth, c, nL, kc, ks', Q⟩ := κ
  obtain ⟨h1, h2, h3⟩ := hS
  intro H locs ls hP hD hSS hl
  exact va_slen hC.1.1 hC.1.2.1 h1 h2 h3 hSS hdg (k H locs ls hP hD hSS hl)
end LROWS
/-- a state holds the memory, and the script beside it -/
def HldS (Λ : Lk) (b L : Nat) (xs : Nat → Int32) (C : Mem) (U : State) : Prop := Hld Λ C U ∧ va_X b L xs U U.heap ∧ b < U.heap.size ∧ ¬ Λ.2.2.2.2 b
theorem HldS.blind {Λ : Lk} {b L : Nat} {xs : Nat → Int32} {C : Mem} {av : List Value} : FrameBlind (va_Pc av (HldS Λ b L xs C)) := fun a U g mk q => by
  obtain ⟨h0, ⟨h1, h2, h3, h4⟩, h5, h6, h7⟩ := q
  exact ⟨h0, ⟨h1, h2, va_K.moved (u := U) (U := U.calling g mk a) (Vm.Alike.refl U.vm) h3, nst_same (u := U) (U := U.calling g mk a) rfl h4⟩, va_X.moved (u := U) (U := U.calling g mk a) (Vm.Alike.refl U.vm) h5, h6, h7⟩
/-- a contract of a method that is given the script -/
def ConS (Λ : Lk) (b L : Nat) (xs : Nat → Int32) (y : MethodName) (ws : List Cond) (rm : Room) (av : List Value) (C : Mem) (rv : Option Value) (C2 : Mem) : Prop := Met Λ.1 y ws rm (va_Pc av (HldS Λ b L xs C)) (QQ Λ rv C2) 0 0 Λ.2.2.2.2
theorem conS_start {Λ : Lk} {b L : Nat} {xs : Nat → Int32} {y : MethodName} {ws ws' : List Cond} {rm : Room} {cc : ByteArray} {maxL : Nat} {ret : Option FieldType} {av : List Value} {C C2 : Mem} {rv : Option Value} (hy : plainName y.cls = true) (hw : ws = Cond.code y cc maxL ret :: ws') (hn : (lg_sl av).length ≤ maxL)
    (body : ∀ κ : Kx, Ok Λ rm cc ws y.cls maxL κ → Rt Λ ret rv C2 κ → Scr Λ b L xs κ → V Λ κ C 0 (lv_args 0 av) []) : ConS Λ b L xs y ws rm av C rv C2 := by
  refine Met.ofW (cc := cc) (maxL := maxL) (ret := ret) hy hw ?_
  intro p e s m args below meth c s₁ B hml hv
  obtain ⟨rfl, ⟨hP, hD, hK, hN⟩, hX⟩ := hv
  have hts := atoms_spec (ws := ws) B.pre
  have h := body (p, e, (headSpec ws rm).room, s, m, av.toArray, below, meth, c, maxL, 0, 0, MQ below (QQ Λ rv C2) av.toArray s 0 0 Λ.2.2.2.2) ⟨⟨B.exec, B.bytes, hml, findClass_of_methodNamed B.named, hts⟩, rfl, rfl, hK, hN, Nat.zero_le _, Nat.zero_le _⟩ ⟨rfl, B.returns, B.notSynchronized⟩ hX
  rw [lg_entry_eq]
  exact h s.heap [] _ hP hD va_S.rf (lv_entry av hn)
section LROWS2
variable {Λ : Lk} {κ : Kx} {R0 : Room} {cc : ByteArray} {Ts : List Cond} {own : String} {nL0 : Nat} {C C2 : Mem} {pc : Nat} {lv : Lvs} {st rest : List Value} {b L : Nat} {xs : Nat → Int32}
theorem v_callSc (hC : Ok Λ R0 cc Ts own nL0 κ) (hX : Scr Λ b L xs κ) {y : MethodName} {ws ws' : List Cond} {rm : Room} {As : List Value} {v : Value} {bytes : ByteArray} {maxL index : Nat} {ret : Option FieldType} (n : Nat) (hM : ConS Λ b L xs y ws rm As C (some v) C2) (hG : GoodIn Ts (va_wsS own index y ws)) (hw : ws = Cond.code y bytes maxL ret :: ws') (hrc : rm.cells = 0) (hrs : rm.slots = 0)
    (hd : y.cls ≠ "java/lang/invoke/MethodHandle" ∧ y.cls ≠ "java/lang/invoke/VarHandle" ∧ (parseMethodDescriptor y.desc).map (fun d => d.parameters.length) = some n) (hR : rm.frames + 1 ≤ R0.frames ∧ 8 + (maxL + 11) + rm.locals ≤ R0.locals) (hn : As.length = n) (hs : st = As.reverse ++ rest) (hro : (rest.map fun v => v.category).sum ≤ 8) (hdg : decode cc pc = .ok (.invokestatic index, 3))
    (k : V Λ κ C2 (pc + 3) lv (v :: rest)) : V Λ κ C pc lv st := by
  subst hs
  obtain ⟨p, e, R, s, m, args, below, meth, c, nL, kc, ks', Q⟩ := κ
  obtain ⟨S, rfl, rfl, hK, hN, hkc, hks⟩ := hC
  obtain ⟨x1, x2, x3⟩ := hX
  intro H locs ls hP hD hS hl
  refine v_back hS hl (va_runS (As := As) (rest := rest) S hM (va_cwS n S.2.2.2.2 hG hw hrc hrs hd hR) ⟨HldS.blind, fun U hU hW => ⟨rfl, ⟨by rw [hU]; exact hP, hD, va_K.moved hW.alike hK, nst_warm hW hN⟩, by rw [hU]; exact (x1.kept (hS.2.1 b x2 x3)).moved hW.alike, by rw [hU]; exact Nat.lt_of_lt_of_le x2 hS.1, x3⟩⟩ rfl hn hl.1 rfl (lv_room hro) hdg ⟨hkc, hks⟩) k
end LROWS2
/-! up(..), as a number -/
def upN (x : Int32) (n : Nat) : Nat := x.toBitVec.toNat % 2 ^ 31 % n
theorem upN_lt (x : Int32) {n : Nat} (h : 0 < n) : upN x n < n := Nat.mod_lt _ h
theorem up_E (x : Int32) {n : Nat} (h0 : 0 < n) (h : n < 2 ^ 31) : (x &&& 2147483647) - (x &&& 2147483647) / nI n * nI n = nI (upN x n) := by
  rw [pk_and x (m := 2147483647) 31 (by decide), pk_rem (Nat.mod_lt _ (by decide)) h0 h]
  rfl
def cellF (L : Nat) (xs : Nat → Int32) (k : Nat) : Int32 := if k < L then xs k else 763049417 * (nI k + 3)
/-! the best kind, as the law finds it -/
theorem bsL_1 {m r : Nat} (h : m ≤ 16) (h2 : r ≤ 8) (h3 : 2 * m ≤ 3 * r) : bsT m r = 0 := by
  unfold bsT
  rw [if_pos h, if_neg (by omega)]
theorem bsL_2 {m r : Nat} (h : m ≤ 16) (h2 : ¬ r ≤ 8) : bsT m r = 0 := by
  unfold bsT
  rw [if_pos h, if_neg (by omega)]
theorem bsL_3 {m r : Nat} (h2 : r ≤ 8) (h3 : ¬ m ≤ 16 ∨ ¬ 2 * m ≤ 3 * r) : bsT m r = 2 := by
  unfold bsT
  by_cases h : m ≤ 16
  · rw [if_pos h, if_pos (by omega)]
  · rw [if_neg h, if_pos h2]
theorem bsL_4 {m r : Nat} (h : ¬ m ≤ 16) (h2 : ¬ r ≤ 8) : bsT m r = 1 := by
  unfold bsT
  rw [if_neg h, if_neg h2]
