/-! The base: one memory for the class and the reference together, by roles; a judgement V that hides heap, frame and locals' array -/
abbrev Lk : Type := Launch × (Nat → Nat) × va_G × (Nat → ClassId) × (Nat → Prop)
abbrev Kx : Type := Program × Env × Room × State × MethodId × Array Value × List Frame × Method × Code × Nat × Nat × Nat × (State → Prop)
abbrev Mem : Type := Nat → va_E
abbrev Lvs : Type := List (Nat × Value)
/-- the reference to the cell of a role -/
abbrev rf (Λ : Lk) (r : Nat) : Value := .ref (Λ.2.1 r)
def nR : Nat := 205
def wl (ad : Nat → Nat) (C : Mem) : va_W := (List.range nR).map fun r => (ad r, C r)
theorem wl_get {ad : Nat → Nat} {C : Mem} {r : Nat} (h : r < nR) : (wl ad C)[r]? = some (ad r, C r) := by
  simp [wl, List.getElem?_range h]
theorem wl_set {ad : Nat → Nat} {C : Mem} {r : Nat} {e : va_E} (h : r < nR) : (wl ad C).set r (ad r, e) = wl ad (va_up C r e) := by
  have hl : r < (wl ad C).length := by simp [wl]; exact h
  apply List.ext_getElem?
  intro j
  by_cases hj : j = r
  · subst hj
    rw [List.getElem?_set_self hl, wl_get h, va_up_self]
  · rw [List.getElem?_set_ne (Ne.symm hj)]
    by_cases hn : j < nR
    · rw [wl_get hn, wl_get hn, va_up_ne _ _ hj]
    · rw [List.getElem?_eq_none (by simp [wl]; omega), List.getElem?_eq_none (by simp [wl]; omega)]
/-- the array classes: longs, ints, chars, rows of fleets, rows of harbours -/
def tysOf (cy : Nat → ClassId) : List (ClassId × FieldType) := [(cy 0, .long), (cy 1, .int), (cy 2, .char), (cy 3, .object "BoatSets$Fleet"), (cy 4, .object "BoatSets$Harbour")]
/-- the links among nest mates -/
def nst : List Cond := [.methodLinkNest RX0 54 yX4_isNumber "BoatSets", .methodLinkNest RX0 97 yX4_join "BoatSets", .methodLinkNest RX3 33 yX4_isNumber "BoatSets"]
theorem nst_warm {s U : State} (hW : s.WarmedH U.vm) (h : ∀ w ∈ nst, va_Nw w s) : ∀ w ∈ nst, va_Nw w U := by
  intro w hw
  have h1 := h w hw
  simp only [nst, List.mem_cons, List.not_mem_nil, or_false] at hw
  rcases hw with rfl | rfl | rfl <;> exact va_Nw.warmM hW h1
theorem nst_same {u U : State} (hv : u.vm = U.vm) (h : ∀ w ∈ nst, va_Nw w u) : ∀ w ∈ nst, va_Nw w U := by
  intro w hw
  have h1 := h w hw
  simp only [nst, List.mem_cons, List.not_mem_nil, or_false] at hw
  rcases hw with rfl | rfl | rfl <;> exact va_Nw.same rfl hv h1
/-- a state holds the memory C -/
def Hld (Λ : Lk) (C : Mem) (U : State) : Prop := va_P Λ.2.2.1 vwCl (wl Λ.2.1 C) U.heap ∧ va_D Λ.2.2.2.2 (wl Λ.2.1 C) ∧ va_K Λ.2.2.1 vwCl (tysOf Λ.2.2.2.1) U ∧ ∀ w ∈ nst, va_Nw w U
theorem Hld.blind {Λ : Lk} {C : Mem} {av : List Value} : FrameBlind (va_Pc av (Hld Λ C)) := fun a U g mk q => by
  obtain ⟨h0, h1, h2, h3, h4⟩ := q
  exact ⟨h0, h1, h2, va_K.moved (u := U) (U := U.calling g mk a) (Vm.Alike.refl U.vm) h3, nst_same (u := U) (U := U.calling g mk a) rfl h4⟩
/-- an end: the answer rv, the memory C -/
def QQ (Λ : Lk) (rv : Option Value) (C : Mem) : Array Value → State → Outcome → State → Prop := fun _ st oc t => (oc = .returned rv ∧ va_P Λ.2.2.1 vwCl (wl Λ.2.1 C) t.heap ∧ va_D Λ.2.2.2.2 (wl Λ.2.1 C)) ∧ va_F Λ.2.2.2.2 st t
/-- a contract: with the arguments av over the memory C the method answers rv and leaves C2 -/
def Con (Λ : Lk) (y : MethodName) (ws : List Cond) (rm : Room) (av : List Value) (C : Mem) (rv : Option Value) (C2 : Mem) : Prop := Met Λ.1 y ws rm (va_Pc av (Hld Λ C)) (QQ Λ rv C2) 0 0 Λ.2.2.2.2
/-- the judgement: from the memory C, at pc, with these locals and this stack, the goal is reached -/
def V (Λ : Lk) : Kx → Mem → Nat → Lvs → List Value → Prop
  | (p, e, R, s, m, args, below, meth, c, nL, kc, ks, Q), C, pc, lv, st => ∀ (H : Heap) (locs : List Loc) (ls : Array Slot), va_P Λ.2.2.1 vwCl (wl Λ.2.1 C) H → va_D Λ.2.2.2.2 (wl Λ.2.1 C) → va_S Λ.2.2.2.2 s.heap H locs → lv_has ls nL lv → W p Λ.1 e R s m args below meth c H locs kc ks Q (F0 m pc ls st)
/-- what every row needs: the machine, the code, the room, the words, the tables -/
def Ok (Λ : Lk) (R0 : Room) (cc : ByteArray) (Ts : List Cond) (own : String) (nL0 : Nat) : Kx → Prop
  | (p, _, R, s, m, args, _, _, c, nL, kc, ks, _) => CallFix p m c cc nL s args Ts own ∧ R = R0 ∧ nL = nL0 ∧ va_K Λ.2.2.1 vwCl (tysOf Λ.2.2.2.1) s ∧ (∀ w ∈ nst, va_Nw w s) ∧ kc ≤ R.cells ∧ ks ≤ R.slots
/-- what an end needs -/
def Rt (Λ : Lk) (ret : Option FieldType) (rv : Option Value) (C : Mem) : Kx → Prop
  | (_, _, _, s, _, args, below, meth, _, _, kc, ks, Q) => Q = MQ below (QQ Λ rv C) args s kc ks Λ.2.2.2.2 ∧ meth.sig.returnType = ret ∧ meth.locks = false
theorem con_start {Λ : Lk} {y : MethodName} {ws ws' : List Cond} {rm : Room} {cc : ByteArray} {maxL : Nat} {ret : Option FieldType} {av : List Value} {C C2 : Mem} {rv : Option Value} (hy : plainName y.cls = true) (hw : ws = Cond.code y cc maxL ret :: ws') (hn : (lg_sl av).length ≤ maxL)
    (body : ∀ κ : Kx, Ok Λ rm cc ws y.cls maxL κ → Rt Λ ret rv C2 κ → V Λ κ C 0 (lv_args 0 av) []) : Con Λ y ws rm av C rv C2 := by
  refine Met.ofW (cc := cc) (maxL := maxL) (ret := ret) hy hw ?_
  intro p e s m args below meth c s₁ B hml hv
  obtain ⟨rfl, hP, hD, hK, hN⟩ := hv
  have hts := atoms_spec (ws := ws) B.pre
  have h := body (p, e, (headSpec ws rm).room, s, m, av.toArray, below, meth, c, maxL, 0, 0, MQ below (QQ Λ rv C2) av.toArray s 0 0 Λ.2.2.2.2) ⟨⟨B.exec, B.bytes, hml, findClass_of_methodNamed B.named, hts⟩, rfl, rfl, hK, hN, Nat.zero_le _, Nat.zero_le _⟩ ⟨rfl, B.returns, B.notSynchronized⟩
  rw [lg_entry_eq]
  exact h s.heap [] _ hP hD va_S.rf (lv_entry av hn)
section ROWS
variable {Λ : Lk} {κ : Kx} {R0 : Room} {cc : ByteArray} {Ts : List Cond} {own : String} {nL0 : Nat} {C : Mem} {pc : Nat} {lv : Lvs} {st : List Value}
theorem v_sub (ks : List Nat) {lv' : Lvs} (h : lv_pick lv ks = lv') (k : V Λ κ C pc lv' st) : V Λ κ C pc lv st := by
  obtain ⟨p, e, R, s, m, args, below, meth, c, nL, kc, ks', Q⟩ := κ
  exact fun H locs ls hP hD hS hl => k H locs ls hP hD hS (lv_sub hl ks h)
theorem v_args {lv' : Lvs} (h : lv = lv') (k : V Λ κ C pc lv' st) : V Λ κ C pc lv st := h ▸ k
theorem v_st {st' : List Value} (h : st = st') (k : V Λ κ C pc lv st') : V Λ κ C pc lv st := h ▸ k
theorem v_mem {C' : Mem} (h : C = C') (k : V Λ κ C' pc lv st) : V Λ κ C pc lv st := h ▸ k
theorem v_top {v v' : Value} (h : v = v') (k : V Λ κ C pc lv (v' :: st)) : V Λ κ C pc lv (v :: st) := h ▸ k
theorem v_topi {x y : Int32} (h : x = y) (k : V Λ κ C pc lv (.int y :: st)) : V Λ κ C pc lv (.int x :: st) := h ▸ k
theorem v_topl {x y : Int64} (h : x = y) (k : V Λ κ C pc lv (.long y :: st)) : V Λ κ C pc lv (.long x :: st) := h ▸ k
theorem v_iconst (hC : Ok Λ R0 cc Ts own nL0 κ) {n : Int} {v : Int32} (hdg : decode cc pc = .ok (.iconst n, 1)) (hv : Int32.ofInt n = v) (k : V Λ κ C (pc + 1) lv (.int v :: st)) : V Λ κ C pc lv st := by
  obtain ⟨p, e, R, s, m, args, below, meth, c, nL, kc, ks', Q⟩ := κ
  exact fun H locs ls hP hD hS hl => lv_iconst hC.1.1 hC.1.2.1 hdg hv (k H locs ls hP hD hS hl)
theorem v_bipush (hC : Ok Λ R0 cc Ts own nL0 κ) {n : Int} {v : Int32} (hdg : decode cc pc = .ok (.bipush n, 2)) (hv : (Int8.ofInt n).toInt32 = v) (k : V Λ κ C (pc + 2) lv (.int v :: st)) : V Λ κ C pc lv st := by
  obtain ⟨p, e, R, s, m, args, below, meth, c, nL, kc, ks', Q⟩ := κ
  exact fun H locs ls hP hD hS hl => lv_bipush hC.1.1 hC.1.2.1 hdg hv (k H locs ls hP hD hS hl)
theorem v_sipush (hC : Ok Λ R0 cc Ts own nL0 κ) {n : Int} {v : Int32} (hdg : decode cc pc = .ok (.sipush n, 3)) (hv : (Int16.ofInt n).toInt32 = v) (k : V Λ κ C (pc + 3) lv (.int v :: st)) : V Λ κ C pc lv st := by
  obtain ⟨p, e, R, s, m, args, below, meth, c, nL, kc, ks', Q⟩ := κ
  exact fun H locs ls hP hD hS hl => lv_sipush hC.1.1 hC.1.2.1 hdg hv (k H locs ls hP hD hS hl)
theorem v_lconst (hC : Ok Λ R0 cc Ts own nL0 κ) {n : Fin 2} {v : Int64} (hdg : decode cc pc = .ok (.lconst n, 1)) (hv : Int64.ofNat (n : Nat) = v) (k : V Λ κ C (pc + 1) lv (.long v :: st)) : V Λ κ C pc lv st := by
  obtain ⟨p, e, R, s, m, args, below, meth, c, nL, kc, ks', Q⟩ := κ
  exact fun H locs ls hP hD hS hl => lv_lconst hC.1.1 hC.1.2.1 hdg hv (k H locs ls hP hD hS hl)
theorem v_ldc2 (hC : Ok Λ R0 cc Ts own nL0 κ) {index : Nat} {v : Int64} (hdg : decode cc pc = .ok (.ldc2_w index, 3)) (hw : Jvm.Cond.constantLong own index v ∈ Ts) (k : V Λ κ C (pc + 3) lv (.long v :: st)) : V Λ κ C pc lv st := by
  obtain ⟨p, e, R, s, m, args, below, meth, c, nL, kc, ks', Q⟩ := κ
  exact fun H locs ls hP hD hS hl => lv_ldc2 hC.1.1 hC.1.2.1 hC.1.2.2.2.1 (hC.1.2.2.2.2 _ hw) hdg (k H locs ls hP hD hS hl)
theorem v_iload_n (hC : Ok Λ R0 cc Ts own nL0 κ) {i : Fin 4} {x : Int32} (hdg : decode cc pc = .ok (.iload_n i, 1)) (j : Nat) (hj : lv[j]? = some ((i : Nat), .int x)) (k : V Λ κ C (pc + 1) lv (.int x :: st)) : V Λ κ C pc lv st := by
  obtain ⟨p, e, R, s, m, args, below, meth, c, nL, kc, ks', Q⟩ := κ
  exact fun H locs ls hP hD hS hl => lv_iload_n hC.1.1 hC.1.2.1 hdg rfl (lv_at hl j hj) (k H locs ls hP hD hS hl)
theorem v_iload (hC : Ok Λ R0 cc Ts own nL0 κ) {i : Nat} {x : Int32} (hdg : decode cc pc = .ok (.iload i, 2)) (j : Nat) (hj : lv[j]? = some (i, .int x)) (k : V Λ κ C (pc + 2) lv (.int x :: st)) : V Λ κ C pc lv st := by
  obtain ⟨p, e, R, s, m, args, below, meth, c, nL, kc, ks', Q⟩ := κ
  exact fun H locs ls hP hD hS hl => lv_iload hC.1.1 hC.1.2.1 hdg (lv_at hl j hj) (k H locs ls hP hD hS hl)
theorem v_lload_n (hC : Ok Λ R0 cc Ts own nL0 κ) {i : Fin 4} {x : Int64} (hdg : decode cc pc = .ok (.lload_n i, 1)) (j : Nat) (hj : lv[j]? = some ((i : Nat), .long x)) (k : V Λ κ C (pc + 1) lv (.long x :: st)) : V Λ κ C pc lv st := by
  obtain ⟨p, e, R, s, m, args, below, meth, c, nL, kc, ks', Q⟩ := κ
  exact fun H locs ls hP hD hS hl => lv_lload_n hC.1.1 hC.1.2.1 hdg rfl (lv_at hl j hj) (k H locs ls hP hD hS hl)
theorem v_lload (hC : Ok Λ R0 cc Ts own nL0 κ) {i : Nat} {x : Int64} (hdg : decode cc pc = .ok (.lload i, 2)) (j : Nat) (hj : lv[j]? = some (i, .long x)) (k : V Λ κ C (pc + 2) lv (.long x :: st)) : V Λ κ C pc lv st := by
  obtain ⟨p, e, R, s, m, args, below, meth, c, nL, kc, ks', Q⟩ := κ
  exact fun H locs ls hP hD hS hl => lv_lload hC.1.1 hC.1.2.1 hdg (lv_at hl j hj) (k H locs ls hP hD hS hl)
theorem v_aload_n (hC : Ok Λ R0 cc Ts own nL0 κ) {i : Fin 4} {x : Nat} (hdg : decode cc pc = .ok (.aload_n i, 1)) (j : Nat) (hj : lv[j]? = some ((i : Nat), .ref x)) (k : V Λ κ C (pc + 1) lv (.ref x :: st)) : V Λ κ C pc lv st := by
  obtain ⟨p, e, R, s, m, args, below, meth, c, nL, kc, ks', Q⟩ := κ
  exact fun H locs ls hP hD hS hl => lv_aload_n hC.1.1 hC.1.2.1 hdg rfl (lv_at hl j hj) (k H locs ls hP hD hS hl)
theorem v_aload (hC : Ok Λ R0 cc Ts own nL0 κ) {i : Nat} {x : Nat} (hdg : decode cc pc = .ok (.aload i, 2)) (j : Nat) (hj : lv[j]? = some (i, .ref x)) (k : V Λ κ C (pc + 2) lv (.ref x :: st)) : V Λ κ C pc lv st := by
  obtain ⟨p, e, R, s, m, args, below, meth, c, nL, kc, ks', Q⟩ := κ
  exact fun H locs ls hP hD hS hl => lv_aload hC.1.1 hC.1.2.1 hdg (lv_at hl j hj) (k H locs ls hP hD hS hl)
theorem v_istore_n (hC : Ok Λ R0 cc Ts own nL0 κ) {i : Fin 4} {x : Int32} {lv' : Lvs} (hdg : decode cc pc = .ok (.istore_n i, 1)) (hn : (i : Nat) < nL0) (hv : ((i : Nat), Value.int x) :: lv.filter (fun q => !(q.1 == (i : Nat)) && !(q.1 + 1 == (i : Nat) && q.2.category == 2)) = lv') (k : V Λ κ C (pc + 1) lv' st) : V Λ κ C pc lv (.int x :: st) := by
  obtain ⟨p, e, R, s, m, args, below, meth, c, nL, kc, ks', Q⟩ := κ
  exact fun H locs ls hP hD hS hl => lv_istore_n hC.1.1 hC.1.2.1 hdg rfl hl (by rw [hC.2.2.1]; exact hn) hv (fun ls hl => k H locs ls hP hD hS hl)
theorem v_istore (hC : Ok Λ R0 cc Ts own nL0 κ) {i : Nat} {x : Int32} {lv' : Lvs} (hdg : decode cc pc = .ok (.istore i, 2)) (hn : i < nL0) (hv : (i, Value.int x) :: lv.filter (fun q => !(q.1 == i) && !(q.1 + 1 == i && q.2.category == 2)) = lv') (k : V Λ κ C (pc + 2) lv' st) : V Λ κ C pc lv (.int x :: st) := by
  obtain ⟨p, e, R, s, m, args, below, meth, c, nL, kc, ks', Q⟩ := κ
  exact fun H locs ls hP hD hS hl => lv_istore hC.1.1 hC.1.2.1 hdg hl (by rw [hC.2.2.1]; exact hn) hv (fun ls hl => k H locs ls hP hD hS hl)
theorem v_lstore_n (hC : Ok Λ R0 cc Ts own nL0 κ) {i : Fin 4} {x : Int64} {lv' : Lvs} (hdg : decode cc pc = .ok (.lstore_n i, 1)) (hn : (i : Nat) + 1 < nL0) (hv : ((i : Nat), Value.long x) :: lv.filter (fun q => !(q.1 == (i : Nat)) && (!(q.1 == (i : Nat) + 1) && !(q.1 + 1 == (i : Nat) && q.2.category == 2))) = lv') (k : V Λ κ C (pc + 1) lv' st) : V Λ κ C pc lv (.long x :: st) := by
  obtain ⟨p, e, R, s, m, args, below, meth, c, nL, kc, ks', Q⟩ := κ
  exact fun H locs ls hP hD hS hl => lv_lstore_n hC.1.1 hC.1.2.1 hdg rfl hl (by rw [hC.2.2.1]; exact hn) hv (fun ls hl => k H locs ls hP hD hS hl)
theorem v_lstore (hC : Ok Λ R0 cc Ts own nL0 κ) {i : Nat} {x : Int64} {lv' : Lvs} (hdg : decode cc pc = .ok (.lstore i, 2)) (hn : i + 1 < nL0) (hv : (i, Value.long x) :: lv.filter (fun q => !(q.1 == i) && (!(q.1 == i + 1) && !(q.1 + 1 == i && q.2.category == 2))) = lv') (k : V Λ κ C (pc + 2) lv' st) : V Λ κ C pc lv (.long x :: st) := by
  obtain ⟨p, e, R, s, m, args, below, meth, c, nL, kc, ks', Q⟩ := κ
  exact fun H locs ls hP hD hS hl => lv_lstore hC.1.1 hC.1.2.1 hdg hl (by rw [hC.2.2.1]; exact hn) hv (fun ls hl => k H locs ls hP hD hS hl)
theorem v_astore_n (hC : Ok Λ R0 cc Ts own nL0 κ) {i : Fin 4} {x : Nat} {lv' : Lvs} (hdg : decode cc pc = .ok (.astore_n i, 1)) (hn : (i : Nat) < nL0) (hv : ((i : Nat), Value.ref x) :: lv.filter (fun q => !(q.1 == (i : Nat)) && !(q.1 + 1 == (i : Nat) && q.2.category == 2)) = lv') (k : V Λ κ C (pc + 1) lv' st) : V Λ κ C pc lv (.ref x :: st) := by
  obtain ⟨p, e, R, s, m, args, below, meth, c, nL, kc, ks', Q⟩ := κ
  exact fun H locs ls hP hD hS hl => lv_astore_n hC.1.1 hC.1.2.1 hdg rfl hl (by rw [hC.2.2.1]; exact hn) hv (fun ls hl => k H locs ls hP hD hS hl)
theorem v_astore (hC : Ok Λ R0 cc Ts own nL0 κ) {i : Nat} {x : Nat} {lv' : Lvs} (hdg : decode cc pc = .ok (.astore i, 2)) (hn : i < nL0) (hv : (i, Value.ref x) :: lv.filter (fun q => !(q.1 == i) && !(q.1 + 1 == i && q.2.category == 2)) = lv') (k : V Λ κ C (pc + 2) lv' st) : V Λ κ C pc lv (.ref x :: st) := by
  obtain ⟨p, e, R, s, m, args, below, meth, c, nL, kc, ks', Q⟩ := κ
  exact fun H locs ls hP hD hS hl => lv_astore hC.1.1 hC.1.2.1 hdg hl (by rw [hC.2.2.1]; exact hn) hv (fun ls hl => k H locs ls hP hD hS hl)
theorem v_iinc (hC : Ok Λ R0 cc Ts own nL0 κ) {i j : Nat} {n : Int} {x v : Int32} {lv' : Lvs} (hdg : decode cc pc = .ok (.iinc i n, 3)) (hk : lv[j]? = some (i, .int x)) (hx : x + Int32.ofInt n = v) (hn : i < nL0) (hv : (i, Value.int v) :: lv.filter (fun q => !(q.1 == i) && !(q.1 + 1 == i && q.2.category == 2)) = lv') (k : V Λ κ C (pc + 3) lv' st) : V Λ κ C pc lv st := by
  obtain ⟨p, e, R, s, m, args, below, meth, c, nL, kc, ks', Q⟩ := κ
  exact fun H locs ls hP hD hS hl => lv_iinc hC.1.1 hC.1.2.1 hdg hl hk hx (by rw [hC.2.2.1]; exact hn) hv (fun ls hl => k H locs ls hP hD hS hl)
theorem v_iadd (hC : Ok Λ R0 cc Ts own nL0 κ) {x y : Int32} (hdg : decode cc pc = .ok (.iadd, 1)) (k : V Λ κ C (pc + 1) lv (.int (x + y) :: st)) : V Λ κ C pc lv (.int y :: .int x :: st) := by
  obtain ⟨p, e, R, s, m, args, below, meth, c, nL, kc, ks', Q⟩ := κ
  exact fun H locs ls hP hD hS hl => lv_iadd hC.1.1 hC.1.2.1 hdg (k H locs ls hP hD hS hl)
theorem v_isub (hC : Ok Λ R0 cc Ts own nL0 κ) {x y : Int32} (hdg : decode cc pc = .ok (.isub, 1)) (k : V Λ κ C (pc + 1) lv (.int (x - y) :: st)) : V Λ κ C pc lv (.int y :: .int x :: st) := by
  obtain ⟨p, e, R, s, m, args, below, meth, c, nL, kc, ks', Q⟩ := κ
  exact fun H locs ls hP hD hS hl => lv_isub hC.1.1 hC.1.2.1 hdg (k H locs ls hP hD hS hl)
theorem v_imul (hC : Ok Λ R0 cc Ts own nL0 κ) {x y : Int32} (hdg : decode cc pc = .ok (.imul, 1)) (k : V Λ κ C (pc + 1) lv (.int (x * y) :: st)) : V Λ κ C pc lv (.int y :: .int x :: st) := by
  obtain ⟨p, e, R, s, m, args, below, meth, c, nL, kc, ks', Q⟩ := κ
  exact fun H locs ls hP hD hS hl => lv_imul hC.1.1 hC.1.2.1 hdg (k H locs ls hP hD hS hl)
theorem v_iand (hC : Ok Λ R0 cc Ts own nL0 κ) {x y : Int32} (hdg : decode cc pc = .ok (.iand, 1)) (k : V Λ κ C (pc + 1) lv (.int (x &&& y) :: st)) : V Λ κ C pc lv (.int y :: .int x :: st) := by
  obtain ⟨p, e, R, s, m, args, below, meth, c, nL, kc, ks', Q⟩ := κ
  exact fun H locs ls hP hD hS hl => lv_iand hC.1.1 hC.1.2.1 hdg (k H locs ls hP hD hS hl)
theorem v_ior (hC : Ok Λ R0 cc Ts own nL0 κ) {x y : Int32} (hdg : decode cc pc = .ok (.ior, 1)) (k : V Λ κ C (pc + 1) lv (.int (x ||| y) :: st)) : V Λ κ C pc lv (.int y :: .int x :: st) := by
  obtain ⟨p, e, R, s, m, args, below, meth, c, nL, kc, ks', Q⟩ := κ
  exact fun H locs ls hP hD hS hl => lv_ior hC.1.1 hC.1.2.1 hdg (k H locs ls hP hD hS hl)
theorem v_ixor (hC : Ok Λ R0 cc Ts own nL0 κ) {x y : Int32} (hdg : decode cc pc = .ok (.ixor, 1)) (k : V Λ κ C (pc + 1) lv (.int (x ^^^ y) :: st)) : V Λ κ C pc lv (.int y :: .int x :: st) := by
  obtain ⟨p, e, R, s, m, args, below, meth, c, nL, kc, ks', Q⟩ := κ
  exact fun H locs ls hP hD hS hl => lv_ixor hC.1.1 hC.1.2.1 hdg (k H locs ls hP hD hS hl)
theorem v_idiv (hC : Ok Λ R0 cc Ts own nL0 κ) {x y : Int32} (hdg : decode cc pc = .ok (.idiv, 1)) (hne : ¬ y = 0) (k : V Λ κ C (pc + 1) lv (.int (x / y) :: st)) : V Λ κ C pc lv (.int y :: .int x :: st) := by
  obtain ⟨p, e, R, s, m, args, below, meth, c, nL, kc, ks', Q⟩ := κ
  exact fun H locs ls hP hD hS hl => lv_idiv hC.1.1 hC.1.2.1 hdg hne (k H locs ls hP hD hS hl)
theorem v_irem (hC : Ok Λ R0 cc Ts own nL0 κ) {x y : Int32} (hdg : decode cc pc = .ok (.irem, 1)) (hne : ¬ y = 0) (k : V Λ κ C (pc + 1) lv (.int (x - x / y * y) :: st)) : V Λ κ C pc lv (.int y :: .int x :: st) := by
  obtain ⟨p, e, R, s, m, args, below, meth, c, nL, kc, ks', Q⟩ := κ
  exact fun H locs ls hP hD hS hl => lv_irem hC.1.1 hC.1.2.1 hdg hne (k H locs ls hP hD hS hl)
theorem v_ishl (hC : Ok Λ R0 cc Ts own nL0 κ) {x y : Int32} (hdg : decode cc pc = .ok (.ishl, 1)) (k : V Λ κ C (pc + 1) lv (.int (x <<< (y &&& 31)) :: st)) : V Λ κ C pc lv (.int y :: .int x :: st) := by
  obtain ⟨p, e, R, s, m, args, below, meth, c, nL, kc, ks', Q⟩ := κ
  exact fun H locs ls hP hD hS hl => lv_ishl hC.1.1 hC.1.2.1 hdg (k H locs ls hP hD hS hl)
theorem v_ishr (hC : Ok Λ R0 cc Ts own nL0 κ) {x y : Int32} (hdg : decode cc pc = .ok (.ishr, 1)) (k : V Λ κ C (pc + 1) lv (.int (x >>> (y &&& 31)) :: st)) : V Λ κ C pc lv (.int y :: .int x :: st) := by
  obtain ⟨p, e, R, s, m, args, below, meth, c, nL, kc, ks', Q⟩ := κ
  exact fun H locs ls hP hD hS hl => lv_ishr hC.1.1 hC.1.2.1 hdg (k H locs ls hP hD hS hl)
theorem v_ladd (hC : Ok Λ R0 cc Ts own nL0 κ) {x y : Int64} (hdg : decode cc pc = .ok (.ladd, 1)) (k : V Λ κ C (pc + 1) lv (.long (x + y) :: st)) : V Λ κ C pc lv (.long y :: .long x :: st) := by
  obtain ⟨p, e, R, s, m, args, below, meth, c, nL, kc, ks', Q⟩ := κ
  exact fun H locs ls hP hD hS hl => lv_ladd hC.1.1 hC.1.2.1 hdg (k H locs ls hP hD hS hl)
theorem v_lsub (hC : Ok Λ R0 cc Ts own nL0 κ) {x y : Int64} (hdg : decode cc pc = .ok (.lsub, 1)) (k : V Λ κ C (pc + 1) lv (.long (x - y) :: st)) : V Λ κ C pc lv (.long y :: .long x :: st) := by
  obtain ⟨p, e, R, s, m, args, below, meth, c, nL, kc, ks', Q⟩ := κ
  exact fun H locs ls hP hD hS hl => lv_lsub hC.1.1 hC.1.2.1 hdg (k H locs ls hP hD hS hl)
theorem v_land (hC : Ok Λ R0 cc Ts own nL0 κ) {x y : Int64} (hdg : decode cc pc = .ok (.land, 1)) (k : V Λ κ C (pc + 1) lv (.long (x &&& y) :: st)) : V Λ κ C pc lv (.long y :: .long x :: st) := by
  obtain ⟨p, e, R, s, m, args, below, meth, c, nL, kc, ks', Q⟩ := κ
  exact fun H locs ls hP hD hS hl => lv_land hC.1.1 hC.1.2.1 hdg (k H locs ls hP hD hS hl)
theorem v_lor (hC : Ok Λ R0 cc Ts own nL0 κ) {x y : Int64} (hdg : decode cc pc = .ok (.lor, 1)) (k : V Λ κ C (pc + 1) lv (.long (x ||| y) :: st)) : V Λ κ C pc lv (.long y :: .long x :: st) := by
  obtain ⟨p, e, R, s, m, args, below, meth, c, nL, kc, ks', Q⟩ := κ
  exact fun H locs ls hP hD hS hl => lv_lor hC.1.1 hC.1.2.1 hdg (k H locs ls hP hD hS hl)
theorem v_lxor (hC : Ok Λ R0 cc Ts own nL0 κ) {x y : Int64} (hdg : decode cc pc = .ok (.lxor, 1)) (k : V Λ κ C (pc + 1) lv (.long (x ^^^ y) :: st)) : V Λ κ C pc lv (.long y :: .long x :: st) := by
  obtain ⟨p, e, R, s, m, args, below, meth, c, nL, kc, ks', Q⟩ := κ
  exact fun H locs ls hP hD hS hl => lv_lxor hC.1.1 hC.1.2.1 hdg (k H locs ls hP hD hS hl)
theorem v_lneg (hC : Ok Λ R0 cc Ts own nL0 κ) {x : Int64} (hdg : decode cc pc = .ok (.lneg, 1)) (k : V Λ κ C (pc + 1) lv (.long (-x) :: st)) : V Λ κ C pc lv (.long x :: st) := by
  obtain ⟨p, e, R, s, m, args, below, meth, c, nL, kc, ks', Q⟩ := κ
  exact fun H locs ls hP hD hS hl => lv_lneg hC.1.1 hC.1.2.1 hdg (k H locs ls hP hD hS hl)
theorem v_lcmp (hC : Ok Λ R0 cc Ts own nL0 κ) {x y : Int64} (hdg : decode cc pc = .ok (.lcmp, 1)) (k : V Λ κ C (pc + 1) lv (.int (lg_cmp x y) :: st)) : V Λ κ C pc lv (.long y :: .long x :: st) := by
  obtain ⟨p, e, R, s, m, args, below, meth, c, nL, kc, ks', Q⟩ := κ
  exact fun H locs ls hP hD hS hl => W.lcmp hC.1.1 hC.1.2.1 hdg (k H locs ls hP hD hS hl)
theorem v_lshl (hC : Ok Λ R0 cc Ts own nL0 κ) {x v : Int64} {y : Int32} (hdg : decode cc pc = .ok (.lshl, 1)) (hv : x <<< (y.toInt64 &&& 63) = v) (k : V Λ κ C (pc + 1) lv (.long v :: st)) : V Λ κ C pc lv (.int y :: .long x :: st) := by
  obtain ⟨p, e, R, s, m, args, below, meth, c, nL, kc, ks', Q⟩ := κ
  exact fun H locs ls hP hD hS hl => lv_lshl hC.1.1 hC.1.2.1 hdg hv (k H locs ls hP hD hS hl)
theorem v_lushr (hC : Ok Λ R0 cc Ts own nL0 κ) {x v : Int64} {y : Int32} (hdg : decode cc pc = .ok (.lushr, 1)) (hv : (x.toUInt64 >>> (y.toInt64.toUInt64 &&& Int64.toUInt64 63)).toInt64 = v) (k : V Λ κ C (pc + 1) lv (.long v :: st)) : V Λ κ C pc lv (.int y :: .long x :: st) := by
  obtain ⟨p, e, R, s, m, args, below, meth, c, nL, kc, ks', Q⟩ := κ
  exact fun H locs ls hP hD hS hl => lv_lushr hC.1.1 hC.1.2.1 hdg hv (k H locs ls hP hD hS hl)
theorem v_l2i (hC : Ok Λ R0 cc Ts own nL0 κ) {x : Int64} {v : Int32} (hdg : decode cc pc = .ok (.l2i, 1)) (hv : x.toInt32 = v) (k : V Λ κ C (pc + 1) lv (.int v :: st)) : V Λ κ C pc lv (.long x :: st) := by
  obtain ⟨p, e, R, s, m, args, below, meth, c, nL, kc, ks', Q⟩ := κ
  exact fun H locs ls hP hD hS hl => lv_l2i hC.1.1 hC.1.2.1 hdg hv (k H locs ls hP hD hS hl)
theorem v_i2c (hC : Ok Λ R0 cc Ts own nL0 κ) {x v : Int32} (hdg : decode cc pc = .ok (.i2c, 1)) (hv : (x.toUInt32 % 65536).toInt32 = v) (k : V Λ κ C (pc + 1) lv (.int v :: st)) : V Λ κ C pc lv (.int x :: st) := by
  obtain ⟨p, e, R, s, m, args, below, meth, c, nL, kc, ks', Q⟩ := κ
  exact fun H locs ls hP hD hS hl => lv_i2c hC.1.1 hC.1.2.1 hdg hv (k H locs ls hP hD hS hl)
theorem v_dup (hC : Ok Λ R0 cc Ts own nL0 κ) {va : Value} (hdg : decode cc pc = .ok (.dup, 1)) (hva : va.category = 1) (k : V Λ κ C (pc + 1) lv (va :: va :: st)) : V Λ κ C pc lv (va :: st) := by
  obtain ⟨p, e, R, s, m, args, below, meth, c, nL, kc, ks', Q⟩ := κ
  exact fun H locs ls hP hD hS hl => lv_dup hC.1.1 hC.1.2.1 hdg hva (k H locs ls hP hD hS hl)
theorem v_pop (hC : Ok Λ R0 cc Ts own nL0 κ) {va : Value} (hdg : decode cc pc = .ok (.pop, 1)) (hva : va.category = 1) (k : V Λ κ C (pc + 1) lv st) : V Λ κ C pc lv (va :: st) := by
  obtain ⟨p, e, R, s, m, args, below, meth, c, nL, kc, ks', Q⟩ := κ
  exact fun H locs ls hP hD hS hl => lv_pop hC.1.1 hC.1.2.1 hdg hva (k H locs ls hP hD hS hl)
theorem v_dup2 (hC : Ok Λ R0 cc Ts own nL0 κ) {va vb : Value} (hdg : decode cc pc = .ok (.dup2, 1)) (hva : va.category = 1) (hvb : vb.category = 1) (k : V Λ κ C (pc + 1) lv (va :: vb :: va :: vb :: st)) : V Λ κ C pc lv (va :: vb :: st) := by
  obtain ⟨p, e, R, s, m, args, below, meth, c, nL, kc, ks', Q⟩ := κ
  exact fun H locs ls hP hD hS hl => lv_dup2_11 hC.1.1 hC.1.2.1 hdg hva hvb (k H locs ls hP hD hS hl)
theorem v_goto (hC : Ok Λ R0 cc Ts own nL0 κ) {off : Int} {tgt : Nat} (hdg : decode cc pc = .ok (.goto off, 3)) (ht : (pc : Int) + off = (tgt : Int)) (k : V Λ κ C tgt lv st) : V Λ κ C pc lv st := by
  obtain ⟨p, e, R, s, m, args, below, meth, c, nL, kc, ks', Q⟩ := κ
  exact fun H locs ls hP hD hS hl => lv_goto hC.1.1 hC.1.2.1 hdg ht (k H locs ls hP hD hS hl)
theorem v_if_eq (hC : Ok Λ R0 cc Ts own nL0 κ) {x : Int32} {off : Int} {tgt : Nat} (hdg : decode cc pc = .ok (.ifCond .eq off, 3)) (ht : (pc : Int) + off = (tgt : Int)) (kt : x = 0 → V Λ κ C tgt lv st) (kf : ¬ x = 0 → V Λ κ C (pc + 3) lv st) : V Λ κ C pc lv (.int x :: st) := by
  obtain ⟨p, e, R, s, m, args, below, meth, c, nL, kc, ks', Q⟩ := κ
  exact fun H locs ls hP hD hS hl => lv_if_eq hC.1.1 hC.1.2.1 hdg ht (fun h => kt h H locs ls hP hD hS hl) (fun h => kf h H locs ls hP hD hS hl)
theorem v_if_ne (hC : Ok Λ R0 cc Ts own nL0 κ) {x : Int32} {off : Int} {tgt : Nat} (hdg : decode cc pc = .ok (.ifCond .ne off, 3)) (ht : (pc : Int) + off = (tgt : Int)) (kt : ¬ x = 0 → V Λ κ C tgt lv st) (kf : x = 0 → V Λ κ C (pc + 3) lv st) : V Λ κ C pc lv (.int x :: st) := by
  obtain ⟨p, e, R, s, m, args, below, meth, c, nL, kc, ks', Q⟩ := κ
  exact fun H locs ls hP hD hS hl => lv_if_ne hC.1.1 hC.1.2.1 hdg ht (fun h => kt h H locs ls hP hD hS hl) (fun h => kf h H locs ls hP hD hS hl)
theorem v_if_lt (hC : Ok Λ R0 cc Ts own nL0 κ) {x : Int32} {off : Int} {tgt : Nat} (hdg : decode cc pc = .ok (.ifCond .lt off, 3)) (ht : (pc : Int) + off = (tgt : Int)) (kt : x < 0 → V Λ κ C tgt lv st) (kf : ¬ x < 0 → V Λ κ C (pc + 3) lv st) : V Λ κ C pc lv (.int x :: st) := by
  obtain ⟨p, e, R, s, m, args, below, meth, c, nL, kc, ks', Q⟩ := κ
  exact fun H locs ls hP hD hS hl => lv_if_lt hC.1.1 hC.1.2.1 hdg ht (fun h => kt h H locs ls hP hD hS hl) (fun h => kf h H locs ls hP hD hS hl)
theorem v_if_ge (hC : Ok Λ R0 cc Ts own nL0 κ) {x : Int32} {off : Int} {tgt : Nat} (hdg : decode cc pc = .ok (.ifCond .ge off, 3)) (ht : (pc : Int) + off = (tgt : Int)) (kt : 0 ≤ x → V Λ κ C tgt lv st) (kf : ¬ 0 ≤ x → V Λ κ C (pc + 3) lv st) : V Λ κ C pc lv (.int x :: st) := by
  obtain ⟨p, e, R, s, m, args, below, meth, c, nL, kc, ks', Q⟩ := κ
  exact fun H locs ls hP hD hS hl => lv_if_ge hC.1.1 hC.1.2.1 hdg ht (fun h => kt h H locs ls hP hD hS hl) (fun h => kf h H locs ls hP hD hS hl)
theorem v_if_gt (hC : Ok Λ R0 cc Ts own nL0 κ) {x : Int32} {off : Int} {tgt : Nat} (hdg : decode cc pc = .ok (.ifCond .gt off, 3)) (ht : (pc : Int) + off = (tgt : Int)) (kt : 0 < x → V Λ κ C tgt lv st) (kf : ¬ 0 < x → V Λ κ C (pc + 3) lv st) : V Λ κ C pc lv (.int x :: st) := by
  obtain ⟨p, e, R, s, m, args, below, meth, c, nL, kc, ks', Q⟩ := κ
  exact fun H locs ls hP hD hS hl => lv_if_gt hC.1.1 hC.1.2.1 hdg ht (fun h => kt h H locs ls hP hD hS hl) (fun h => kf h H locs ls hP hD hS hl)
theorem v_if_le (hC : Ok Λ R0 cc Ts own nL0 κ) {x : Int32} {off : Int} {tgt : Nat} (hdg : decode cc pc = .ok (.ifCond .le off, 3)) (ht : (pc : Int) + off = (tgt : Int)) (kt : x ≤ 0 → V Λ κ C tgt lv st) (kf : ¬ x ≤ 0 → V Λ κ C (pc + 3) lv st) : V Λ κ C pc lv (.int x :: st) := by
  obtain ⟨p, e, R, s, m, args, below, meth, c, nL, kc, ks', Q⟩ := κ
  exact fun H locs ls hP hD hS hl => lv_if_le hC.1.1 hC.1.2.1 hdg ht (fun h => kt h H locs ls hP hD hS hl) (fun h => kf h H locs ls hP hD hS hl)
theorem v_icmp_eq (hC : Ok Λ R0 cc Ts own nL0 κ) {x y : Int32} {off : Int} {tgt : Nat} (hdg : decode cc pc = .ok (.if_icmp .eq off, 3)) (ht : (pc : Int) + off = (tgt : Int)) (kt : x = y → V Λ κ C tgt lv st) (kf : ¬ x = y → V Λ κ C (pc + 3) lv st) : V Λ κ C pc lv (.int y :: .int x :: st) := by
  obtain ⟨p, e, R, s, m, args, below, meth, c, nL, kc, ks', Q⟩ := κ
  exact fun H locs ls hP hD hS hl => lv_icmp_eq hC.1.1 hC.1.2.1 hdg ht (fun h => kt h H locs ls hP hD hS hl) (fun h => kf h H locs ls hP hD hS hl)
theorem v_icmp_ne (hC : Ok Λ R0 cc Ts own nL0 κ) {x y : Int32} {off : Int} {tgt : Nat} (hdg : decode cc pc = .ok (.if_icmp .ne off, 3)) (ht : (pc : Int) + off = (tgt : Int)) (kt : ¬ x = y → V Λ κ C tgt lv st) (kf : x = y → V Λ κ C (pc + 3) lv st) : V Λ κ C pc lv (.int y :: .int x :: st) := by
  obtain ⟨p, e, R, s, m, args, below, meth, c, nL, kc, ks', Q⟩ := κ
  exact fun H locs ls hP hD hS hl => lv_icmp_ne hC.1.1 hC.1.2.1 hdg ht (fun h => kt h H locs ls hP hD hS hl) (fun h => kf h H locs ls hP hD hS hl)
theorem v_icmp_lt (hC : Ok Λ R0 cc Ts own nL0 κ) {x y : Int32} {off : Int} {tgt : Nat} (hdg : decode cc pc = .ok (.if_icmp .lt off, 3)) (ht : (pc : Int) + off = (tgt : Int)) (kt : x < y → V Λ κ C tgt lv st) (kf : ¬ x < y → V Λ κ C (pc + 3) lv st) : V Λ κ C pc lv (.int y :: .int x :: st) := by
  obtain ⟨p, e, R, s, m, args, below, meth, c, nL, kc, ks', Q⟩ := κ
  exact fun H locs ls hP hD hS hl => lv_icmp_lt hC.1.1 hC.1.2.1 hdg ht (fun h => kt h H locs ls hP hD hS hl) (fun h => kf h H locs ls hP hD hS hl)
theorem v_icmp_ge (hC : Ok Λ R0 cc Ts own nL0 κ) {x y : Int32} {off : Int} {tgt : Nat} (hdg : decode cc pc = .ok (.if_icmp .ge off, 3)) (ht : (pc : Int) + off = (tgt : Int)) (kt : y ≤ x → V Λ κ C tgt lv st) (kf : ¬ y ≤ x → V Λ κ C (pc + 3) lv st) : V Λ κ C pc lv (.int y :: .int x :: st) := by
  obtain ⟨p, e, R, s, m, args, below, meth, c, nL, kc, ks', Q⟩ := κ
  exact fun H locs ls hP hD hS hl => lv_icmp_ge hC.1.1 hC.1.2.1 hdg ht (fun h => kt h H locs ls hP hD hS hl) (fun h => kf h H locs ls hP hD hS hl)
theorem v_icmp_gt (hC : Ok Λ R0 cc Ts own nL0 κ) {x y : Int32} {off : Int} {tgt : Nat} (hdg : decode cc pc = .ok (.if_icmp .gt off, 3)) (ht : (pc : Int) + off = (tgt : Int)) (kt : y < x → V Λ κ C tgt lv st) (kf : ¬ y < x → V Λ κ C (pc + 3) lv st) : V Λ κ C pc lv (.int y :: .int x :: st) := by
  obtain ⟨p, e, R, s, m, args, below, meth, c, nL, kc, ks', Q⟩ := κ
  exact fun H locs ls hP hD hS hl => lv_icmp_gt hC.1.1 hC.1.2.1 hdg ht (fun h => kt h H locs ls hP hD hS hl) (fun h => kf h H locs ls hP hD hS hl)
theorem v_icmp_le (hC : Ok Λ R0 cc Ts own nL0 κ) {x y : Int32} {off : Int} {tgt : Nat} (hdg : decode cc pc = .ok (.if_icmp .le off, 3)) (ht : (pc : Int) + off = (tgt : Int)) (kt : x ≤ y → V Λ κ C tgt lv st) (kf : ¬ x ≤ y → V Λ κ C (pc + 3) lv st) : V Λ κ C pc lv (.int y :: .int x :: st) := by
  obtain ⟨p, e, R, s, m, args, below, meth, c, nL, kc, ks', Q⟩ := κ
  exact fun H locs ls hP hD hS hl => lv_icmp_le hC.1.1 hC.1.2.1 hdg ht (fun h => kt h H locs ls hP hD hS hl) (fun h => kf h H locs ls hP hD hS hl)
-- heap: fields
theorem v_get (hC : Ok Λ R0 cc Ts own nL0 κ) {Cn : String} {T : u_T} {N ci index : Nat} {fs : List Value} {v : Value} (r : Nat) (hr : r < nR) (he : C r = .inr (ci, fs)) (hin : ∀ w ∈ u_ws Cn T N, w ∈ Ts) (hc : vwCl[ci]? = some (Cn, T, N)) (k : Nat) (hk : k < N) (hlink : Cond.fieldLink own index (T k).1 (T k).2.1 (T k).2.2.1 ∈ Ts) (hv : fs[k]? = some v) (hdg : decode cc pc = .ok (.getfield index, 3))
    (kk : V Λ κ C (pc + 3) lv (v :: st)) : V Λ κ C pc lv (rf Λ r :: st) := by
  obtain ⟨p, e, R, s, m, args, below, meth, c, nL, kc, ks', Q⟩ := κ
  intro H locs ls hP hD hS hl
  refine va_get (D := Λ.2.2.1) (ci := ci) (v := v) (C := Cn) (T := T) (N := N) (fs := fs) hC.1.1 hC.1.2.1 hC.1.2.2.2.2 hin hC.1.2.2.2.1 hC.2.2.2.1 hP r ?_ hc k hk (hC.1.2.2.2.2 _ hlink) (fun _ h9 => h9) hv hdg (kk H locs ls hP hD hS hl)
  rw [wl_get hr, he]
theorem v_put (hC : Ok Λ R0 cc Ts own nL0 κ) {Cn : String} {T : u_T} {N ci index : Nat} {fs : List Value} {v : Value} {ty : FieldType} (r : Nat) (hr : r < nR) (he : C r = .inr (ci, fs)) (hin : ∀ w ∈ u_ws Cn T N, w ∈ Ts) (ty0 : Nat → FieldType) (hty : ∀ k, k < N → parseFieldDescriptor (T k).2.2.1 = some (ty0 k)) (hnm : ∀ a, a < N → ∀ b, b < N → a ≠ b → (T a).2.1 ≠ (T b).2.1) (hc : vwCl[ci]? = some (Cn, T, N)) (k : Nat) (hk : k < N) (hlink : Cond.fieldLink own index (T k).1 (T k).2.1 (T k).2.2.1 ∈ Ts) (hfin : (T k).2.2.2 = false) (hd : parseFieldDescriptor (T k).2.2.1 = some ty) (hn : narrow ty v = v) (hfit : fits ty v = true) (hl : k < fs.length) (hdg : decode cc pc = .ok (.putfield index, 3))
    (kk : V Λ κ (va_up C r (.inr (ci, fs.set k v))) (pc + 3) lv st) : V Λ κ C pc lv (v :: rf Λ r :: st) := by
  obtain ⟨p, e, R, s, m, args, below, meth, c, nL, kc, ks', Q⟩ := κ
  intro H locs ls hP hD hS hls
  refine va_put (D := Λ.2.2.1) (ci := ci) (v := v) (ty := ty) (C := Cn) (T := T) (N := N) (fs := fs) hC.1.1 hC.1.2.1 hC.1.2.2.2.2 hin ty0 hty hnm hC.1.2.2.2.1 hC.2.2.2.1 hP hD hS r ?_ hc k hk (hC.1.2.2.2.2 _ hlink) (fun _ h9 => h9) hfin hd hn hfit hl hdg (fun H1 locs1 hP1 hD1 hS1 => ?_)
  · rw [wl_get hr, he]
  · rw [wl_set hr] at hP1 hD1
    exact kk H1 locs1 ls hP1 hD1 hS1 hls
-- heap: arrays
theorem v_iald (hC : Ok Λ R0 cc Ts own nL0 κ) {n : Nat} {f : Nat → Int32} {x : Int32} (r : Nat) (hr : r < nR) (he : C r = .inl (Λ.2.2.2.1 1, n, .inl f)) (j : Nat) (hx : x = nI j) (hj : j < n) (hn : n < 2 ^ 31) (hdg : decode cc pc = .ok (.iaload, 1))
    (kk : V Λ κ C (pc + 1) lv (.int (f j) :: st)) : V Λ κ C pc lv (.int x :: rf Λ r :: st) := by
  subst hx
  obtain ⟨p, e, R, s, m, args, below, meth, c, nL, kc, ks', Q⟩ := κ
  intro H locs ls hP hD hS hl
  refine va_iald hC.1.1 hC.1.2.1 hC.2.2.2.1 hP r 1 (by rw [wl_get hr, he]) rfl (vp_in_nI hj hn) hdg ?_
  rw [nI_clamp (Nat.lt_trans hj hn)]
  exact kk H locs ls hP hD hS hl
theorem v_cald (hC : Ok Λ R0 cc Ts own nL0 κ) {n : Nat} {f : Nat → Int32} {x : Int32} (r : Nat) (hr : r < nR) (he : C r = .inl (Λ.2.2.2.1 2, n, .inl f)) (j : Nat) (hx : x = nI j) (hj : j < n) (hn : n < 2 ^ 31) (hdg : decode cc pc = .ok (.caload, 1))
    (kk : V Λ κ C (pc + 1) lv (.int (f j) :: st)) : V Λ κ C pc lv (.int x :: rf Λ r :: st) := by
  subst hx
  obtain ⟨p, e, R, s, m, args, below, meth, c, nL, kc, ks', Q⟩ := κ
  intro H locs ls hP hD hS hl
  refine va_cald hC.1.1 hC.1.2.1 hC.2.2.2.1 hP r 2 (by rw [wl_get hr, he]) rfl (vp_in_nI hj hn) hdg ?_
  rw [nI_clamp (Nat.lt_trans hj hn)]
  exact kk H locs ls hP hD hS hl
theorem v_lald (hC : Ok Λ R0 cc Ts own nL0 κ) {n : Nat} {f : Nat → Int64} {x : Int32} (r : Nat) (hr : r < nR) (he : C r = .inl (Λ.2.2.2.1 0, n, .inr (.inl f))) (j : Nat) (hx : x = nI j) (hj : j < n) (hn : n < 2 ^ 31) (hdg : decode cc pc = .ok (.laload, 1))
    (kk : V Λ κ C (pc + 1) lv (.long (f j) :: st)) : V Λ κ C pc lv (.int x :: rf Λ r :: st) := by
  subst hx
  obtain ⟨p, e, R, s, m, args, below, meth, c, nL, kc, ks', Q⟩ := κ
  intro H locs ls hP hD hS hl
  refine va_lald hC.1.1 hC.1.2.1 hC.2.2.2.1 hP r 0 (by rw [wl_get hr, he]) rfl (vp_in_nI hj hn) hdg ?_
  rw [nI_clamp (Nat.lt_trans hj hn)]
  exact kk H locs ls hP hD hS hl
theorem v_aald (hC : Ok Λ R0 cc Ts own nL0 κ) {n : Nat} {f : Nat → Option Nat} {x : Int32} (r : Nat) (hr : r < nR) (t : Nat) {Cn : String} (ht : (tysOf Λ.2.2.2.1)[t]? = some (Λ.2.2.2.1 t, .object Cn)) (he : C r = .inl (Λ.2.2.2.1 t, n, .inr (.inr (.inr (.inr f))))) (j : Nat) (hx : x = nI j) (hj : j < n) (hn : n < 2 ^ 31) {r2 : Nat} (hf : f j = some (Λ.2.1 r2)) (hdg : decode cc pc = .ok (.aaload, 1))
    (kk : V Λ κ C (pc + 1) lv (rf Λ r2 :: st)) : V Λ κ C pc lv (.int x :: rf Λ r :: st) := by
  subst hx
  obtain ⟨p, e, R, s, m, args, below, meth, c, nL, kc, ks', Q⟩ := κ
  intro H locs ls hP hD hS hl
  refine va_aldq hC.1.1 hC.1.2.1 hC.2.2.2.1 hP r t (by rw [wl_get hr, he]) ht (vp_in_nI hj hn) hdg ?_
  rw [nI_clamp (Nat.lt_trans hj hn), hf]
  exact kk H locs ls hP hD hS hl
theorem v_iast (hC : Ok Λ R0 cc Ts own nL0 κ) {n : Nat} {f : Nat → Int32} {x y : Int32} (r : Nat) (hr : r < nR) (he : C r = .inl (Λ.2.2.2.1 1, n, .inl f)) (j : Nat) (hx : x = nI j) (hj : j < n) (hn : n < 2 ^ 31) (hdg : decode cc pc = .ok (.iastore, 1))
    (kk : V Λ κ (va_up C r (.inl (Λ.2.2.2.1 1, n, .inl (upd f j y)))) (pc + 1) lv st) : V Λ κ C pc lv (.int y :: .int x :: rf Λ r :: st) := by
  subst hx
  obtain ⟨p, e, R, s, m, args, below, meth, c, nL, kc, ks', Q⟩ := κ
  intro H locs ls hP hD hS hl
  refine va_iast hC.1.1 hC.1.2.1 hC.2.2.2.1 hP hD hS r 1 (by rw [wl_get hr, he]) rfl (vp_in_nI hj hn) hdg (fun H1 locs1 hP1 hD1 hS1 => ?_)
  rw [wl_set hr, nI_clamp (Nat.lt_trans hj hn)] at hP1 hD1
  exact kk H1 locs1 ls hP1 hD1 hS1 hl
theorem v_cast (hC : Ok Λ R0 cc Ts own nL0 κ) {n : Nat} {f : Nat → Int32} {x y : Int32} (r : Nat) (hr : r < nR) (he : C r = .inl (Λ.2.2.2.1 2, n, .inl f)) (j : Nat) (hx : x = nI j) (hj : j < n) (hn : n < 2 ^ 31) (hdg : decode cc pc = .ok (.castore, 1))
    (kk : V Λ κ (va_up C r (.inl (Λ.2.2.2.1 2, n, .inl (upd f j (vp_nar .char y))))) (pc + 1) lv st) : V Λ κ C pc lv (.int y :: .int x :: rf Λ r :: st) := by
  subst hx
  obtain ⟨p, e, R, s, m, args, below, meth, c, nL, kc, ks', Q⟩ := κ
  intro H locs ls hP hD hS hl
  refine va_cast hC.1.1 hC.1.2.1 hC.2.2.2.1 hP hD hS r 2 (by rw [wl_get hr, he]) rfl (vp_in_nI hj hn) hdg (fun H1 locs1 hP1 hD1 hS1 => ?_)
  rw [wl_set hr, nI_clamp (Nat.lt_trans hj hn)] at hP1 hD1
  exact kk H1 locs1 ls hP1 hD1 hS1 hl
theorem v_last (hC : Ok Λ R0 cc Ts own nL0 κ) {n : Nat} {f : Nat → Int64} {x : Int32} {y : Int64} (r : Nat) (hr : r < nR) (he : C r = .inl (Λ.2.2.2.1 0, n, .inr (.inl f))) (j : Nat) (hx : x = nI j) (hj : j < n) (hn : n < 2 ^ 31) (hdg : decode cc pc = .ok (.lastore, 1))
    (kk : V Λ κ (va_up C r (.inl (Λ.2.2.2.1 0, n, .inr (.inl (vp_updL f j y))))) (pc + 1) lv st) : V Λ κ C pc lv (.long y :: .int x :: rf Λ r :: st) := by
  subst hx
  obtain ⟨p, e, R, s, m, args, below, meth, c, nL, kc, ks', Q⟩ := κ
  intro H locs ls hP hD hS hl
  refine va_last hC.1.1 hC.1.2.1 hC.2.2.2.1 hP hD hS r 0 (by rw [wl_get hr, he]) rfl (vp_in_nI hj hn) hdg (fun H1 locs1 hP1 hD1 hS1 => ?_)
  rw [wl_set hr, nI_clamp (Nat.lt_trans hj hn)] at hP1 hD1
  exact kk H1 locs1 ls hP1 hD1 hS1 hl
theorem v_aast (hC : Ok Λ R0 cc Ts own nL0 κ) {n ci : Nat} {f : Nat → Option Nat} {fs : List Value} {cn : vw_C} {x : Int32} (r r2 : Nat) (hr : r < nR) (hr2 : r2 < nR) (t : Nat) (ht : (tysOf Λ.2.2.2.1)[t]? = some (Λ.2.2.2.1 t, .object cn.1)) (he : C r = .inl (Λ.2.2.2.1 t, n, .inr (.inr (.inr (.inr f))))) (he2 : C r2 = .inr (ci, fs)) (hc : vwCl[ci]? = some cn) (j : Nat) (hx : x = nI j) (hj : j < n) (hn : n < 2 ^ 31) (hdg : decode cc pc = .ok (.aastore, 1))
    (kk : V Λ κ (va_up C r (.inl (Λ.2.2.2.1 t, n, .inr (.inr (.inr (.inr (va_up f j (some (Λ.2.1 r2)))))))))  (pc + 1) lv st) : V Λ κ C pc lv (rf Λ r2 :: .int x :: rf Λ r :: st) := by
  subst hx
  obtain ⟨p, e, R, s, m, args, below, meth, c, nL, kc, ks', Q⟩ := κ
  intro H locs ls hP hD hS hl
  refine va_astq hC.1.1 hC.1.2.1 hC.2.2.2.1 hP hD hS r t r2 ci (by rw [wl_get hr, he]) ht (by rw [wl_get hr2, he2]) hc (vp_in_nI hj hn) hdg (fun H1 locs1 hP1 hD1 hS1 => ?_)
  rw [wl_set hr, nI_clamp (Nat.lt_trans hj hn)] at hP1 hD1
  exact kk H1 locs1 ls hP1 hD1 hS1 hl
theorem v_alen (hC : Ok Λ R0 cc Ts own nL0 κ) {n : Nat} {cA : ClassId} {x : (Nat → Int32) ⊕ (Nat → Int64) ⊕ (Nat → UInt32) ⊕ (Nat → UInt64) ⊕ (Nat → Option Nat)} (r : Nat) (hr : r < nR) (t : Nat) {ty : FieldType} (ht : (tysOf Λ.2.2.2.1)[t]? = some (cA, ty)) (he : C r = .inl (cA, n, x)) (hdg : decode cc pc = .ok (.arraylength, 1))
    (kk : V Λ κ C (pc + 1) lv (.int (nI n) :: st)) : V Λ κ C pc lv (rf Λ r :: st) := by
  obtain ⟨p, e, R, s, m, args, below, meth, c, nL, kc, ks', Q⟩ := κ
  intro H locs ls hP hD hS hl
  exact va_alen (x := (n, x)) hC.1.1 hC.1.2.1 hC.2.2.2.1 hP r t (by rw [wl_get hr, he]) ht rfl hdg (kk H locs ls hP hD hS hl)
-- arraycopy
theorem v_copyi (hC : Ok Λ R0 cc Ts own nL0 κ) {index n0 n1 : Nat} {f g : Nat → Int32} {n : Int32} (r0 r1 : Nat) (hr0 : r0 < nR) (hr1 : r1 < nR) (he0 : C r0 = .inl (Λ.2.2.2.1 1, n0, .inl f)) (he1 : C r1 = .inl (Λ.2.2.2.1 1, n1, .inl g)) (w1 : Cond.methodLink own index arraycopyName ∈ Ts) (w2 : Cond.native arraycopyName ∈ Ts) (w3 : Cond.static arraycopyName ∈ Ts) (w4 : Cond.initialized "java/lang/System" ∈ Ts) (j : Nat) (hj : n = nI j) (hj2 : j < 2 ^ 31) (h0 : j ≤ n0) (h1 : j ≤ n1) (hfr : 1 ≤ R0.frames) (hlo : (st.map fun v => v.category).sum + (nativeFrameWords "java/lang/System" "arraycopy" 5 + 11) ≤ R0.locals) (hdg : decode cc pc = .ok (.invokestatic index, 3))
    (kk : V Λ κ (va_up C r1 (.inl (Λ.2.2.2.1 1, n1, .inl (va_cpy f g 0 0 j)))) (pc + 3) lv st) : V Λ κ C pc lv (.int n :: .int 0 :: rf Λ r1 :: .int 0 :: rf Λ r0 :: st) := by
  subst hj
  obtain ⟨p, e, R, s, m, args, below, meth, c, nL, kc, ks', Q⟩ := κ
  intro H locs ls hP hD hS hl
  have z0 : (0 : Int32).toNatClampNeg = 0 := rfl
  have hb := hC.1.2.1
  refine va_copyi hC.1.1 hC.1.2.1 (by rw [hC.1.2.2.1, hl.1]) hC.1.2.2.2.1 (hC.1.2.2.2.2 _ w1) (hC.1.2.2.2.2 _ w2) (hC.1.2.2.2.2 _ w3) (hC.1.2.2.2.2 _ w4) hC.2.2.2.1 hP hD hS r0 r1 1 1 (by rw [wl_get hr0, he0]) (by rw [wl_get hr1, he1]) rfl rfl rfl (by decide) (by decide) (nI_pos hj2) (by rw [z0, nI_clamp hj2]; omega) (by rw [z0, nI_clamp hj2]; omega) (fun _ _ => rfl) (by rw [hC.2.1]; exact hfr) (by rw [hC.2.1]; exact hlo) hdg (fun H1 locs1 hP1 hD1 hS1 => ?_)
  rw [wl_set hr1, z0, nI_clamp hj2] at hP1 hD1
  exact kk H1 locs1 ls hP1 hD1 hS1 hl
theorem v_copyl (hC : Ok Λ R0 cc Ts own nL0 κ) {index n0 n1 : Nat} {f g : Nat → Int64} {n : Int32} (r0 r1 : Nat) (hr0 : r0 < nR) (hr1 : r1 < nR) (he0 : C r0 = .inl (Λ.2.2.2.1 0, n0, .inr (.inl f))) (he1 : C r1 = .inl (Λ.2.2.2.1 0, n1, .inr (.inl g))) (w1 : Cond.methodLink own index arraycopyName ∈ Ts) (w2 : Cond.native arraycopyName ∈ Ts) (w3 : Cond.static arraycopyName ∈ Ts) (w4 : Cond.initialized "java/lang/System" ∈ Ts) (j : Nat) (hj : n = nI j) (hj2 : j < 2 ^ 31) (h0 : j ≤ n0) (h1 : j ≤ n1) (hfr : 1 ≤ R0.frames) (hlo : (st.map fun v => v.category).sum + (nativeFrameWords "java/lang/System" "arraycopy" 5 + 11) ≤ R0.locals) (hdg : decode cc pc = .ok (.invokestatic index, 3))
    (kk : V Λ κ (va_up C r1 (.inl (Λ.2.2.2.1 0, n1, .inr (.inl (va_cpy f g 0 0 j))))) (pc + 3) lv st) : V Λ κ C pc lv (.int n :: .int 0 :: rf Λ r1 :: .int 0 :: rf Λ r0 :: st) := by
  subst hj
  obtain ⟨p, e, R, s, m, args, below, meth, c, nL, kc, ks', Q⟩ := κ
  intro H locs ls hP hD hS hl
  have z0 : (0 : Int32).toNatClampNeg = 0 := rfl
  refine va_copyl hC.1.1 hC.1.2.1 (by rw [hC.1.2.2.1, hl.1]) hC.1.2.2.2.1 (hC.1.2.2.2.2 _ w1) (hC.1.2.2.2.2 _ w2) (hC.1.2.2.2.2 _ w3) (hC.1.2.2.2.2 _ w4) hC.2.2.2.1 hP hD hS r0 r1 0 0 (by rw [wl_get hr0, he0]) (by rw [wl_get hr1, he1]) rfl rfl rfl (by decide) (by decide) (nI_pos hj2) (by rw [z0, nI_clamp hj2]; omega) (by rw [z0, nI_clamp hj2]; omega) (fun _ _ => rfl) (by rw [hC.2.1]; exact hfr) (by rw [hC.2.1]; exact hlo) hdg (fun H1 locs1 hP1 hD1 hS1 => ?_)
  rw [wl_set hr1, z0, nI_clamp hj2] at hP1 hD1
  exact kk H1 locs1 ls hP1 hD1 hS1 hl
-- a cell may be said otherwise where nothing is read
theorem v_congr {C' : Mem} (h : ∀ r, r < nR → C r = C' r ∨ ∃ cA n f f', C r = .inl (cA, n, .inl f) ∧ C' r = .inl (cA, n, .inl f') ∧ ∀ j, j < n → f j = f' j) (k : V Λ κ C' pc lv st) : V Λ κ C pc lv st := by
  obtain ⟨p, e, R, s, m, args, below, meth, c, nL, kc, ks', Q⟩ := κ
  intro H locs ls hP hD hS hl
  have key : ∀ (i : Nat) (q : Nat × va_E), (wl Λ.2.1 C')[i]? = some q → ∃ q0, (wl Λ.2.1 C)[i]? = some q0 ∧ q0.1 = q.1 ∧ (va_at Λ.2.2.1 vwCl q0 H → va_at Λ.2.2.1 vwCl q H) := by
    intro i q hq
    have hi : i < nR := by
      have := (List.getElem?_eq_some_iff.mp hq).1
      simpa [wl] using this
    rw [wl_get hi] at hq
    cases hq
    refine ⟨_, wl_get hi, rfl, fun ha => ?_⟩
    rcases h i hi with h1 | ⟨cA, n, f, f', h1, h2, h3⟩
    · rw [← h1]; exact ha
    · rw [h1] at ha
      rw [h2]
      have e1 : vp_cell cA (n, .inl f) = vp_cell cA (n, .inl f') := by
        rw [vp_cell_i, vp_cell_i]
        unfold arrV
        congr 1
        apply Array.ext
        · simp
        · intro i hi1 hi2
          simp at hi1
          simp [h3 i hi1]
      show H[Λ.2.1 i]? = some (vp_cell cA (n, .inl f'))
      rw [← e1]
      exact ha
  refine k H locs ls (fun i q hq => ?_) ⟨fun i j x y hx hy hxy => ?_, fun i q hq => ?_⟩ hS hl
  · obtain ⟨q0, a1, a2, a3⟩ := key i q hq
    exact a3 (hP i q0 a1)
  · obtain ⟨x0, a1, a2, -⟩ := key i x hx
    obtain ⟨y0, b1, b2, -⟩ := key j y hy
    exact hD.1 i j x0 y0 a1 b1 (by rw [a2, b2]; exact hxy)
  · obtain ⟨q0, a1, a2, -⟩ := key i q hq
    rw [← a2]
    exact hD.2 i q0 a1
end ROWS
-- calls
theorem v_back {Λ : Lk} {p : Program} {e : Env} {R : Room} {s : State} {m : MethodId} {args : Array Value} {below : List Frame} {meth : Method} {c : Code} {nL kc ks : Nat} {Q : State → Prop} {C2 : Mem} {pc : Nat} {lv : Lvs} {st0 rest : List Value} {rv : Option Value} {a : Array Value} {H : Heap} {locs : List Loc} {ls : Array Slot} (hS : va_S Λ.2.2.2.2 s.heap H locs) (hl : lv_has ls nL lv)
    (hr : va_Run p Λ.1 e R s m args below meth c H locs kc ks 0 0 (F0 m pc ls st0) rest (QQ Λ rv C2 a) Λ.2.2.2.2)
    (k : V Λ (p, e, R, s, m, args, below, meth, c, nL, kc, ks, Q) C2 (pc + 3) lv (rv.toList ++ rest)) : W p Λ.1 e R s m args below meth c H locs kc ks Q (F0 m pc ls st0) := by
  intro T hT X
  obtain ⟨v, st₀, t, T', L, h0, X', hL, e1, e2, ⟨⟨hv, hP, hD⟩, hz, hk⟩, stp⟩ := hr T hT X
  cases hv
  rw [h0] at hz hk
  rw [← e1] at hP hz hk
  obtain ⟨t2, a1, b1⟩ := k T'.heap (locs ++ L) ls hP hD ⟨Nat.le_trans hS.1 hz, fun q h1 h2 => by rw [hk q (Nat.lt_of_lt_of_le h1 hS.1) h2]; exact hS.2.1 q h1 h2, fun q hq => by
      rcases List.mem_append.mp hq with h | h
      · exact hS.2.2 q h
      · exact hL q h⟩ hl T' rfl X'
  exact ⟨t2, stp t2 a1, b1⟩
section CALLS
variable {Λ : Lk} {κ : Kx} {R0 : Room} {cc : ByteArray} {Ts : List Cond} {own : String} {nL0 : Nat} {C C2 : Mem} {pc : Nat} {lv : Lvs} {st rest : List Value}
theorem v_callV (hC : Ok Λ R0 cc Ts own nL0 κ) {y : MethodName} {ws ws' : List Cond} {rm : Room} {As : List Value} {rv : Option Value} {bytes : ByteArray} {maxL index : Nat} {ret : Option FieldType} {cn : vw_C} {ci : Nat} {fs : List Value} (n r : Nat) (hM : Con Λ y ws rm (rf Λ r :: As) C rv C2) (hr : r < nR) (he : C r = .inr (ci, fs)) (hc : vwCl[ci]? = some cn) (hG : GoodIn Ts (wsV own index cn.1 y ws)) (hw : ws = Cond.code y bytes maxL ret :: ws') (hrc : rm.cells = 0) (hrs : rm.slots = 0)
    (hd : y.cls = cn.1 ∧ y.cls ≠ "java/lang/invoke/MethodHandle" ∧ y.cls ≠ "java/lang/invoke/VarHandle" ∧ (parseMethodDescriptor y.desc).map (fun d => d.parameters.length) = some n) (hR : rm.frames + 1 ≤ R0.frames ∧ 8 + (maxL + 11) + rm.locals ≤ R0.locals) (hn : As.length = n) (hs : st = As.reverse ++ rf Λ r :: rest) (hro : (rest.map fun v => v.category).sum ≤ 8) (hdg : decode cc pc = .ok (.invokevirtual index, 3))
    (k : V Λ κ C2 (pc + 3) lv (rv.toList ++ rest)) : V Λ κ C pc lv st := by
  subst hs
  obtain ⟨p, e, R, s, m, args, below, meth, c, nL, kc, ks', Q⟩ := κ
  obtain ⟨S, rfl, rfl, hK, hN, hkc, hks⟩ := hC
  intro H locs ls hP hD hS hl
  refine v_back hS hl (va_runV (As := As) (rest := rest) S hM (cwV n S.2.2.2.2 hG hw hrc hrs hd hR) ⟨Hld.blind, va_recv hK hP hc (q0 := r) (by rw [wl_get hr, he]), fun U hU hW => ⟨rfl, by rw [hU]; exact hP, hD, va_K.moved hW.alike hK, nst_warm hW hN⟩⟩ rfl hn hl.1 rfl (lv_room hro) hdg ⟨hkc, hks⟩) k
theorem v_callS (hC : Ok Λ R0 cc Ts own nL0 κ) {y : MethodName} {ws ws' : List Cond} {rm : Room} {As : List Value} {rv : Option Value} {bytes : ByteArray} {maxL index : Nat} {ret : Option FieldType} (n : Nat) (hM : Con Λ y ws rm As C rv C2) (hG : GoodIn Ts (va_wsS own index y ws)) (hw : ws = Cond.code y bytes maxL ret :: ws') (hrc : rm.cells = 0) (hrs : rm.slots = 0)
    (hd : y.cls ≠ "java/lang/invoke/MethodHandle" ∧ y.cls ≠ "java/lang/invoke/VarHandle" ∧ (parseMethodDescriptor y.desc).map (fun d => d.parameters.length) = some n) (hR : rm.frames + 1 ≤ R0.frames ∧ 8 + (maxL + 11) + rm.locals ≤ R0.locals) (hn : As.length = n) (hs : st = As.reverse ++ rest) (hro : (rest.map fun v => v.category).sum ≤ 8) (hdg : decode cc pc = .ok (.invokestatic index, 3))
    (k : V Λ κ C2 (pc + 3) lv (rv.toList ++ rest)) : V Λ κ C pc lv st := by
  subst hs
  obtain ⟨p, e, R, s, m, args, below, meth, c, nL, kc, ks', Q⟩ := κ
  obtain ⟨S, rfl, rfl, hK, hN, hkc, hks⟩ := hC
  intro H locs ls hP hD hS hl
  refine v_back hS hl (va_runS (As := As) (rest := rest) S hM (va_cwS n S.2.2.2.2 hG hw hrc hrs hd hR) ⟨Hld.blind, fun U hU hW => ⟨rfl, by rw [hU]; exact hP, hD, va_K.moved hW.alike hK, nst_warm hW hN⟩⟩ rfl hn hl.1 rfl (lv_room hro) hdg ⟨hkc, hks⟩) k
theorem v_callN (hC : Ok Λ R0 cc Ts own nL0 κ) {y : MethodName} {ws ws' : List Cond} {rm : Room} {As : List Value} {rv : Option Value} {bytes : ByteArray} {maxL index : Nat} {ret : Option FieldType} {host : String} (n : Nat) (hM : Con Λ y ws rm As C rv C2) (hG : GoodIn Ts ws) (hw : ws = Cond.code y bytes maxL ret :: ws') (hrc : rm.cells = 0) (hrs : rm.slots = 0) (hnw : Cond.methodLinkNest own index y host ∈ nst) (hini : Cond.initialized y.cls ∈ Ts) (hst : Cond.static y ∈ Ts)
    (hd : y.cls ≠ "java/lang/invoke/MethodHandle" ∧ y.cls ≠ "java/lang/invoke/VarHandle" ∧ (parseMethodDescriptor y.desc).map (fun d => d.parameters.length) = some n) (hR : rm.frames + 1 ≤ R0.frames ∧ 8 + (maxL + 11) + rm.locals ≤ R0.locals) (hn : As.length = n) (hs : st = As.reverse ++ rest) (hro : (rest.map fun v => v.category).sum ≤ 8) (hdg : decode cc pc = .ok (.invokestatic index, 3))
    (k : V Λ κ C2 (pc + 3) lv (rv.toList ++ rest)) : V Λ κ C pc lv st := by
  subst hs
  obtain ⟨p, e, R, s, m, args, below, meth, c, nL, kc, ks', Q⟩ := κ
  obtain ⟨S, rfl, rfl, hK, hN, hkc, hks⟩ := hC
  intro H locs ls hP hD hS hl
  refine v_back hS hl (va_runSN (As := As) (rest := rest) S hM ⟨va_cnB n S.2.2.2.2 hG hw hrc hrs (hN _ hnw) (S.2.2.2.2 _ hini) hd hR, S.2.2.2.2 _ hst, trivial⟩ ⟨Hld.blind, fun U hU hW => ⟨rfl, by rw [hU]; exact hP, hD, va_K.moved hW.alike hK, nst_warm hW hN⟩⟩ rfl hn hl.1 rfl (lv_room hro) hdg ⟨hkc, hks⟩) k
-- ends
theorem v_iret (hC : Ok Λ R0 cc Ts own nL0 κ) {x : Int32} {rv : Option Value} (hR : Rt Λ (some .int) rv C2 κ) (hv : rv = some (.int x)) (hm : C2 = C) (hdg : decode cc pc = .ok (.ireturn, 1)) : V Λ κ C pc lv [.int x] := by
  subst hv hm
  obtain ⟨p, e, R, s, m, args, below, meth, c, nL, kc, ks', Q⟩ := κ
  obtain ⟨rfl, hr, hlk⟩ := hR
  intro H locs ls hP hD hS hl
  exact W.iret (v := x) hC.1.1 hC.1.2.1 hr (fun t ht hW => ⟨⟨rfl, by rw [ht]; exact hP, hD⟩, hS.F ht⟩) hS.2.2 hdg hlk
theorem v_zret (hC : Ok Λ R0 cc Ts own nL0 κ) {x : Int32} {rv : Option Value} (hR : Rt Λ (some .boolean) rv C2 κ) (hv : rv = some (.int x)) (hm : C2 = C) (hz : narrow .boolean (.int x) = .int x) (hdg : decode cc pc = .ok (.ireturn, 1)) : V Λ κ C pc lv [.int x] := by
  subst hv hm
  obtain ⟨p, e, R, s, m, args, below, meth, c, nL, kc, ks', Q⟩ := κ
  obtain ⟨rfl, hr, hlk⟩ := hR
  intro H locs ls hP hD hS hl
  exact W.zret (v := x) hC.1.1 hC.1.2.1 hr hz (fun t ht hW => ⟨⟨rfl, by rw [ht]; exact hP, hD⟩, hS.F ht⟩) hS.2.2 hdg hlk
theorem v_lret (hC : Ok Λ R0 cc Ts own nL0 κ) {x : Int64} {rv : Option Value} (hR : Rt Λ (some .long) rv C2 κ) (hv : rv = some (.long x)) (hm : C2 = C) (hdg : decode cc pc = .ok (.lreturn, 1)) : V Λ κ C pc lv [.long x] := by
  subst hv hm
  obtain ⟨p, e, R, s, m, args, below, meth, c, nL, kc, ks', Q⟩ := κ
  obtain ⟨rfl, hr, hlk⟩ := hR
  intro H locs ls hP hD hS hl
  exact W.lret (v := x) hC.1.1 hC.1.2.1 hr (fun t ht hW => ⟨⟨rfl, by rw [ht]; exact hP, hD⟩, hS.F ht⟩) hS.2.2 hdg hlk
theorem v_vret (hC : Ok Λ R0 cc Ts own nL0 κ) {rv : Option Value} (hR : Rt Λ none rv C2 κ) (hv : rv = none) (hm : C2 = C) (hdg : decode cc pc = .ok (.return_, 1)) : V Λ κ C pc lv [] := by
  subst hv hm
  obtain ⟨p, e, R, s, m, args, below, meth, c, nL, kc, ks', Q⟩ := κ
  obtain ⟨rfl, hr, hlk⟩ := hR
  intro H locs ls hP hD hS hl
  exact W.vret hC.1.1 hC.1.2.1 hr (fun t ht hW => ⟨⟨rfl, by rw [ht]; exact hP, hD⟩, hS.F ht⟩) hS.2.2 hdg hlk
end CALLS
section CALLS2
variable {Λ : Lk} {κ : Kx} {R0 : Room} {cc : ByteArray} {Ts : List Cond} {own : String} {nL0 : Nat} {C C2 : Mem} {pc : Nat} {lv : Lvs} {st rest : List Value}
theorem v_callVr (hC : Ok Λ R0 cc Ts own nL0 κ) {y : MethodName} {ws ws' : List Cond} {rm : Room} {As : List Value} {v : Value} {bytes : ByteArray} {maxL index : Nat} {ret : Option FieldType} {cn : vw_C} {ci : Nat} {fs : List Value} (n r : Nat) (hM : Con Λ y ws rm (rf Λ r :: As) C (some v) C2) (hr : r < nR) (he : C r = .inr (ci, fs)) (hc : vwCl[ci]? = some cn) (hG : GoodIn Ts (wsV own index cn.1 y ws)) (hw : ws = Cond.code y bytes maxL ret :: ws') (hrc : rm.cells = 0) (hrs : rm.slots = 0)
    (hd : y.cls = cn.1 ∧ y.cls ≠ "java/lang/invoke/MethodHandle" ∧ y.cls ≠ "java/lang/invoke/VarHandle" ∧ (parseMethodDescriptor y.desc).map (fun d => d.parameters.length) = some n) (hR : rm.frames + 1 ≤ R0.frames ∧ 8 + (maxL + 11) + rm.locals ≤ R0.locals) (hn : As.length = n) (hs : st = As.reverse ++ rf Λ r :: rest) (hro : (rest.map fun v => v.category).sum ≤ 8) (hdg : decode cc pc = .ok (.invokevirtual index, 3))
    (k : V Λ κ C2 (pc + 3) lv (v :: rest)) : V Λ κ C pc lv st := v_callV hC n r hM hr he hc hG hw hrc hrs hd hR hn hs hro hdg k
theorem v_callVv (hC : Ok Λ R0 cc Ts own nL0 κ) {y : MethodName} {ws ws' : List Cond} {rm : Room} {As : List Value} {bytes : ByteArray} {maxL index : Nat} {ret : Option FieldType} {cn : vw_C} {ci : Nat} {fs : List Value} (n r : Nat) (hM : Con Λ y ws rm (rf Λ r :: As) C none C2) (hr : r < nR) (he : C r = .inr (ci, fs)) (hc : vwCl[ci]? = some cn) (hG : GoodIn Ts (wsV own index cn.1 y ws)) (hw : ws = Cond.code y bytes maxL ret :: ws') (hrc : rm.cells = 0) (hrs : rm.slots = 0)
    (hd : y.cls = cn.1 ∧ y.cls ≠ "java/lang/invoke/MethodHandle" ∧ y.cls ≠ "java/lang/invoke/VarHandle" ∧ (parseMethodDescriptor y.desc).map (fun d => d.parameters.length) = some n) (hR : rm.frames + 1 ≤ R0.frames ∧ 8 + (maxL + 11) + rm.locals ≤ R0.locals) (hn : As.length = n) (hs : st = As.reverse ++ rf Λ r :: rest) (hro : (rest.map fun v => v.category).sum ≤ 8) (hdg : decode cc pc = .ok (.invokevirtual index, 3))
    (k : V Λ κ C2 (pc + 3) lv rest) : V Λ κ C pc lv st := v_callV hC n r hM hr he hc hG hw hrc hrs hd hR hn hs hro hdg k
theorem v_callSr (hC : Ok Λ R0 cc Ts own nL0 κ) {y : MethodName} {ws ws' : List Cond} {rm : Room} {As : List Value} {v : Value} {bytes : ByteArray} {maxL index : Nat} {ret : Option FieldType} (n : Nat) (hM : Con Λ y ws rm As C (some v) C2) (hG : GoodIn Ts (va_wsS own index y ws)) (hw : ws = Cond.code y bytes maxL ret :: ws') (hrc : rm.cells = 0) (hrs : rm.slots = 0)
    (hd : y.cls ≠ "java/lang/invoke/MethodHandle" ∧ y.cls ≠ "java/lang/invoke/VarHandle" ∧ (parseMethodDescriptor y.desc).map (fun d => d.parameters.length) = some n) (hR : rm.frames + 1 ≤ R0.frames ∧ 8 + (maxL + 11) + rm.locals ≤ R0.locals) (hn : As.length = n) (hs : st = As.reverse ++ rest) (hro : (rest.map fun v => v.category).sum ≤ 8) (hdg : decode cc pc = .ok (.invokestatic index, 3))
    (k : V Λ κ C2 (pc + 3) lv (v :: rest)) : V Λ κ C pc lv st := v_callS hC n hM hG hw hrc hrs hd hR hn hs hro hdg k
theorem v_callSv (hC : Ok Λ R0 cc Ts own nL0 κ) {y : MethodName} {ws ws' : List Cond} {rm : Room} {As : List Value} {bytes : ByteArray} {maxL index : Nat} {ret : Option FieldType} (n : Nat) (hM : Con Λ y ws rm As C none C2) (hG : GoodIn Ts (va_wsS own index y ws)) (hw : ws = Cond.code y bytes maxL ret :: ws') (hrc : rm.cells = 0) (hrs : rm.slots = 0)
    (hd : y.cls ≠ "java/lang/invoke/MethodHandle" ∧ y.cls ≠ "java/lang/invoke/VarHandle" ∧ (parseMethodDescriptor y.desc).map (fun d => d.parameters.length) = some n) (hR : rm.frames + 1 ≤ R0.frames ∧ 8 + (maxL + 11) + rm.locals ≤ R0.locals) (hn : As.length = n) (hs : st = As.reverse ++ rest) (hro : (rest.map fun v => v.category).sum ≤ 8) (hdg : decode cc pc = .ok (.invokestatic index, 3))
    (k : V Λ κ C2 (pc + 3) lv rest) : V Λ κ C pc lv st := v_callS hC n hM hG hw hrc hrs hd hR hn hs hro hdg k
theorem v_callNr (hC : Ok Λ R0 cc Ts own nL0 κ) {y : MethodName} {ws ws' : List Cond} {rm : Room} {As : List Value} {v : Value} {bytes : ByteArray} {maxL index : Nat} {ret : Option FieldType} {host : String} (n : Nat) (hM : Con Λ y ws rm As C (some v) C2) (hG : GoodIn Ts ws) (hw : ws = Cond.code y bytes maxL ret :: ws') (hrc : rm.cells = 0) (hrs : rm.slots = 0) (hnw : Cond.methodLinkNest own index y host ∈ nst) (hini : Cond.initialized y.cls ∈ Ts) (hst : Cond.static y ∈ Ts)
    (hd : y.cls ≠ "java/lang/invoke/MethodHandle" ∧ y.cls ≠ "java/lang/invoke/VarHandle" ∧ (parseMethodDescriptor y.desc).map (fun d => d.parameters.length) = some n) (hR : rm.frames + 1 ≤ R0.frames ∧ 8 + (maxL + 11) + rm.locals ≤ R0.locals) (hn : As.length = n) (hs : st = As.reverse ++ rest) (hro : (rest.map fun v => v.category).sum ≤ 8) (hdg : decode cc pc = .ok (.invokestatic index, 3))
    (k : V Λ κ C2 (pc + 3) lv (v :: rest)) : V Λ κ C pc lv st := v_callN hC n hM hG hw hrc hrs hnw hini hst hd hR hn hs hro hdg k
theorem v_callNv (hC : Ok Λ R0 cc Ts own nL0 κ) {y : MethodName} {ws ws' : List Cond} {rm : Room} {As : List Value} {bytes : ByteArray} {maxL index : Nat} {ret : Option FieldType} {host : String} (n : Nat) (hM : Con Λ y ws rm As C none C2) (hG : GoodIn Ts ws) (hw : ws = Cond.code y bytes maxL ret :: ws') (hrc : rm.cells = 0) (hrs : rm.slots = 0) (hnw : Cond.methodLinkNest own index y host ∈ nst) (hini : Cond.initialized y.cls ∈ Ts) (hst : Cond.static y ∈ Ts)
    (hd : y.cls ≠ "java/lang/invoke/MethodHandle" ∧ y.cls ≠ "java/lang/invoke/VarHandle" ∧ (parseMethodDescriptor y.desc).map (fun d => d.parameters.length) = some n) (hR : rm.frames + 1 ≤ R0.frames ∧ 8 + (maxL + 11) + rm.locals ≤ R0.locals) (hn : As.length = n) (hs : st = As.reverse ++ rest) (hro : (rest.map fun v => v.category).sum ≤ 8) (hdg : decode cc pc = .ok (.invokestatic index, 3))
    (k : V Λ κ C2 (pc + 3) lv rest) : V Λ κ C pc lv st := v_callN hC n hM hG hw hrc hrs hnw hini hst hd hR hn hs hro hdg k
end CALLS2
def bI (b : Bool) : Int32 := if b then 1 else 0
theorem nar_b (b : Bool) : narrow .boolean (.int (bI b)) = .int (bI b) := by cases b <;> rfl
theorem bI_eq0 {b : Bool} : bI b = 0 ↔ b = false := by cases b <;> decide
theorem bI_inj {a b : Bool} : bI a = bI b ↔ a = b := by cases a <;> cases b <;> decide
theorem i32_ne {x k : Int32} {n : Int} (h : ¬ x = k) (hk : k.toInt = n) : x.toInt ≠ n := fun e => h (Int32.toInt_inj.mp (e.trans hk.symm))
section BR2
variable {Λ : Lk} {κ : Kx} {R0 : Room} {cc : ByteArray} {Ts : List Cond} {own : String} {nL0 : Nat} {C : Mem} {pc : Nat} {lv : Lvs} {st : List Value}
theorem v_beq (hC : Ok Λ R0 cc Ts own nL0 κ) {b : Bool} {off : Int} {tgt : Nat} (hdg : decode cc pc = .ok (.ifCond .eq off, 3)) (ht : (pc : Int) + off = (tgt : Int)) (kt : b = false → V Λ κ C tgt lv st) (kf : b = true → V Λ κ C (pc + 3) lv st) : V Λ κ C pc lv (.int (bI b) :: st) :=
  v_if_eq hC hdg ht (fun h => kt (bI_eq0.mp h)) (fun h => kf (by cases b with | true => rfl | false => exact absurd rfl h))
theorem v_bne (hC : Ok Λ R0 cc Ts own nL0 κ) {b : Bool} {off : Int} {tgt : Nat} (hdg : decode cc pc = .ok (.ifCond .ne off, 3)) (ht : (pc : Int) + off = (tgt : Int)) (kt : b = true → V Λ κ C tgt lv st) (kf : b = false → V Λ κ C (pc + 3) lv st) : V Λ κ C pc lv (.int (bI b) :: st) :=
  v_if_ne hC hdg ht (fun h => kt (by cases b with | true => rfl | false => exact absurd rfl h)) (fun h => kf (bI_eq0.mp h))
theorem v_beqT (hC : Ok Λ R0 cc Ts own nL0 κ) {b : Bool} {off : Int} {tgt : Nat} (hdg : decode cc pc = .ok (.ifCond .eq off, 3)) (ht : (pc : Int) + off = (tgt : Int)) (h : b = false) (kt : V Λ κ C tgt lv st) : V Λ κ C pc lv (.int (bI b) :: st) := v_beq hC hdg ht (fun _ => kt) (fun g => absurd (h.symm.trans g) (by decide))
theorem v_beqF (hC : Ok Λ R0 cc Ts own nL0 κ) {b : Bool} {off : Int} {tgt : Nat} (hdg : decode cc pc = .ok (.ifCond .eq off, 3)) (ht : (pc : Int) + off = (tgt : Int)) (h : b = true) (kf : V Λ κ C (pc + 3) lv st) : V Λ κ C pc lv (.int (bI b) :: st) := v_beq hC hdg ht (fun g => absurd (h.symm.trans g) (by decide)) (fun _ => kf)
theorem v_bneT (hC : Ok Λ R0 cc Ts own nL0 κ) {b : Bool} {off : Int} {tgt : Nat} (hdg : decode cc pc = .ok (.ifCond .ne off, 3)) (ht : (pc : Int) + off = (tgt : Int)) (h : b = true) (kt : V Λ κ C tgt lv st) : V Λ κ C pc lv (.int (bI b) :: st) := v_bne hC hdg ht (fun _ => kt) (fun g => absurd (h.symm.trans g) (by decide))
theorem v_bneF (hC : Ok Λ R0 cc Ts own nL0 κ) {b : Bool} {off : Int} {tgt : Nat} (hdg : decode cc pc = .ok (.ifCond .ne off, 3)) (ht : (pc : Int) + off = (tgt : Int)) (h : b = false) (kf : V Λ κ C (pc + 3) lv st) : V Λ κ C pc lv (.int (bI b) :: st) := v_bne hC hdg ht (fun g => absurd (h.symm.trans g) (by decide)) (fun _ => kf)
theorem v_ceq (hC : Ok Λ R0 cc Ts own nL0 κ) {a b : Bool} {x y : Int32} {off : Int} {tgt : Nat} (hdg : decode cc pc = .ok (.if_icmp .eq off, 3)) (ht : (pc : Int) + off = (tgt : Int)) (hx : x = bI a) (hy : y = bI b) (kt : a = b → V Λ κ C tgt lv st) (kf : ¬ a = b → V Λ κ C (pc + 3) lv st) : V Λ κ C pc lv (.int y :: .int x :: st) := by
  subst hx hy
  exact v_icmp_eq hC hdg ht (fun h => kt (bI_inj.mp h)) (fun h => kf (fun g => h (bI_inj.mpr g)))
theorem v_cne (hC : Ok Λ R0 cc Ts own nL0 κ) {a b : Bool} {x y : Int32} {off : Int} {tgt : Nat} (hdg : decode cc pc = .ok (.if_icmp .ne off, 3)) (ht : (pc : Int) + off = (tgt : Int)) (hx : x = bI a) (hy : y = bI b) (kt : ¬ a = b → V Λ κ C tgt lv st) (kf : a = b → V Λ κ C (pc + 3) lv st) : V Λ κ C pc lv (.int y :: .int x :: st) := by
  subst hx hy
  exact v_icmp_ne hC hdg ht (fun h => kt (fun g => h (bI_inj.mpr g))) (fun h => kf (bI_inj.mp h))
theorem v_neq (hC : Ok Λ R0 cc Ts own nL0 κ) {a b : Nat} {x y : Int32} {off : Int} {tgt : Nat} (hdg : decode cc pc = .ok (.if_icmp .eq off, 3)) (ht : (pc : Int) + off = (tgt : Int)) (hx : x = nI a) (hy : y = nI b) (ha : a < 2 ^ 31) (hb : b < 2 ^ 31) (kt : a = b → V Λ κ C tgt lv st) (kf : a ≠ b → V Λ κ C (pc + 3) lv st) : V Λ κ C pc lv (.int y :: .int x :: st) := by
  subst hx hy
  exact v_icmp_eq hC hdg ht (fun h => kt ((nI_eq ha hb).mp h)) (fun h => kf (fun g => h ((nI_eq ha hb).mpr g)))
theorem v_nne (hC : Ok Λ R0 cc Ts own nL0 κ) {a b : Nat} {x y : Int32} {off : Int} {tgt : Nat} (hdg : decode cc pc = .ok (.if_icmp .ne off, 3)) (ht : (pc : Int) + off = (tgt : Int)) (hx : x = nI a) (hy : y = nI b) (ha : a < 2 ^ 31) (hb : b < 2 ^ 31) (kt : a ≠ b → V Λ κ C tgt lv st) (kf : a = b → V Λ κ C (pc + 3) lv st) : V Λ κ C pc lv (.int y :: .int x :: st) := by
  subst hx hy
  exact v_icmp_ne hC hdg ht (fun h => kt (fun g => h ((nI_eq ha hb).mpr g))) (fun h => kf ((nI_eq ha hb).mp h))
theorem v_nlt (hC : Ok Λ R0 cc Ts own nL0 κ) {a b : Nat} {x y : Int32} {off : Int} {tgt : Nat} (hdg : decode cc pc = .ok (.if_icmp .lt off, 3)) (ht : (pc : Int) + off = (tgt : Int)) (hx : x = nI a) (hy : y = nI b) (ha : a < 2 ^ 31) (hb : b < 2 ^ 31) (kt : a < b → V Λ κ C tgt lv st) (kf : b ≤ a → V Λ κ C (pc + 3) lv st) : V Λ κ C pc lv (.int y :: .int x :: st) := by
  subst hx hy
  exact v_icmp_lt hC hdg ht (fun h => kt ((nI_ltI ha hb).mp h)) (fun h => kf (Nat.le_of_not_lt (fun g => h ((nI_ltI ha hb).mpr g))))
theorem v_nge (hC : Ok Λ R0 cc Ts own nL0 κ) {a b : Nat} {x y : Int32} {off : Int} {tgt : Nat} (hdg : decode cc pc = .ok (.if_icmp .ge off, 3)) (ht : (pc : Int) + off = (tgt : Int)) (hx : x = nI a) (hy : y = nI b) (ha : a < 2 ^ 31) (hb : b < 2 ^ 31) (kt : b ≤ a → V Λ κ C tgt lv st) (kf : a < b → V Λ κ C (pc + 3) lv st) : V Λ κ C pc lv (.int y :: .int x :: st) := by
  subst hx hy
  exact v_icmp_ge hC hdg ht (fun h => kt ((nI_leI hb ha).mp h)) (fun h => kf (Nat.lt_of_not_le (fun g => h ((nI_leI hb ha).mpr g))))
theorem v_ngt (hC : Ok Λ R0 cc Ts own nL0 κ) {a b : Nat} {x y : Int32} {off : Int} {tgt : Nat} (hdg : decode cc pc = .ok (.if_icmp .gt off, 3)) (ht : (pc : Int) + off = (tgt : Int)) (hx : x = nI a) (hy : y = nI b) (ha : a < 2 ^ 31) (hb : b < 2 ^ 31) (kt : b < a → V Λ κ C tgt lv st) (kf : a ≤ b → V Λ κ C (pc + 3) lv st) : V Λ κ C pc lv (.int y :: .int x :: st) := by
  subst hx hy
  exact v_icmp_gt hC hdg ht (fun h => kt ((nI_ltI hb ha).mp h)) (fun h => kf (Nat.le_of_not_lt (fun g => h ((nI_ltI hb ha).mpr g))))
theorem v_nle (hC : Ok Λ R0 cc Ts own nL0 κ) {a b : Nat} {x y : Int32} {off : Int} {tgt : Nat} (hdg : decode cc pc = .ok (.if_icmp .le off, 3)) (ht : (pc : Int) + off = (tgt : Int)) (hx : x = nI a) (hy : y = nI b) (ha : a < 2 ^ 31) (hb : b < 2 ^ 31) (kt : a ≤ b → V Λ κ C tgt lv st) (kf : b < a → V Λ κ C (pc + 3) lv st) : V Λ κ C pc lv (.int y :: .int x :: st) := by
  subst hx hy
  exact v_icmp_le hC hdg ht (fun h => kt ((nI_leI ha hb).mp h)) (fun h => kf (Nat.lt_of_not_le (fun g => h ((nI_leI ha hb).mpr g))))
theorem v_zeq (hC : Ok Λ R0 cc Ts own nL0 κ) {a : Nat} {x : Int32} {off : Int} {tgt : Nat} (hdg : decode cc pc = .ok (.ifCond .eq off, 3)) (ht : (pc : Int) + off = (tgt : Int)) (hx : x = nI a) (ha : a < 2 ^ 31) (kt : a = 0 → V Λ κ C tgt lv st) (kf : a ≠ 0 → V Λ κ C (pc + 3) lv st) : V Λ κ C pc lv (.int x :: st) := by
  subst hx
  have hb : (0 : Nat) < 2 ^ 31 := by decide
  have e1 := nI_eq ha hb
  have e2 := nI_ltI ha hb
  have e3 := nI_leI ha hb
  have e4 := nI_ltI hb ha
  have e5 := nI_leI hb ha
  rw [nI_0] at e1 e2 e3 e4 e5
  exact v_if_eq hC hdg ht (fun h => kt (by simp only [e1, e2, e3, e4, e5] at h; first | exact h | omega | trivial)) (fun h => kf (by simp only [e1, e2, e3, e4, e5] at h; first | exact h | omega | trivial))
theorem v_zne (hC : Ok Λ R0 cc Ts own nL0 κ) {a : Nat} {x : Int32} {off : Int} {tgt : Nat} (hdg : decode cc pc = .ok (.ifCond .ne off, 3)) (ht : (pc : Int) + off = (tgt : Int)) (hx : x = nI a) (ha : a < 2 ^ 31) (kt : a ≠ 0 → V Λ κ C tgt lv st) (kf : a = 0 → V Λ κ C (pc + 3) lv st) : V Λ κ C pc lv (.int x :: st) := by
  subst hx
  have hb : (0 : Nat) < 2 ^ 31 := by decide
  have e1 := nI_eq ha hb
  have e2 := nI_ltI ha hb
  have e3 := nI_leI ha hb
  have e4 := nI_ltI hb ha
  have e5 := nI_leI hb ha
  rw [nI_0] at e1 e2 e3 e4 e5
  exact v_if_ne hC hdg ht (fun h => kt (by simp only [e1, e2, e3, e4, e5] at h; first | exact h | omega | trivial)) (fun h => kf (by simp only [e1, e2, e3, e4, e5] at h; first | exact h | omega | trivial))
theorem v_zlt (hC : Ok Λ R0 cc Ts own nL0 κ) {a : Nat} {x : Int32} {off : Int} {tgt : Nat} (hdg : decode cc pc = .ok (.ifCond .lt off, 3)) (ht : (pc : Int) + off = (tgt : Int)) (hx : x = nI a) (ha : a < 2 ^ 31) (kt : False → V Λ κ C tgt lv st) (kf : True → V Λ κ C (pc + 3) lv st) : V Λ κ C pc lv (.int x :: st) := by
  subst hx
  have hb : (0 : Nat) < 2 ^ 31 := by decide
  have e1 := nI_eq ha hb
  have e2 := nI_ltI ha hb
  have e3 := nI_leI ha hb
  have e4 := nI_ltI hb ha
  have e5 := nI_leI hb ha
  rw [nI_0] at e1 e2 e3 e4 e5
  exact v_if_lt hC hdg ht (fun h => kt (by simp only [e1, e2, e3, e4, e5] at h; first | exact h | omega | trivial)) (fun h => kf (by simp only [e1, e2, e3, e4, e5] at h; first | exact h | omega | trivial))
theorem v_zge (hC : Ok Λ R0 cc Ts own nL0 κ) {a : Nat} {x : Int32} {off : Int} {tgt : Nat} (hdg : decode cc pc = .ok (.ifCond .ge off, 3)) (ht : (pc : Int) + off = (tgt : Int)) (hx : x = nI a) (ha : a < 2 ^ 31) (kt : True → V Λ κ C tgt lv st) (kf : False → V Λ κ C (pc + 3) lv st) : V Λ κ C pc lv (.int x :: st) := by
  subst hx
  have hb : (0 : Nat) < 2 ^ 31 := by decide
  have e1 := nI_eq ha hb
  have e2 := nI_ltI ha hb
  have e3 := nI_leI ha hb
  have e4 := nI_ltI hb ha
  have e5 := nI_leI hb ha
  rw [nI_0] at e1 e2 e3 e4 e5
  exact v_if_ge hC hdg ht (fun h => kt (by simp only [e1, e2, e3, e4, e5] at h; first | exact h | omega | trivial)) (fun h => kf (by simp only [e1, e2, e3, e4, e5] at h; first | exact h | omega | trivial))
theorem v_zgt (hC : Ok Λ R0 cc Ts own nL0 κ) {a : Nat} {x : Int32} {off : Int} {tgt : Nat} (hdg : decode cc pc = .ok (.ifCond .gt off, 3)) (ht : (pc : Int) + off = (tgt : Int)) (hx : x = nI a) (ha : a < 2 ^ 31) (kt : 0 < a → V Λ κ C tgt lv st) (kf : a = 0 → V Λ κ C (pc + 3) lv st) : V Λ κ C pc lv (.int x :: st) := by
  subst hx
  have hb : (0 : Nat) < 2 ^ 31 := by decide
  have e1 := nI_eq ha hb
  have e2 := nI_ltI ha hb
  have e3 := nI_leI ha hb
  have e4 := nI_ltI hb ha
  have e5 := nI_leI hb ha
  rw [nI_0] at e1 e2 e3 e4 e5
  exact v_if_gt hC hdg ht (fun h => kt (by simp only [e1, e2, e3, e4, e5] at h; first | exact h | omega | trivial)) (fun h => kf (by simp only [e1, e2, e3, e4, e5] at h; first | exact h | omega | trivial))
theorem v_zle (hC : Ok Λ R0 cc Ts own nL0 κ) {a : Nat} {x : Int32} {off : Int} {tgt : Nat} (hdg : decode cc pc = .ok (.ifCond .le off, 3)) (ht : (pc : Int) + off = (tgt : Int)) (hx : x = nI a) (ha : a < 2 ^ 31) (kt : a = 0 → V Λ κ C tgt lv st) (kf : 0 < a → V Λ κ C (pc + 3) lv st) : V Λ κ C pc lv (.int x :: st) := by
  subst hx
  have hb : (0 : Nat) < 2 ^ 31 := by decide
  have e1 := nI_eq ha hb
  have e2 := nI_ltI ha hb
  have e3 := nI_leI ha hb
  have e4 := nI_ltI hb ha
  have e5 := nI_leI hb ha
  rw [nI_0] at e1 e2 e3 e4 e5
  exact v_if_le hC hdg ht (fun h => kt (by simp only [e1, e2, e3, e4, e5] at h; first | exact h | omega | trivial)) (fun h => kf (by simp only [e1, e2, e3, e4, e5] at h; first | exact h | omega | trivial))
theorem v_tabIn (hC : Ok Λ R0 cc Ts own nL0 κ) {dflt lo hi : Int} {offs : Array Int} {len : Nat} {x : Int32} {off : Int} {tgt : Nat} (hdg : decode cc pc = .ok (.tableswitch dflt lo hi offs, len)) (h1 : ¬ x.toInt < lo) (h2 : ¬ hi < x.toInt) (ho : offs[(x.toInt - lo).toNat]? = some off) (ht : (pc : Int) + off = (tgt : Int)) (k : V Λ κ C tgt lv st) : V Λ κ C pc lv (.int x :: st) := by
  obtain ⟨p, e, R, s, m, args, below, meth, c, nL, kc, ks', Q⟩ := κ
  exact fun H locs ls hP hD hS hl => lv_tableIn hC.1.1 hC.1.2.1 hdg h1 h2 ho ht (k H locs ls hP hD hS hl)
theorem v_tabOut (hC : Ok Λ R0 cc Ts own nL0 κ) {dflt lo hi : Int} {offs : Array Int} {len : Nat} {x : Int32} {tgt : Nat} (hdg : decode cc pc = .ok (.tableswitch dflt lo hi offs, len)) (h : x.toInt < lo ∨ hi < x.toInt) (ht : (pc : Int) + dflt = (tgt : Int)) (k : V Λ κ C tgt lv st) : V Λ κ C pc lv (.int x :: st) := by
  obtain ⟨p, e, R, s, m, args, below, meth, c, nL, kc, ks', Q⟩ := κ
  exact fun H locs ls hP hD hS hl => lv_tableOut hC.1.1 hC.1.2.1 hdg h ht (k H locs ls hP hD hS hl)
theorem v_look (hC : Ok Λ R0 cc Ts own nL0 κ) {dflt : Int} {ps : Array (Int × Int)} {len : Nat} {x : Int32} {off : Int} {tgt : Nat} (hdg : decode cc pc = .ok (.lookupswitch dflt ps, len)) (hp : (ps.toList.zip (ps.toList.drop 1)).all (fun (a, next) => a.1 < next.1) = true) (ho : Op.lookupswitch.offset ps.toList dflt x.toInt = off) (ht : (pc : Int) + off = (tgt : Int)) (k : V Λ κ C tgt lv st) : V Λ κ C pc lv (.int x :: st) := by
  obtain ⟨p, e, R, s, m, args, below, meth, c, nL, kc, ks', Q⟩ := κ
  exact fun H locs ls hP hD hS hl => lv_lookup hC.1.1 hC.1.2.1 hdg hp ho ht (k H locs ls hP hD hS hl)
end BR2
