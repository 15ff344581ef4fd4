/-! The constructors: worlds are lists of cells, up to their order -/
theorem wd_nd {A : Nat → Prop} {ws : va_W} : va_D A ws ↔ (ws.map (fun q => q.1)).Nodup ∧ ∀ q ∈ ws, A q.1 := by
  constructor
  · intro h
    refine ⟨List.pairwise_iff_getElem.mpr (fun i j hi hj hij e => ?_), fun q hq => ?_⟩
    · rw [List.length_map] at hi hj
      rw [List.getElem_map, List.getElem_map] at e
      have := h.1 i j ws[i] ws[j] (List.getElem?_eq_getElem hi) (List.getElem?_eq_getElem hj) e
      omega
    · obtain ⟨i, hi⟩ := List.getElem?_of_mem hq
      exact h.2 i q hi
  · intro ⟨h1, h2⟩
    have key : ∀ (i j : Nat) (p q : Nat × va_E), i < j → ws[i]? = some p → ws[j]? = some q → p.1 ≠ q.1 := by
      intro i j p q hij hp hq e
      obtain ⟨hi, rfl⟩ := List.getElem?_eq_some_iff.mp hp
      obtain ⟨hj, rfl⟩ := List.getElem?_eq_some_iff.mp hq
      have := List.pairwise_iff_getElem.mp h1 i j (by rw [List.length_map]; exact hi) (by rw [List.length_map]; exact hj) hij
      rw [List.getElem_map, List.getElem_map] at this
      exact this e
    refine ⟨fun i j p q hp hq e => ?_, fun k q hk => h2 q (List.mem_of_getElem? hk)⟩
    rcases Nat.lt_trichotomy i j with h | h | h
    · exact absurd e (key i j p q h hp hq)
    · exact h
    · exact absurd e.symm (key j i q p h hq hp)
theorem wp_D {A : Nat → Prop} {ws ws' : va_W} (h : va_D A ws) (hp : ws.Perm ws') : va_D A ws' := by
  obtain ⟨h1, h2⟩ := wd_nd.mp h
  exact wd_nd.mpr ⟨(hp.map _).nodup h1, fun q hq => h2 q (hp.mem_iff.mpr hq)⟩
theorem wp_P {D : va_G} {cl : List vw_C} {ws ws' : va_W} {H : Heap} (h : va_P D cl ws H) (hp : ws.Perm ws') : va_P D cl ws' H := by
  intro k q hk
  obtain ⟨i, hi⟩ := List.getElem?_of_mem (hp.mem_iff.mpr (List.mem_of_getElem? hk))
  exact h i q hi
/-- what a constructor finds: its object, the tables -/
def Ini (D : va_G) (cy : Nat → ClassId) (ws : va_W) (sz : Nat) (U : State) : Prop := U.heap.size = sz ∧ va_P D vwCl ws U.heap ∧ va_D (fun _ => True) ws ∧ va_K D vwCl (tysOf cy) U ∧ va_AO RX0 U ∧ va_AO RX1 U
theorem Ini.blind {D : va_G} {cy : Nat → ClassId} {ws : va_W} {sz : Nat} {av : List Value} : FrameBlind (va_Pc av (Ini D cy ws sz)) := fun a U g mk q => by
  obtain ⟨h0, h1, h2, h3, h4, h5, h6⟩ := q
  have hv : U.vm.Alike (U.calling g mk a).vm := Vm.Alike.refl U.vm
  exact ⟨h0, h1, h2, h3, va_K.moved hv h4, va_AO.moved hv h5, va_AO.moved hv h6⟩
/-- a constructor's contract: out of the object (ci, fs) the cells W -/
def ConI {S : Type} (l : Launch) (D : va_G) (cy : Nat → ClassId) (y : MethodName) (ws : List Cond) (rm : Room) (ci : Nat) (fs : List Value) (W : Nat → S → va_W) (mc ms : Nat) : Prop :=
  ∀ h0 sz, Met l y ws rm (va_Pc [.ref h0] (Ini D cy [(h0, .inr (ci, fs))] sz)) (va_Qv (S := S) (fun _ => True) (fun a t => va_P D vwCl (W h0 a) t.heap ∧ va_D (va_A [(h0, .inr (ci, fs))] sz) (W h0 a)) (va_A [(h0, .inr (ci, fs))] sz)) mc ms (va_A [(h0, .inr (ci, fs))] sz)
theorem coni_start {S : Type} {l : Launch} {D : va_G} {cy : Nat → ClassId} {y : MethodName} {ws ws' : List Cond} {rm : Room} {ci : Nat} {fs : List Value} {W0 : Nat → S → va_W} {mc ms : Nat} {cc : ByteArray} {maxL : Nat} (hy : plainName y.cls = true) (hyn : y.name = "<init>") (hw : ws = Cond.code y cc maxL none :: ws') (hn : ((lg_sl [Value.ref 0]).length ≤ maxL))
    (body : ∀ (p : Program) (e : Env) (s : State) (m : MethodId) (args : Array Value) (below : List Frame) (meth : Method) (c : Code) (h0 : Nat) (A : Nat → Prop) (ls : Array Slot), CallFix p m c cc maxL s args ws y.cls → meth.sig.returnType = none → meth.locks = false → meth.name = "<init>" → va_K D vwCl (tysOf cy) s → va_AO RX0 s → va_AO RX1 s → (∀ q : Nat, s.heap.size ≤ q → A q) → va_P D vwCl [(h0, .inr (ci, fs))] s.heap → va_D A [(h0, .inr (ci, fs))] → lv_has ls maxL [(0, .ref h0)] →
      W p l e rm s m args below meth c s.heap [] 0 0 (MQ below (va_Qv (S := S) (fun _ => True) (fun a t => va_P D vwCl (W0 h0 a) t.heap ∧ va_D A (W0 h0 a)) A) args s mc ms A) (F0 m 0 ls [])) : ConI l D cy y ws rm ci fs W0 mc ms := by
  intro h0 sz
  refine Met.ofW (cc := cc) (maxL := maxL) (ret := none) hy hw ?_
  intro p e s m args below meth c s₁ B hml hv
  obtain ⟨rfl, hsz, hP, hD, hK, ha0, ha1⟩ := hv
  subst hsz
  have hts := atoms_spec (ws := ws) B.pre
  have hD2 := hD.self (sz := s.heap.size)
  generalize hAe : va_A [(h0, .inr (ci, fs))] s.heap.size = A at hD2 ⊢
  have hA : ∀ q : Nat, s.heap.size ≤ q → A q := fun q h => by rw [← hAe]; exact Or.inr h
  rw [lg_entry_eq]
  exact body p e s m _ below meth c h0 A _ ⟨B.exec, B.bytes, hml, findClass_of_methodNamed B.named, hts⟩ B.returns B.notSynchronized ((name_of_methodNamed B.named B.method).1.trans hyn) hK ha0 ha1 hA hP hD2 (lv_entry [.ref h0] hn)
/-- the array classes are those of the tables -/
theorem cy_of {D : va_G} {cy : Nat → ClassId} {s : State} {cA : ClassId} {ty : FieldType} (k : Nat) (hK : va_K D vwCl (tysOf cy) s) (hK' : va_K D vwCl (tysOf cy ++ [(cA, ty)]) s) (hk : (tysOf cy)[k]? = some (cy k, ty)) : cA = cy k := by
  have h1 := (hK.2 k _ hk).2
  have h2 := (hK'.2 5 (cA, ty) rfl).2
  cases ty with
  | object C =>
    obtain ⟨-, -, -, -, -, e1⟩ := h1
    obtain ⟨-, -, -, -, -, e2⟩ := h2
    exact Option.some.inj (e2.symm.trans e1)
  | _ => exact Option.some.inj ((show s.vm.findClass _ = some cA from h2).symm.trans h1)
section INITS
variable {p : Program} {l : Launch} {e : Env} {R : Room} {s : State} {m : MethodId} {args : Array Value} {below : List Frame} {meth : Method} {c : Code} {H : Heap} {locs : List Loc} {cells slots : Nat} {Q : State → Prop}
variable {cc : ByteArray} {pc : Nat} {ls : Array Slot} {rest : List Value} {D : va_G} {cy : Nat → ClassId} {A : Nat → Prop} {ws : va_W} {Ts : List Cond} {own : String} {nL : Nat}
theorem z_newL (S : CallFix p m c cc nL s args Ts own) (hw : Cond.arrayClass .long ∈ Ts) (hK : va_K D vwCl (tysOf cy) s) (hP : va_P D vwCl ws H) (hD : va_D A ws) (hS : va_S A s.heap H locs) (hA : ∀ q : Nat, s.heap.size ≤ q → A q) {n : Int32} {N : Nat} (hn : ¬ n < 0) (hN : n.toNatClampNeg = N) (hb8 : N * 8 ≤ 536870912) (hc : cells + 1 ≤ R.cells) (hs : slots + N ≤ R.slots) (hdg : decode cc pc = .ok (.newarray .long, 2))
    (kk : ∀ (q : Nat) (H1 : Heap), va_P D vwCl (ws ++ [(q, .inl (cy 0, N, .inr (.inl (fun _ => 0))))]) H1 → va_D A (ws ++ [(q, .inl (cy 0, N, .inr (.inl (fun _ => 0))))]) → va_S A s.heap H1 locs → W p l e R s m args below meth c H1 locs (cells + 1) (slots + N) Q (F0 m (pc + 2) ls (.ref q :: rest))) : W p l e R s m args below meth c H locs cells slots Q (F0 m pc ls (.int n :: rest)) := by
  refine va_newa (atype := .long) S.1 S.2.1 (S.2.2.2.2 _ hw) rfl hK hP hD hS hA (a0 := (N, .inr (.inl (fun _ => 0)))) (fun _ => rfl) hn hN hb8 hc hs hdg (fun q cA H1 hK' hP' hD' hS' => ?_)
  have e := cy_of 0 hK hK' rfl
  subst e
  exact kk q H1 hP' hD' hS'
theorem z_newI (S : CallFix p m c cc nL s args Ts own) (hw : Cond.arrayClass .int ∈ Ts) (hK : va_K D vwCl (tysOf cy) s) (hP : va_P D vwCl ws H) (hD : va_D A ws) (hS : va_S A s.heap H locs) (hA : ∀ q : Nat, s.heap.size ≤ q → A q) {n : Int32} {N : Nat} (hn : ¬ n < 0) (hN : n.toNatClampNeg = N) (hb8 : N * 4 ≤ 536870912) (hc : cells + 1 ≤ R.cells) (hs : slots + N ≤ R.slots) (hdg : decode cc pc = .ok (.newarray .int, 2))
    (kk : ∀ (q : Nat) (H1 : Heap), va_P D vwCl (ws ++ [(q, .inl (cy 1, N, .inl (fun _ => 0)))]) H1 → va_D A (ws ++ [(q, .inl (cy 1, N, .inl (fun _ => 0)))]) → va_S A s.heap H1 locs → W p l e R s m args below meth c H1 locs (cells + 1) (slots + N) Q (F0 m (pc + 2) ls (.ref q :: rest))) : W p l e R s m args below meth c H locs cells slots Q (F0 m pc ls (.int n :: rest)) := by
  refine va_newa (atype := .int) S.1 S.2.1 (S.2.2.2.2 _ hw) rfl hK hP hD hS hA (a0 := (N, .inl (fun _ => 0))) (fun _ => rfl) hn hN hb8 hc hs hdg (fun q cA H1 hK' hP' hD' hS' => ?_)
  have e := cy_of 1 hK hK' rfl
  subst e
  exact kk q H1 hP' hD' hS'
theorem z_newC (S : CallFix p m c cc nL s args Ts own) (hw : Cond.arrayClass .char ∈ Ts) (hK : va_K D vwCl (tysOf cy) s) (hP : va_P D vwCl ws H) (hD : va_D A ws) (hS : va_S A s.heap H locs) (hA : ∀ q : Nat, s.heap.size ≤ q → A q) {n : Int32} {N : Nat} (hn : ¬ n < 0) (hN : n.toNatClampNeg = N) (hb8 : N * 2 ≤ 536870912) (hc : cells + 1 ≤ R.cells) (hs : slots + N ≤ R.slots) (hdg : decode cc pc = .ok (.newarray .char, 2))
    (kk : ∀ (q : Nat) (H1 : Heap), va_P D vwCl (ws ++ [(q, .inl (cy 2, N, .inl (fun _ => 0)))]) H1 → va_D A (ws ++ [(q, .inl (cy 2, N, .inl (fun _ => 0)))]) → va_S A s.heap H1 locs → W p l e R s m args below meth c H1 locs (cells + 1) (slots + N) Q (F0 m (pc + 2) ls (.ref q :: rest))) : W p l e R s m args below meth c H locs cells slots Q (F0 m pc ls (.int n :: rest)) := by
  refine va_newa (atype := .char) S.1 S.2.1 (S.2.2.2.2 _ hw) rfl hK hP hD hS hA (a0 := (N, .inl (fun _ => 0))) (fun _ => rfl) hn hN hb8 hc hs hdg (fun q cA H1 hK' hP' hD' hS' => ?_)
  have e := cy_of 2 hK hK' rfl
  subst e
  exact kk q H1 hP' hD' hS'
theorem z_newq (S : CallFix p m c cc nL s args Ts own) (k : Nat) {C : String} {index : Nat} (hw : Cond.classLink own index C ∈ Ts) (hao : va_AO C s) (hk : (tysOf cy)[k]? = some (cy k, .object C)) (hK : va_K D vwCl (tysOf cy) s) (hP : va_P D vwCl ws H) (hD : va_D A ws) (hS : va_S A s.heap H locs) (hA : ∀ q : Nat, s.heap.size ≤ q → A q) {n : Int32} {N : Nat} (hn : ¬ n < 0) (hN : n.toNatClampNeg = N) (hb8 : N * 4 ≤ 536870912) (hc : cells + 1 ≤ R.cells) (hs : slots + N ≤ R.slots) (hdg : decode cc pc = .ok (.anewarray index, 3))
    (kk : ∀ (q : Nat) (H1 : Heap), va_P D vwCl (ws ++ [(q, .inl (cy k, N, .inr (.inr (.inr (.inr (fun _ => none))))))]) H1 → va_D A (ws ++ [(q, .inl (cy k, N, .inr (.inr (.inr (.inr (fun _ => none))))))]) → va_S A s.heap H1 locs → W p l e R s m args below meth c H1 locs (cells + 1) (slots + N) Q (F0 m (pc + 3) ls (.ref q :: rest))) : W p l e R s m args below meth c H locs cells slots Q (F0 m pc ls (.int n :: rest)) := by
  refine va_newq S.1 S.2.1 S.2.2.2.1 (S.2.2.2.2 _ hw) hao hK hP hD hS hA hn hN hb8 hc hs hdg (fun q cA H1 hK' hP' hD' hS' => ?_)
  have e := cy_of k hK hK' hk
  subst e
  exact kk q H1 hP' hD' hS'
/-- an object is made, and its constructor runs -/
theorem z_make (S : CallFix p m c cc nL s args Ts own) (hK : va_K D vwCl (tysOf cy) s) (ha0 : va_AO RX0 s) (ha1 : va_AO RX1 s) (hP : va_P D vwCl ws H) (hD : va_D A ws) (hS : va_S A s.heap H locs) (hA : ∀ q : Nat, s.heap.size ≤ q → A q) (hl : ls.size = nL)
    {S0 : Type} {y : MethodName} {wy wy' : List Cond} {rm : Room} {ci N i1 i2 maxL mc ms : Nat} {C : String} {T : u_T} {fs : List Value} {W0 : Nat → S0 → va_W} {bytes : ByteArray} (hI : ConI l D cy y wy rm ci fs W0 mc ms) (hcl : vwCl[ci]? = some (C, T, N)) (hin : ∀ w ∈ u_ws C T N, w ∈ Ts) (ty : Nat → FieldType) (hty : ∀ k, k < N → parseFieldDescriptor (T k).2.2.1 = some (ty k)) (hfs : ∀ j, j < N → defaultValue (ty j) = vp_V fs j) (w1 : Cond.classLink own i1 C ∈ Ts) (w2 : Cond.instantiable C N ∈ Ts) (w3 : Cond.initialized C ∈ Ts)
    (hG : GoodIn Ts wy) (hw : wy = Cond.code y bytes maxL none :: wy') (hrc : rm.cells = mc) (hrs : rm.slots = ms) (hyc : y.cls = C) (w4 : Cond.methodLink own i2 y ∈ Ts) (w5 : Cond.instanceMethod y ∈ Ts) (hyn : y.name = "<init>") (hd : y.cls ≠ "java/lang/invoke/MethodHandle" ∧ y.cls ≠ "java/lang/invoke/VarHandle" ∧ (parseMethodDescriptor y.desc).map (fun d => d.parameters.length) = some 0) (hR : rm.frames + 1 ≤ R.frames ∧ 8 + (maxL + 11) + rm.locals ≤ R.locals)
    (hc : cells + 1 + mc ≤ R.cells) (hs : slots + N + ms ≤ R.slots) (hst : (rest.map fun v => v.category).sum + 1 ≤ 8) (d1 : decode cc pc = .ok (.new i1, 3)) (d2 : decode cc (pc + 3) = .ok (.dup, 1)) (d3 : decode cc (pc + 4) = .ok (.invokespecial i2, 3))
    (kk : ∀ (q : Nat) (a : S0) (H1 : Heap) (locs1 : List Loc), va_P D vwCl (W0 q a ++ ws) H1 → va_D A (W0 q a ++ ws) → va_S A s.heap H1 locs1 → W p l e R s m args below meth c H1 locs1 (cells + 1 + mc) (slots + N + ms) Q (F0 m (pc + 7) ls (.ref q :: rest))) : W p l e R s m args below meth c H locs cells slots Q (F0 m pc ls rest) := by
  have hts := S.2.2.2.2
  refine va_new (ci := ci) (fs := fs) S.1 S.2.1 hts hin ty hty S.2.2.2.1 (hts _ w1) (hts _ w2) (hts _ w3) hK hP hD hS hA hcl hfs (by omega) (by omega) d1 (fun q H1 hP hD hS => ?_)
  refine lv_dup S.1 S.2.1 d2 rfl ?_
  have hP : va_P D vwCl ([(q, .inr (ci, fs))] ++ ws) H1 := wp_P hP List.perm_append_comm
  have hD : va_D A ([(q, .inr (ci, fs))] ++ ws) := wp_D hD List.perm_append_comm
  have hPc : va_P D vwCl [(q, .inr (ci, fs))] H1 := hP.sub [0] rfl
  have hDc : va_D A [(q, .inr (ci, fs))] := hD.sub [0] (by decide) rfl
  have hFc := va_free (wc := [(q, .inr (ci, fs))]) hD hS hA [0] rfl
  refine va_callv (va_runI (As := []) (rest := .ref q :: rest) S (hI q H1.size) (cwI 0 hts hG hw hrc hrs (by rw [hyc]; exact hts _ w3) (hts _ w4) (hts _ w5) hyn hd hR) ⟨Ini.blind, fun U hU hW => ⟨rfl, by rw [hU], by rw [hU]; exact hPc, hDc.weaken (fun _ _ _ _ => trivial), va_K.moved hW.alike hK, va_AO.moved hW.alike ha0, va_AO.moved hW.alike ha1⟩⟩ rfl rfl hl rfl (lv_room (by rw [List.map_cons, List.sum_cons]; show 1 + _ ≤ 8; omega)) d3 ⟨hc, hs⟩) hS (fun q _ h => hFc q h) hFc (fun a t H2 locs1 ht hvm _ hB hz1 hk1 hS => ?_)
  obtain ⟨hP1, hD1⟩ := hB
  rw [ht] at hP1
  obtain ⟨hP, hD⟩ := va_joinQ (X := [(q, .inr (ci, fs))]) (cx := [(q, .inr (ci, fs))]) (wr := []) (w1 := W0 q a) (pl := ws) hP hD [0] [] rfl rfl rfl (by simp) hk1 hFc hP1 hD1
  exact kk q a H2 locs1 hP hD hS
end INITS

/-- a set's cells, as its constructor leaves them -/
def zfW (cy : Nat → ClassId) (h0 : Nat) (a : Nat → Nat) : va_W := [(h0, .inr (0, [.ref (a 0), .ref (a 1), .ref (a 2), .ref (a 3), .int 0, .int 0, .int 0])), (a 0, .inl (cy 0, 32, .inr (.inl (fun _ => 0)))), (a 1, .inl (cy 1, 8, .inl (fun _ => 0))), (a 2, .inl (cy 1, 8, .inl (fun _ => 0))), (a 3, .inl (cy 1, 8, .inl (fun _ => 0)))]
def zrW (cy : Nat → ClassId) (h0 : Nat) (a : Nat → Nat) : va_W := [(h0, .inr (3, [.ref (a 0), .ref (a 1), .ref (a 2), .int 0, .int 0])), (a 0, .inl (cy 2, 60, .inl (fun _ => 0))), (a 1, .inl (cy 1, 30, .inl (fun _ => 0))), (a 2, .inl (cy 1, 30, .inl (fun _ => 0)))]
def zmW (cy : Nat → ClassId) (h0 : Nat) (a : Nat → Nat) : va_W := [(h0, .inr (5, [.ref (a 0), .ref (a 1), .int 0, .ref (a 2), .int 0, .ref (a 3), .ref (a 4), .int 0, .int 0, .ref (a 5), .ref (a 6), .int 0, .int 0])), (a 0, .inl (cy 1, 451, .inl (fun _ => 0))), (a 1, .inl (cy 1, 1804, .inl (fun _ => 0))), (a 2, .inl (cy 1, 451, .inl (fun _ => 0))), (a 3, .inl (cy 1, 451, .inl (fun _ => 0))), (a 4, .inl (cy 1, 60, .inl (fun _ => 0))), (a 5, .inl (cy 1, 64, .inl (fun _ => 0))), (a 6, .inl (cy 1, 60, .inl (fun _ => 0)))]

theorem inI_X0_X0 : ∀ w ∈ wsX00, w ∈ wsX0_init := by decide +kernel

theorem inI_X3_X3 : ∀ w ∈ wsX30, w ∈ wsX3_init := by decide +kernel

theorem inI_X5_X5 : ∀ w ∈ wsX50, w ∈ wsX5_init := by decide +kernel


set_option maxHeartbeats 1000000 in
set_option maxRecDepth 100000 in
theorem i_X0 (l : Launch) (D : va_G) (cy : Nat → ClassId) : ConI l D cy yX0_init wsX0_init { frames := 1, cells := 4, slots := 56, locals := 12 } 0 [.null, .null, .null, .null, .int 0, .int 0, .int 0] (zfW cy) 4 56 := by
  refine coni_start (cc := cX0_init) (maxL := 1) (by decide) rfl rfl (Nat.le_of_ble_eq_true rfl) ?_
  intro p e s m args below meth c h0 A ls S hr hlocks hnm hK ha0 ha1 hA hP hD hl
  have hown : s.vm.findClass RX0 = some m.cls := S.2.2.2.1
  obtain ⟨hx, hb, hml, -, hts⟩ := id S
  have hS : va_S A s.heap s.heap [] := va_S.rf
  refine lv_aload_n hx hb dX0_init_0 rfl (lv_at hl 0 rfl) ?_
  refine W.objInit hx hb hown (hts _ (List.mem_of_getElem? (i := 1) rfl : Cond.methodLink RX0 3 objectInit ∈ wsX0_init)) (hts _ (List.mem_of_getElem? (i := 2) rfl : Cond.instanceMethod objectInit ∈ wsX0_init)) (hts _ (List.mem_of_getElem? (i := 3) rfl : Cond.code objectInit ⟨#[0xb1]⟩ 1 none ∈ wsX0_init)) rfl (by rw [hml]; exact hl.1) rfl dX0_init_1 (Nat.le_of_ble_eq_true rfl) (Nat.le_of_ble_eq_true rfl) ?_
  refine W.eq (g2 := F0 m 4 ls []) rfl ?_
  refine lv_aload_n hx hb dX0_init_4 rfl (lv_at hl 0 rfl) ?_
  refine lv_bipush (v := 32) hx hb dX0_init_5 (by decide) ?_
  refine z_newL (N := 32) S (List.mem_of_getElem? (i := 4) rfl) hK hP hD hS hA (by decide) (by decide) (by decide) (Nat.le_of_ble_eq_true rfl) (Nat.le_of_ble_eq_true rfl) dX0_init_7 (fun q0 H hP hD hS => ?_)
  have hP : va_P D vwCl [(h0, .inr (0, [.null, .null, .null, .null, .int 0, .int 0, .int 0])), (q0, .inl (cy 0, 32, .inr (.inl (fun _ => 0))))] H := hP
  have hD : va_D A [(h0, .inr (0, [.null, .null, .null, .null, .int 0, .int 0, .int 0])), (q0, .inl (cy 0, 32, .inr (.inl (fun _ => 0))))] := hD
  refine W.widen (k := 1) (n := 32) (by decide) (by decide) ?_
  refine va_putF (D := D) (ci := 0) (v := .ref q0) (ty := .array .long) (C := RX0) (T := TX0) (N := 7) hx hb hts inI_X0_X0 tyX0 tyX0_ok nmX0 hown hK hP hD hS 0 rfl rfl 0 (by decide) (hts _ (List.mem_of_getElem? (i := 5) rfl)) (fun _ h9 => h9) rfl hnm rfl (by decide +kernel) rfl rfl (Nat.le_of_ble_eq_true rfl) dX0_init_9 (fun H locs hP hD hS => ?_)
  have hP : va_P D vwCl [(h0, .inr (0, [.ref q0, .null, .null, .null, .int 0, .int 0, .int 0])), (q0, .inl (cy 0, 32, .inr (.inl (fun _ => 0))))] H := hP
  have hD : va_D A [(h0, .inr (0, [.ref q0, .null, .null, .null, .int 0, .int 0, .int 0])), (q0, .inl (cy 0, 32, .inr (.inl (fun _ => 0))))] := hD
  refine lv_aload_n hx hb dX0_init_12 rfl (lv_at hl 0 rfl) ?_
  refine lv_bipush (v := 8) hx hb dX0_init_13 (by decide) ?_
  refine z_newI (N := 8) S (List.mem_of_getElem? (i := 6) rfl) hK hP hD hS hA (by decide) (by decide) (by decide) (Nat.le_of_ble_eq_true rfl) (Nat.le_of_ble_eq_true rfl) dX0_init_15 (fun q1 H hP hD hS => ?_)
  have hP : va_P D vwCl [(h0, .inr (0, [.ref q0, .null, .null, .null, .int 0, .int 0, .int 0])), (q0, .inl (cy 0, 32, .inr (.inl (fun _ => 0)))), (q1, .inl (cy 1, 8, .inl (fun _ => 0)))] H := hP
  have hD : va_D A [(h0, .inr (0, [.ref q0, .null, .null, .null, .int 0, .int 0, .int 0])), (q0, .inl (cy 0, 32, .inr (.inl (fun _ => 0)))), (q1, .inl (cy 1, 8, .inl (fun _ => 0)))] := hD
  refine W.widen (k := 2) (n := 40) (by decide) (by decide) ?_
  refine va_putF (D := D) (ci := 0) (v := .ref q1) (ty := .array .int) (C := RX0) (T := TX0) (N := 7) hx hb hts inI_X0_X0 tyX0 tyX0_ok nmX0 hown hK hP hD hS 0 rfl rfl 1 (by decide) (hts _ (List.mem_of_getElem? (i := 7) rfl)) (fun _ h9 => h9) rfl hnm rfl (by decide +kernel) rfl rfl (Nat.le_of_ble_eq_true rfl) dX0_init_17 (fun H locs hP hD hS => ?_)
  have hP : va_P D vwCl [(h0, .inr (0, [.ref q0, .ref q1, .null, .null, .int 0, .int 0, .int 0])), (q0, .inl (cy 0, 32, .inr (.inl (fun _ => 0)))), (q1, .inl (cy 1, 8, .inl (fun _ => 0)))] H := hP
  have hD : va_D A [(h0, .inr (0, [.ref q0, .ref q1, .null, .null, .int 0, .int 0, .int 0])), (q0, .inl (cy 0, 32, .inr (.inl (fun _ => 0)))), (q1, .inl (cy 1, 8, .inl (fun _ => 0)))] := hD
  refine lv_aload_n hx hb dX0_init_20 rfl (lv_at hl 0 rfl) ?_
  refine lv_bipush (v := 8) hx hb dX0_init_21 (by decide) ?_
  refine z_newI (N := 8) S (List.mem_of_getElem? (i := 6) rfl) hK hP hD hS hA (by decide) (by decide) (by decide) (Nat.le_of_ble_eq_true rfl) (Nat.le_of_ble_eq_true rfl) dX0_init_23 (fun q2 H hP hD hS => ?_)
  have hP : va_P D vwCl [(h0, .inr (0, [.ref q0, .ref q1, .null, .null, .int 0, .int 0, .int 0])), (q0, .inl (cy 0, 32, .inr (.inl (fun _ => 0)))), (q1, .inl (cy 1, 8, .inl (fun _ => 0))), (q2, .inl (cy 1, 8, .inl (fun _ => 0)))] H := hP
  have hD : va_D A [(h0, .inr (0, [.ref q0, .ref q1, .null, .null, .int 0, .int 0, .int 0])), (q0, .inl (cy 0, 32, .inr (.inl (fun _ => 0)))), (q1, .inl (cy 1, 8, .inl (fun _ => 0))), (q2, .inl (cy 1, 8, .inl (fun _ => 0)))] := hD
  refine W.widen (k := 3) (n := 48) (by decide) (by decide) ?_
  refine va_putF (D := D) (ci := 0) (v := .ref q2) (ty := .array .int) (C := RX0) (T := TX0) (N := 7) hx hb hts inI_X0_X0 tyX0 tyX0_ok nmX0 hown hK hP hD hS 0 rfl rfl 2 (by decide) (hts _ (List.mem_of_getElem? (i := 8) rfl)) (fun _ h9 => h9) rfl hnm rfl (by decide +kernel) rfl rfl (Nat.le_of_ble_eq_true rfl) dX0_init_25 (fun H locs hP hD hS => ?_)
  have hP : va_P D vwCl [(h0, .inr (0, [.ref q0, .ref q1, .ref q2, .null, .int 0, .int 0, .int 0])), (q0, .inl (cy 0, 32, .inr (.inl (fun _ => 0)))), (q1, .inl (cy 1, 8, .inl (fun _ => 0))), (q2, .inl (cy 1, 8, .inl (fun _ => 0)))] H := hP
  have hD : va_D A [(h0, .inr (0, [.ref q0, .ref q1, .ref q2, .null, .int 0, .int 0, .int 0])), (q0, .inl (cy 0, 32, .inr (.inl (fun _ => 0)))), (q1, .inl (cy 1, 8, .inl (fun _ => 0))), (q2, .inl (cy 1, 8, .inl (fun _ => 0)))] := hD
  refine lv_aload_n hx hb dX0_init_28 rfl (lv_at hl 0 rfl) ?_
  refine lv_bipush (v := 8) hx hb dX0_init_29 (by decide) ?_
  refine z_newI (N := 8) S (List.mem_of_getElem? (i := 6) rfl) hK hP hD hS hA (by decide) (by decide) (by decide) (Nat.le_of_ble_eq_true rfl) (Nat.le_of_ble_eq_true rfl) dX0_init_31 (fun q3 H hP hD hS => ?_)
  have hP : va_P D vwCl [(h0, .inr (0, [.ref q0, .ref q1, .ref q2, .null, .int 0, .int 0, .int 0])), (q0, .inl (cy 0, 32, .inr (.inl (fun _ => 0)))), (q1, .inl (cy 1, 8, .inl (fun _ => 0))), (q2, .inl (cy 1, 8, .inl (fun _ => 0))), (q3, .inl (cy 1, 8, .inl (fun _ => 0)))] H := hP
  have hD : va_D A [(h0, .inr (0, [.ref q0, .ref q1, .ref q2, .null, .int 0, .int 0, .int 0])), (q0, .inl (cy 0, 32, .inr (.inl (fun _ => 0)))), (q1, .inl (cy 1, 8, .inl (fun _ => 0))), (q2, .inl (cy 1, 8, .inl (fun _ => 0))), (q3, .inl (cy 1, 8, .inl (fun _ => 0)))] := hD
  refine W.widen (k := 4) (n := 56) (by decide) (by decide) ?_
  refine va_putF (D := D) (ci := 0) (v := .ref q3) (ty := .array .int) (C := RX0) (T := TX0) (N := 7) hx hb hts inI_X0_X0 tyX0 tyX0_ok nmX0 hown hK hP hD hS 0 rfl rfl 3 (by decide) (hts _ (List.mem_of_getElem? (i := 9) rfl)) (fun _ h9 => h9) rfl hnm rfl (by decide +kernel) rfl rfl (Nat.le_of_ble_eq_true rfl) dX0_init_33 (fun H locs hP hD hS => ?_)
  have hP : va_P D vwCl [(h0, .inr (0, [.ref q0, .ref q1, .ref q2, .ref q3, .int 0, .int 0, .int 0])), (q0, .inl (cy 0, 32, .inr (.inl (fun _ => 0)))), (q1, .inl (cy 1, 8, .inl (fun _ => 0))), (q2, .inl (cy 1, 8, .inl (fun _ => 0))), (q3, .inl (cy 1, 8, .inl (fun _ => 0)))] H := hP
  have hD : va_D A [(h0, .inr (0, [.ref q0, .ref q1, .ref q2, .ref q3, .int 0, .int 0, .int 0])), (q0, .inl (cy 0, 32, .inr (.inl (fun _ => 0)))), (q1, .inl (cy 1, 8, .inl (fun _ => 0))), (q2, .inl (cy 1, 8, .inl (fun _ => 0))), (q3, .inl (cy 1, 8, .inl (fun _ => 0)))] := hD
  exact W.vret hx hb hr (fun t ht hW => ⟨⟨fun k => match k with | 0 => q0 | 1 => q1 | 2 => q2 | _ => q3, rfl, trivial, by rw [ht]; exact hP, hD⟩, hS.F ht⟩) hS.2.2 dX0_init_36


set_option maxHeartbeats 1000000 in
set_option maxRecDepth 100000 in
theorem i_X3 (l : Launch) (D : va_G) (cy : Nat → ClassId) : ConI l D cy yX3_init wsX3_init { frames := 1, cells := 3, slots := 120, locals := 12 } 3 [.null, .null, .null, .int 0, .int 0] (zrW cy) 3 120 := by
  refine coni_start (cc := cX3_init) (maxL := 1) (by decide) rfl rfl (Nat.le_of_ble_eq_true rfl) ?_
  intro p e s m args below meth c h0 A ls S hr hlocks hnm hK ha0 ha1 hA hP hD hl
  have hown : s.vm.findClass RX3 = some m.cls := S.2.2.2.1
  obtain ⟨hx, hb, hml, -, hts⟩ := id S
  have hS : va_S A s.heap s.heap [] := va_S.rf
  refine lv_aload_n hx hb dX3_init_0 rfl (lv_at hl 0 rfl) ?_
  refine W.objInit hx hb hown (hts _ (List.mem_of_getElem? (i := 1) rfl : Cond.methodLink RX3 3 objectInit ∈ wsX3_init)) (hts _ (List.mem_of_getElem? (i := 2) rfl : Cond.instanceMethod objectInit ∈ wsX3_init)) (hts _ (List.mem_of_getElem? (i := 3) rfl : Cond.code objectInit ⟨#[0xb1]⟩ 1 none ∈ wsX3_init)) rfl (by rw [hml]; exact hl.1) rfl dX3_init_1 (Nat.le_of_ble_eq_true rfl) (Nat.le_of_ble_eq_true rfl) ?_
  refine W.eq (g2 := F0 m 4 ls []) rfl ?_
  refine lv_aload_n hx hb dX3_init_4 rfl (lv_at hl 0 rfl) ?_
  refine lv_bipush (v := 60) hx hb dX3_init_5 (by decide) ?_
  refine z_newC (N := 60) S (List.mem_of_getElem? (i := 4) rfl) hK hP hD hS hA (by decide) (by decide) (by decide) (Nat.le_of_ble_eq_true rfl) (Nat.le_of_ble_eq_true rfl) dX3_init_7 (fun q0 H hP hD hS => ?_)
  have hP : va_P D vwCl [(h0, .inr (3, [.null, .null, .null, .int 0, .int 0])), (q0, .inl (cy 2, 60, .inl (fun _ => 0)))] H := hP
  have hD : va_D A [(h0, .inr (3, [.null, .null, .null, .int 0, .int 0])), (q0, .inl (cy 2, 60, .inl (fun _ => 0)))] := hD
  refine W.widen (k := 1) (n := 60) (by decide) (by decide) ?_
  refine va_putF (D := D) (ci := 3) (v := .ref q0) (ty := .array .char) (C := RX3) (T := TX3) (N := 5) hx hb hts inI_X3_X3 tyX3 tyX3_ok nmX3 hown hK hP hD hS 0 rfl rfl 0 (by decide) (hts _ (List.mem_of_getElem? (i := 5) rfl)) (fun _ h9 => h9) rfl hnm rfl (by decide +kernel) rfl rfl (Nat.le_of_ble_eq_true rfl) dX3_init_9 (fun H locs hP hD hS => ?_)
  have hP : va_P D vwCl [(h0, .inr (3, [.ref q0, .null, .null, .int 0, .int 0])), (q0, .inl (cy 2, 60, .inl (fun _ => 0)))] H := hP
  have hD : va_D A [(h0, .inr (3, [.ref q0, .null, .null, .int 0, .int 0])), (q0, .inl (cy 2, 60, .inl (fun _ => 0)))] := hD
  refine lv_aload_n hx hb dX3_init_12 rfl (lv_at hl 0 rfl) ?_
  refine lv_bipush (v := 30) hx hb dX3_init_13 (by decide) ?_
  refine z_newI (N := 30) S (List.mem_of_getElem? (i := 6) rfl) hK hP hD hS hA (by decide) (by decide) (by decide) (Nat.le_of_ble_eq_true rfl) (Nat.le_of_ble_eq_true rfl) dX3_init_15 (fun q1 H hP hD hS => ?_)
  have hP : va_P D vwCl [(h0, .inr (3, [.ref q0, .null, .null, .int 0, .int 0])), (q0, .inl (cy 2, 60, .inl (fun _ => 0))), (q1, .inl (cy 1, 30, .inl (fun _ => 0)))] H := hP
  have hD : va_D A [(h0, .inr (3, [.ref q0, .null, .null, .int 0, .int 0])), (q0, .inl (cy 2, 60, .inl (fun _ => 0))), (q1, .inl (cy 1, 30, .inl (fun _ => 0)))] := hD
  refine W.widen (k := 2) (n := 90) (by decide) (by decide) ?_
  refine va_putF (D := D) (ci := 3) (v := .ref q1) (ty := .array .int) (C := RX3) (T := TX3) (N := 5) hx hb hts inI_X3_X3 tyX3 tyX3_ok nmX3 hown hK hP hD hS 0 rfl rfl 1 (by decide) (hts _ (List.mem_of_getElem? (i := 7) rfl)) (fun _ h9 => h9) rfl hnm rfl (by decide +kernel) rfl rfl (Nat.le_of_ble_eq_true rfl) dX3_init_17 (fun H locs hP hD hS => ?_)
  have hP : va_P D vwCl [(h0, .inr (3, [.ref q0, .ref q1, .null, .int 0, .int 0])), (q0, .inl (cy 2, 60, .inl (fun _ => 0))), (q1, .inl (cy 1, 30, .inl (fun _ => 0)))] H := hP
  have hD : va_D A [(h0, .inr (3, [.ref q0, .ref q1, .null, .int 0, .int 0])), (q0, .inl (cy 2, 60, .inl (fun _ => 0))), (q1, .inl (cy 1, 30, .inl (fun _ => 0)))] := hD
  refine lv_aload_n hx hb dX3_init_20 rfl (lv_at hl 0 rfl) ?_
  refine lv_bipush (v := 30) hx hb dX3_init_21 (by decide) ?_
  refine z_newI (N := 30) S (List.mem_of_getElem? (i := 6) rfl) hK hP hD hS hA (by decide) (by decide) (by decide) (Nat.le_of_ble_eq_true rfl) (Nat.le_of_ble_eq_true rfl) dX3_init_23 (fun q2 H hP hD hS => ?_)
  have hP : va_P D vwCl [(h0, .inr (3, [.ref q0, .ref q1, .null, .int 0, .int 0])), (q0, .inl (cy 2, 60, .inl (fun _ => 0))), (q1, .inl (cy 1, 30, .inl (fun _ => 0))), (q2, .inl (cy 1, 30, .inl (fun _ => 0)))] H := hP
  have hD : va_D A [(h0, .inr (3, [.ref q0, .ref q1, .null, .int 0, .int 0])), (q0, .inl (cy 2, 60, .inl (fun _ => 0))), (q1, .inl (cy 1, 30, .inl (fun _ => 0))), (q2, .inl (cy 1, 30, .inl (fun _ => 0)))] := hD
  refine W.widen (k := 3) (n := 120) (by decide) (by decide) ?_
  refine va_putF (D := D) (ci := 3) (v := .ref q2) (ty := .array .int) (C := RX3) (T := TX3) (N := 5) hx hb hts inI_X3_X3 tyX3 tyX3_ok nmX3 hown hK hP hD hS 0 rfl rfl 2 (by decide) (hts _ (List.mem_of_getElem? (i := 8) rfl)) (fun _ h9 => h9) rfl hnm rfl (by decide +kernel) rfl rfl (Nat.le_of_ble_eq_true rfl) dX3_init_25 (fun H locs hP hD hS => ?_)
  have hP : va_P D vwCl [(h0, .inr (3, [.ref q0, .ref q1, .ref q2, .int 0, .int 0])), (q0, .inl (cy 2, 60, .inl (fun _ => 0))), (q1, .inl (cy 1, 30, .inl (fun _ => 0))), (q2, .inl (cy 1, 30, .inl (fun _ => 0)))] H := hP
  have hD : va_D A [(h0, .inr (3, [.ref q0, .ref q1, .ref q2, .int 0, .int 0])), (q0, .inl (cy 2, 60, .inl (fun _ => 0))), (q1, .inl (cy 1, 30, .inl (fun _ => 0))), (q2, .inl (cy 1, 30, .inl (fun _ => 0)))] := hD
  exact W.vret hx hb hr (fun t ht hW => ⟨⟨fun k => match k with | 0 => q0 | 1 => q1 | _ => q2, rfl, trivial, by rw [ht]; exact hP, hD⟩, hS.F ht⟩) hS.2.2 dX3_init_28


set_option maxHeartbeats 1000000 in
set_option maxRecDepth 100000 in
theorem i_X5 (l : Launch) (D : va_G) (cy : Nat → ClassId) : ConI l D cy yX5_init wsX5_init { frames := 1, cells := 7, slots := 3341, locals := 12 } 5 [.null, .null, .int 0, .null, .int 0, .null, .null, .int 0, .int 0, .null, .null, .int 0, .int 0] (zmW cy) 7 3341 := by
  refine coni_start (cc := cX5_init) (maxL := 1) (by decide) rfl rfl (Nat.le_of_ble_eq_true rfl) ?_
  intro p e s m args below meth c h0 A ls S hr hlocks hnm hK ha0 ha1 hA hP hD hl
  have hown : s.vm.findClass RX5 = some m.cls := S.2.2.2.1
  obtain ⟨hx, hb, hml, -, hts⟩ := id S
  have hS : va_S A s.heap s.heap [] := va_S.rf
  refine lv_aload_n hx hb dX5_init_0 rfl (lv_at hl 0 rfl) ?_
  refine W.objInit hx hb hown (hts _ (List.mem_of_getElem? (i := 1) rfl : Cond.methodLink RX5 1 objectInit ∈ wsX5_init)) (hts _ (List.mem_of_getElem? (i := 2) rfl : Cond.instanceMethod objectInit ∈ wsX5_init)) (hts _ (List.mem_of_getElem? (i := 3) rfl : Cond.code objectInit ⟨#[0xb1]⟩ 1 none ∈ wsX5_init)) rfl (by rw [hml]; exact hl.1) rfl dX5_init_1 (Nat.le_of_ble_eq_true rfl) (Nat.le_of_ble_eq_true rfl) ?_
  refine W.eq (g2 := F0 m 4 ls []) rfl ?_
  refine lv_aload_n hx hb dX5_init_4 rfl (lv_at hl 0 rfl) ?_
  refine lv_sipush (v := 451) hx hb dX5_init_5 (by decide) ?_
  refine z_newI (N := 451) S (List.mem_of_getElem? (i := 4) rfl) hK hP hD hS hA (by decide) (by decide) (by decide) (Nat.le_of_ble_eq_true rfl) (Nat.le_of_ble_eq_true rfl) dX5_init_8 (fun q0 H hP hD hS => ?_)
  have hP : va_P D vwCl [(h0, .inr (5, [.null, .null, .int 0, .null, .int 0, .null, .null, .int 0, .int 0, .null, .null, .int 0, .int 0])), (q0, .inl (cy 1, 451, .inl (fun _ => 0)))] H := hP
  have hD : va_D A [(h0, .inr (5, [.null, .null, .int 0, .null, .int 0, .null, .null, .int 0, .int 0, .null, .null, .int 0, .int 0])), (q0, .inl (cy 1, 451, .inl (fun _ => 0)))] := hD
  refine W.widen (k := 1) (n := 451) (by decide) (by decide) ?_
  refine va_putF (D := D) (ci := 5) (v := .ref q0) (ty := .array .int) (C := RX5) (T := TX5) (N := 13) hx hb hts inI_X5_X5 tyX5 tyX5_ok nmX5 hown hK hP hD hS 0 rfl rfl 0 (by decide) (hts _ (List.mem_of_getElem? (i := 5) rfl)) (fun _ h9 => h9) rfl hnm rfl (by decide +kernel) rfl rfl (Nat.le_of_ble_eq_true rfl) dX5_init_10 (fun H locs hP hD hS => ?_)
  have hP : va_P D vwCl [(h0, .inr (5, [.ref q0, .null, .int 0, .null, .int 0, .null, .null, .int 0, .int 0, .null, .null, .int 0, .int 0])), (q0, .inl (cy 1, 451, .inl (fun _ => 0)))] H := hP
  have hD : va_D A [(h0, .inr (5, [.ref q0, .null, .int 0, .null, .int 0, .null, .null, .int 0, .int 0, .null, .null, .int 0, .int 0])), (q0, .inl (cy 1, 451, .inl (fun _ => 0)))] := hD
  refine lv_aload_n hx hb dX5_init_13 rfl (lv_at hl 0 rfl) ?_
  refine lv_sipush (v := 1804) hx hb dX5_init_14 (by decide) ?_
  refine z_newI (N := 1804) S (List.mem_of_getElem? (i := 4) rfl) hK hP hD hS hA (by decide) (by decide) (by decide) (Nat.le_of_ble_eq_true rfl) (Nat.le_of_ble_eq_true rfl) dX5_init_17 (fun q1 H hP hD hS => ?_)
  have hP : va_P D vwCl [(h0, .inr (5, [.ref q0, .null, .int 0, .null, .int 0, .null, .null, .int 0, .int 0, .null, .null, .int 0, .int 0])), (q0, .inl (cy 1, 451, .inl (fun _ => 0))), (q1, .inl (cy 1, 1804, .inl (fun _ => 0)))] H := hP
  have hD : va_D A [(h0, .inr (5, [.ref q0, .null, .int 0, .null, .int 0, .null, .null, .int 0, .int 0, .null, .null, .int 0, .int 0])), (q0, .inl (cy 1, 451, .inl (fun _ => 0))), (q1, .inl (cy 1, 1804, .inl (fun _ => 0)))] := hD
  refine W.widen (k := 2) (n := 2255) (by decide) (by decide) ?_
  refine va_putF (D := D) (ci := 5) (v := .ref q1) (ty := .array .int) (C := RX5) (T := TX5) (N := 13) hx hb hts inI_X5_X5 tyX5 tyX5_ok nmX5 hown hK hP hD hS 0 rfl rfl 1 (by decide) (hts _ (List.mem_of_getElem? (i := 6) rfl)) (fun _ h9 => h9) rfl hnm rfl (by decide +kernel) rfl rfl (Nat.le_of_ble_eq_true rfl) dX5_init_19 (fun H locs hP hD hS => ?_)
  have hP : va_P D vwCl [(h0, .inr (5, [.ref q0, .ref q1, .int 0, .null, .int 0, .null, .null, .int 0, .int 0, .null, .null, .int 0, .int 0])), (q0, .inl (cy 1, 451, .inl (fun _ => 0))), (q1, .inl (cy 1, 1804, .inl (fun _ => 0)))] H := hP
  have hD : va_D A [(h0, .inr (5, [.ref q0, .ref q1, .int 0, .null, .int 0, .null, .null, .int 0, .int 0, .null, .null, .int 0, .int 0])), (q0, .inl (cy 1, 451, .inl (fun _ => 0))), (q1, .inl (cy 1, 1804, .inl (fun _ => 0)))] := hD
  refine lv_aload_n hx hb dX5_init_22 rfl (lv_at hl 0 rfl) ?_
  refine lv_sipush (v := 451) hx hb dX5_init_23 (by decide) ?_
  refine z_newI (N := 451) S (List.mem_of_getElem? (i := 4) rfl) hK hP hD hS hA (by decide) (by decide) (by decide) (Nat.le_of_ble_eq_true rfl) (Nat.le_of_ble_eq_true rfl) dX5_init_26 (fun q2 H hP hD hS => ?_)
  have hP : va_P D vwCl [(h0, .inr (5, [.ref q0, .ref q1, .int 0, .null, .int 0, .null, .null, .int 0, .int 0, .null, .null, .int 0, .int 0])), (q0, .inl (cy 1, 451, .inl (fun _ => 0))), (q1, .inl (cy 1, 1804, .inl (fun _ => 0))), (q2, .inl (cy 1, 451, .inl (fun _ => 0)))] H := hP
  have hD : va_D A [(h0, .inr (5, [.ref q0, .ref q1, .int 0, .null, .int 0, .null, .null, .int 0, .int 0, .null, .null, .int 0, .int 0])), (q0, .inl (cy 1, 451, .inl (fun _ => 0))), (q1, .inl (cy 1, 1804, .inl (fun _ => 0))), (q2, .inl (cy 1, 451, .inl (fun _ => 0)))] := hD
  refine W.widen (k := 3) (n := 2706) (by decide) (by decide) ?_
  refine va_putF (D := D) (ci := 5) (v := .ref q2) (ty := .array .int) (C := RX5) (T := TX5) (N := 13) hx hb hts inI_X5_X5 tyX5 tyX5_ok nmX5 hown hK hP hD hS 0 rfl rfl 3 (by decide) (hts _ (List.mem_of_getElem? (i := 7) rfl)) (fun _ h9 => h9) rfl hnm rfl (by decide +kernel) rfl rfl (Nat.le_of_ble_eq_true rfl) dX5_init_28 (fun H locs hP hD hS => ?_)
  have hP : va_P D vwCl [(h0, .inr (5, [.ref q0, .ref q1, .int 0, .ref q2, .int 0, .null, .null, .int 0, .int 0, .null, .null, .int 0, .int 0])), (q0, .inl (cy 1, 451, .inl (fun _ => 0))), (q1, .inl (cy 1, 1804, .inl (fun _ => 0))), (q2, .inl (cy 1, 451, .inl (fun _ => 0)))] H := hP
  have hD : va_D A [(h0, .inr (5, [.ref q0, .ref q1, .int 0, .ref q2, .int 0, .null, .null, .int 0, .int 0, .null, .null, .int 0, .int 0])), (q0, .inl (cy 1, 451, .inl (fun _ => 0))), (q1, .inl (cy 1, 1804, .inl (fun _ => 0))), (q2, .inl (cy 1, 451, .inl (fun _ => 0)))] := hD
  refine lv_aload_n hx hb dX5_init_31 rfl (lv_at hl 0 rfl) ?_
  refine lv_sipush (v := 451) hx hb dX5_init_32 (by decide) ?_
  refine z_newI (N := 451) S (List.mem_of_getElem? (i := 4) rfl) hK hP hD hS hA (by decide) (by decide) (by decide) (Nat.le_of_ble_eq_true rfl) (Nat.le_of_ble_eq_true rfl) dX5_init_35 (fun q3 H hP hD hS => ?_)
  have hP : va_P D vwCl [(h0, .inr (5, [.ref q0, .ref q1, .int 0, .ref q2, .int 0, .null, .null, .int 0, .int 0, .null, .null, .int 0, .int 0])), (q0, .inl (cy 1, 451, .inl (fun _ => 0))), (q1, .inl (cy 1, 1804, .inl (fun _ => 0))), (q2, .inl (cy 1, 451, .inl (fun _ => 0))), (q3, .inl (cy 1, 451, .inl (fun _ => 0)))] H := hP
  have hD : va_D A [(h0, .inr (5, [.ref q0, .ref q1, .int 0, .ref q2, .int 0, .null, .null, .int 0, .int 0, .null, .null, .int 0, .int 0])), (q0, .inl (cy 1, 451, .inl (fun _ => 0))), (q1, .inl (cy 1, 1804, .inl (fun _ => 0))), (q2, .inl (cy 1, 451, .inl (fun _ => 0))), (q3, .inl (cy 1, 451, .inl (fun _ => 0)))] := hD
  refine W.widen (k := 4) (n := 3157) (by decide) (by decide) ?_
  refine va_putF (D := D) (ci := 5) (v := .ref q3) (ty := .array .int) (C := RX5) (T := TX5) (N := 13) hx hb hts inI_X5_X5 tyX5 tyX5_ok nmX5 hown hK hP hD hS 0 rfl rfl 5 (by decide) (hts _ (List.mem_of_getElem? (i := 8) rfl)) (fun _ h9 => h9) rfl hnm rfl (by decide +kernel) rfl rfl (Nat.le_of_ble_eq_true rfl) dX5_init_37 (fun H locs hP hD hS => ?_)
  have hP : va_P D vwCl [(h0, .inr (5, [.ref q0, .ref q1, .int 0, .ref q2, .int 0, .ref q3, .null, .int 0, .int 0, .null, .null, .int 0, .int 0])), (q0, .inl (cy 1, 451, .inl (fun _ => 0))), (q1, .inl (cy 1, 1804, .inl (fun _ => 0))), (q2, .inl (cy 1, 451, .inl (fun _ => 0))), (q3, .inl (cy 1, 451, .inl (fun _ => 0)))] H := hP
  have hD : va_D A [(h0, .inr (5, [.ref q0, .ref q1, .int 0, .ref q2, .int 0, .ref q3, .null, .int 0, .int 0, .null, .null, .int 0, .int 0])), (q0, .inl (cy 1, 451, .inl (fun _ => 0))), (q1, .inl (cy 1, 1804, .inl (fun _ => 0))), (q2, .inl (cy 1, 451, .inl (fun _ => 0))), (q3, .inl (cy 1, 451, .inl (fun _ => 0)))] := hD
  refine lv_aload_n hx hb dX5_init_40 rfl (lv_at hl 0 rfl) ?_
  refine lv_bipush (v := 60) hx hb dX5_init_41 (by decide) ?_
  refine z_newI (N := 60) S (List.mem_of_getElem? (i := 4) rfl) hK hP hD hS hA (by decide) (by decide) (by decide) (Nat.le_of_ble_eq_true rfl) (Nat.le_of_ble_eq_true rfl) dX5_init_43 (fun q4 H hP hD hS => ?_)
  have hP : va_P D vwCl [(h0, .inr (5, [.ref q0, .ref q1, .int 0, .ref q2, .int 0, .ref q3, .null, .int 0, .int 0, .null, .null, .int 0, .int 0])), (q0, .inl (cy 1, 451, .inl (fun _ => 0))), (q1, .inl (cy 1, 1804, .inl (fun _ => 0))), (q2, .inl (cy 1, 451, .inl (fun _ => 0))), (q3, .inl (cy 1, 451, .inl (fun _ => 0))), (q4, .inl (cy 1, 60, .inl (fun _ => 0)))] H := hP
  have hD : va_D A [(h0, .inr (5, [.ref q0, .ref q1, .int 0, .ref q2, .int 0, .ref q3, .null, .int 0, .int 0, .null, .null, .int 0, .int 0])), (q0, .inl (cy 1, 451, .inl (fun _ => 0))), (q1, .inl (cy 1, 1804, .inl (fun _ => 0))), (q2, .inl (cy 1, 451, .inl (fun _ => 0))), (q3, .inl (cy 1, 451, .inl (fun _ => 0))), (q4, .inl (cy 1, 60, .inl (fun _ => 0)))] := hD
  refine W.widen (k := 5) (n := 3217) (by decide) (by decide) ?_
  refine va_putF (D := D) (ci := 5) (v := .ref q4) (ty := .array .int) (C := RX5) (T := TX5) (N := 13) hx hb hts inI_X5_X5 tyX5 tyX5_ok nmX5 hown hK hP hD hS 0 rfl rfl 6 (by decide) (hts _ (List.mem_of_getElem? (i := 9) rfl)) (fun _ h9 => h9) rfl hnm rfl (by decide +kernel) rfl rfl (Nat.le_of_ble_eq_true rfl) dX5_init_45 (fun H locs hP hD hS => ?_)
  have hP : va_P D vwCl [(h0, .inr (5, [.ref q0, .ref q1, .int 0, .ref q2, .int 0, .ref q3, .ref q4, .int 0, .int 0, .null, .null, .int 0, .int 0])), (q0, .inl (cy 1, 451, .inl (fun _ => 0))), (q1, .inl (cy 1, 1804, .inl (fun _ => 0))), (q2, .inl (cy 1, 451, .inl (fun _ => 0))), (q3, .inl (cy 1, 451, .inl (fun _ => 0))), (q4, .inl (cy 1, 60, .inl (fun _ => 0)))] H := hP
  have hD : va_D A [(h0, .inr (5, [.ref q0, .ref q1, .int 0, .ref q2, .int 0, .ref q3, .ref q4, .int 0, .int 0, .null, .null, .int 0, .int 0])), (q0, .inl (cy 1, 451, .inl (fun _ => 0))), (q1, .inl (cy 1, 1804, .inl (fun _ => 0))), (q2, .inl (cy 1, 451, .inl (fun _ => 0))), (q3, .inl (cy 1, 451, .inl (fun _ => 0))), (q4, .inl (cy 1, 60, .inl (fun _ => 0)))] := hD
  refine lv_aload_n hx hb dX5_init_48 rfl (lv_at hl 0 rfl) ?_
  refine lv_bipush (v := 64) hx hb dX5_init_49 (by decide) ?_
  refine z_newI (N := 64) S (List.mem_of_getElem? (i := 4) rfl) hK hP hD hS hA (by decide) (by decide) (by decide) (Nat.le_of_ble_eq_true rfl) (Nat.le_of_ble_eq_true rfl) dX5_init_51 (fun q5 H hP hD hS => ?_)
  have hP : va_P D vwCl [(h0, .inr (5, [.ref q0, .ref q1, .int 0, .ref q2, .int 0, .ref q3, .ref q4, .int 0, .int 0, .null, .null, .int 0, .int 0])), (q0, .inl (cy 1, 451, .inl (fun _ => 0))), (q1, .inl (cy 1, 1804, .inl (fun _ => 0))), (q2, .inl (cy 1, 451, .inl (fun _ => 0))), (q3, .inl (cy 1, 451, .inl (fun _ => 0))), (q4, .inl (cy 1, 60, .inl (fun _ => 0))), (q5, .inl (cy 1, 64, .inl (fun _ => 0)))] H := hP
  have hD : va_D A [(h0, .inr (5, [.ref q0, .ref q1, .int 0, .ref q2, .int 0, .ref q3, .ref q4, .int 0, .int 0, .null, .null, .int 0, .int 0])), (q0, .inl (cy 1, 451, .inl (fun _ => 0))), (q1, .inl (cy 1, 1804, .inl (fun _ => 0))), (q2, .inl (cy 1, 451, .inl (fun _ => 0))), (q3, .inl (cy 1, 451, .inl (fun _ => 0))), (q4, .inl (cy 1, 60, .inl (fun _ => 0))), (q5, .inl (cy 1, 64, .inl (fun _ => 0)))] := hD
  refine W.widen (k := 6) (n := 3281) (by decide) (by decide) ?_
  refine va_putF (D := D) (ci := 5) (v := .ref q5) (ty := .array .int) (C := RX5) (T := TX5) (N := 13) hx hb hts inI_X5_X5 tyX5 tyX5_ok nmX5 hown hK hP hD hS 0 rfl rfl 9 (by decide) (hts _ (List.mem_of_getElem? (i := 10) rfl)) (fun _ h9 => h9) rfl hnm rfl (by decide +kernel) rfl rfl (Nat.le_of_ble_eq_true rfl) dX5_init_53 (fun H locs hP hD hS => ?_)
  have hP : va_P D vwCl [(h0, .inr (5, [.ref q0, .ref q1, .int 0, .ref q2, .int 0, .ref q3, .ref q4, .int 0, .int 0, .ref q5, .null, .int 0, .int 0])), (q0, .inl (cy 1, 451, .inl (fun _ => 0))), (q1, .inl (cy 1, 1804, .inl (fun _ => 0))), (q2, .inl (cy 1, 451, .inl (fun _ => 0))), (q3, .inl (cy 1, 451, .inl (fun _ => 0))), (q4, .inl (cy 1, 60, .inl (fun _ => 0))), (q5, .inl (cy 1, 64, .inl (fun _ => 0)))] H := hP
  have hD : va_D A [(h0, .inr (5, [.ref q0, .ref q1, .int 0, .ref q2, .int 0, .ref q3, .ref q4, .int 0, .int 0, .ref q5, .null, .int 0, .int 0])), (q0, .inl (cy 1, 451, .inl (fun _ => 0))), (q1, .inl (cy 1, 1804, .inl (fun _ => 0))), (q2, .inl (cy 1, 451, .inl (fun _ => 0))), (q3, .inl (cy 1, 451, .inl (fun _ => 0))), (q4, .inl (cy 1, 60, .inl (fun _ => 0))), (q5, .inl (cy 1, 64, .inl (fun _ => 0)))] := hD
  refine lv_aload_n hx hb dX5_init_56 rfl (lv_at hl 0 rfl) ?_
  refine lv_bipush (v := 60) hx hb dX5_init_57 (by decide) ?_
  refine z_newI (N := 60) S (List.mem_of_getElem? (i := 4) rfl) hK hP hD hS hA (by decide) (by decide) (by decide) (Nat.le_of_ble_eq_true rfl) (Nat.le_of_ble_eq_true rfl) dX5_init_59 (fun q6 H hP hD hS => ?_)
  have hP : va_P D vwCl [(h0, .inr (5, [.ref q0, .ref q1, .int 0, .ref q2, .int 0, .ref q3, .ref q4, .int 0, .int 0, .ref q5, .null, .int 0, .int 0])), (q0, .inl (cy 1, 451, .inl (fun _ => 0))), (q1, .inl (cy 1, 1804, .inl (fun _ => 0))), (q2, .inl (cy 1, 451, .inl (fun _ => 0))), (q3, .inl (cy 1, 451, .inl (fun _ => 0))), (q4, .inl (cy 1, 60, .inl (fun _ => 0))), (q5, .inl (cy 1, 64, .inl (fun _ => 0))), (q6, .inl (cy 1, 60, .inl (fun _ => 0)))] H := hP
  have hD : va_D A [(h0, .inr (5, [.ref q0, .ref q1, .int 0, .ref q2, .int 0, .ref q3, .ref q4, .int 0, .int 0, .ref q5, .null, .int 0, .int 0])), (q0, .inl (cy 1, 451, .inl (fun _ => 0))), (q1, .inl (cy 1, 1804, .inl (fun _ => 0))), (q2, .inl (cy 1, 451, .inl (fun _ => 0))), (q3, .inl (cy 1, 451, .inl (fun _ => 0))), (q4, .inl (cy 1, 60, .inl (fun _ => 0))), (q5, .inl (cy 1, 64, .inl (fun _ => 0))), (q6, .inl (cy 1, 60, .inl (fun _ => 0)))] := hD
  refine W.widen (k := 7) (n := 3341) (by decide) (by decide) ?_
  refine va_putF (D := D) (ci := 5) (v := .ref q6) (ty := .array .int) (C := RX5) (T := TX5) (N := 13) hx hb hts inI_X5_X5 tyX5 tyX5_ok nmX5 hown hK hP hD hS 0 rfl rfl 10 (by decide) (hts _ (List.mem_of_getElem? (i := 11) rfl)) (fun _ h9 => h9) rfl hnm rfl (by decide +kernel) rfl rfl (Nat.le_of_ble_eq_true rfl) dX5_init_61 (fun H locs hP hD hS => ?_)
  have hP : va_P D vwCl [(h0, .inr (5, [.ref q0, .ref q1, .int 0, .ref q2, .int 0, .ref q3, .ref q4, .int 0, .int 0, .ref q5, .ref q6, .int 0, .int 0])), (q0, .inl (cy 1, 451, .inl (fun _ => 0))), (q1, .inl (cy 1, 1804, .inl (fun _ => 0))), (q2, .inl (cy 1, 451, .inl (fun _ => 0))), (q3, .inl (cy 1, 451, .inl (fun _ => 0))), (q4, .inl (cy 1, 60, .inl (fun _ => 0))), (q5, .inl (cy 1, 64, .inl (fun _ => 0))), (q6, .inl (cy 1, 60, .inl (fun _ => 0)))] H := hP
  have hD : va_D A [(h0, .inr (5, [.ref q0, .ref q1, .int 0, .ref q2, .int 0, .ref q3, .ref q4, .int 0, .int 0, .ref q5, .ref q6, .int 0, .int 0])), (q0, .inl (cy 1, 451, .inl (fun _ => 0))), (q1, .inl (cy 1, 1804, .inl (fun _ => 0))), (q2, .inl (cy 1, 451, .inl (fun _ => 0))), (q3, .inl (cy 1, 451, .inl (fun _ => 0))), (q4, .inl (cy 1, 60, .inl (fun _ => 0))), (q5, .inl (cy 1, 64, .inl (fun _ => 0))), (q6, .inl (cy 1, 60, .inl (fun _ => 0)))] := hD
  exact W.vret hx hb hr (fun t ht hW => ⟨⟨fun k => match k with | 0 => q0 | 1 => q1 | 2 => q2 | 3 => q3 | 4 => q4 | 5 => q5 | _ => q6, rfl, trivial, by rw [ht]; exact hP, hD⟩, hS.F ht⟩) hS.2.2 dX5_init_64
