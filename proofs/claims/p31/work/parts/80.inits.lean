/-! The constructors: worlds are lists of cells, up to their order -/
theorem wd_nd {A : Nat → Prop} {ws : va_W} : va_D A ws ↔ (ws.map (fun q => q.1)).Nodup ∧ ∀ q ∈ ws, A q.1 := by
  constructor
  · intro h
    refine ⟨List.pairwise_iff_getElem.mpr (fun i j hi hj hij e => ?_), fun q hq => ?_⟩
    · rw [List.length_map] at hi hj
      rw [List.getElem_map, List.getElem_map] at e
      have := h.1 i j ws[i] ws[j] (List.getElem?_eq_getElem hi) (List.getElem?_eq_getElem hj) e
      omega
    · obtain ⟨i, hi⟩ := List.getElem?_of_mem hq
      exact h.2 i q hi
  · intro ⟨h1, h2⟩
    have key : ∀ (i j : Nat) (p q : Nat × va_E), i < j → ws[i]? = some p → ws[j]? = some q → p.1 ≠ q.1 := by
      intro i j p q hij hp hq e
      obtain ⟨hi, rfl⟩ := List.getElem?_eq_some_iff.mp hp
      obtain ⟨hj, rfl⟩ := List.getElem?_eq_some_iff.mp hq
      have := List.pairwise_iff_getElem.mp h1 i j (by rw [List.length_map]; exact hi) (by rw [List.length_map]; exact hj) hij
      rw [List.getElem_map, List.getElem_map] at this
      exact this e
    refine ⟨fun i j p q hp hq e => ?_, fun k q hk => h2 q (List.mem_of_getElem? hk)⟩
    rcases Nat.lt_trichotomy i j with h | h | h
    · exact absurd e (key i j p q h hp hq)
    · exact h
    · exact absurd e.symm (key j i q p h hq hp)
theorem wp_D {A : Nat → Prop} {ws ws' : va_W} (h : va_D A ws) (hp : ws.Perm ws') : va_D A ws' := by
  obtain ⟨h1, h2⟩ := wd_nd.mp h
  exact wd_nd.mpr ⟨(hp.map _).nodup h1, fun q hq => h2 q (hp.mem_iff.mpr hq)⟩
theorem wp_P {D : va_G} {cl : List vw_C} {ws ws' : va_W} {H : Heap} (h : va_P D cl ws H) (hp : ws.Perm ws') : va_P D cl ws' H := by
  intro k q hk
  obtain ⟨i, hi⟩ := List.getElem?_of_mem (hp.mem_iff.mpr (List.mem_of_getElem? hk))
  exact h i q hi
/-- what a constructor finds: its object, the tables -/
def Ini (D : va_G) (cy : Nat → ClassId) (ws : va_W) (sz : Nat) (U : State) : Prop := U.heap.size = sz ∧ va_P D vwCl ws U.heap ∧ va_D (fun _ => True) ws ∧ va_K D vwCl (tysOf cy) U ∧ va_AO RX0 U ∧ va_AO RX1 U
theorem Ini.blind {D : va_G} {cy : Nat → ClassId} {ws : va_W} {sz : Nat} {av : List Value} : FrameBlind (va_Pc av (Ini D cy ws sz)) := fun a U g mk q => by
  obtain ⟨h0, h1, h2, h3, h4, h5, h6⟩ := q
  have hv : U.vm.Alike (U.calling g mk a).vm := Vm.Alike.refl U.vm
  exact ⟨h0, h1, h2, h3, va_K.moved hv h4, va_AO.moved hv h5, va_AO.moved hv h6⟩
/-- a constructor's contract: out of the object (ci, fs) the cells W -/
def ConI {S : Type} (l : Launch) (D : va_G) (cy : Nat → ClassId) (y : MethodName) (ws : List Cond) (rm : Room) (ci : Nat) (fs : List Value) (W : Nat → S → va_W) (mc ms : Nat) : Prop :=
  ∀ h0 sz, Met l y ws rm (va_Pc [.ref h0] (Ini D cy [(h0, .inr (ci, fs))] sz)) (va_Qv (S := S) (fun _ => True) (fun a t => va_P D vwCl (W h0 a) t.heap ∧ va_D (va_A [(h0, .inr (ci, fs))] sz) (W h0 a)) (va_A [(h0, .inr (ci, fs))] sz)) mc ms (va_A [(h0, .inr (ci, fs))] sz)
theorem coni_start {S : Type} {l : Launch} {D : va_G} {cy : Nat → ClassId} {y : MethodName} {ws ws' : List Cond} {rm : Room} {ci : Nat} {fs : List Value} {W0 : Nat → S → va_W} {mc ms : Nat} {cc : ByteArray} {maxL : Nat} (hy : plainName y.cls = true) (hyn : y.name = "<init>") (hw : ws = Cond.code y cc maxL none :: ws') (hn : ((lg_sl [Value.ref 0]).length ≤ maxL))
    (body : ∀ (p : Program) (e : Env) (s : State) (m : MethodId) (args : Array Value) (below : List Frame) (meth : Method) (c : Code) (h0 : Nat) (A : Nat → Prop) (ls : Array Slot), CallFix p m c cc maxL s args ws y.cls → meth.sig.returnType = none → meth.locks = false → meth.name = "<init>" → va_K D vwCl (tysOf cy) s → va_AO RX0 s → va_AO RX1 s → (∀ q : Nat, s.heap.size ≤ q → A q) → va_P D vwCl [(h0, .inr (ci, fs))] s.heap → va_D A [(h0, .inr (ci, fs))] → lv_has ls maxL [(0, .ref h0)] →
      W p l e rm s m args below meth c s.heap [] 0 0 (MQ below (va_Qv (S := S) (fun _ => True) (fun a t => va_P D vwCl (W0 h0 a) t.heap ∧ va_D A (W0 h0 a)) A) args s mc ms A) (F0 m 0 ls [])) : ConI l D cy y ws rm ci fs W0 mc ms := by
  intro h0 sz
  refine Met.ofW (cc := cc) (maxL := maxL) (ret := none) hy hw ?_
  intro p e s m args below meth c s₁ B hml hv
  obtain ⟨rfl, hsz, hP, hD, hK, ha0, ha1⟩ := hv
  subst hsz
  have hts := atoms_spec (ws := ws) B.pre
  have hD2 := hD.self (sz := s.heap.size)
  generalize hAe : va_A [(h0, .inr (ci, fs))] s.heap.size = A at hD2 ⊢
  have hA : ∀ q : Nat, s.heap.size ≤ q → A q := fun q h => by rw [← hAe]; exact Or.inr h
  rw [lg_entry_eq]
  exact body p e s m _ below meth c h0 A _ ⟨B.exec, B.bytes, hml, findClass_of_methodNamed B.named, hts⟩ B.returns B.notSynchronized ((name_of_methodNamed B.named B.method).1.trans hyn) hK ha0 ha1 hA hP hD2 (lv_entry [.ref h0] hn)
/-- the array classes are those of the tables -/
theorem cy_of {D : va_G} {cy : Nat → ClassId} {s : State} {cA : ClassId} {ty : FieldType} (k : Nat) (hK : va_K D vwCl (tysOf cy) s) (hK' : va_K D vwCl (tysOf cy ++ [(cA, ty)]) s) (hk : (tysOf cy)[k]? = some (cy k, ty)) : cA = cy k := by
  have h1 := (hK.2 k _ hk).2
  have h2 := (hK'.2 5 (cA, ty) rfl).2
  cases ty with
  | object C =>
    obtain ⟨-, -, -, -, -, e1⟩ := h1
    obtain ⟨-, -, -, -, -, e2⟩ := h2
    exact Option.some.inj (e2.symm.trans e1)
  | _ => exact Option.some.inj ((show s.vm.findClass _ = some cA from h2).symm.trans h1)
section INITS
variable {p : Program} {l : Launch} {e : Env} {R : Room} {s : State} {m : MethodId} {args : Array Value} {below : List Frame} {meth : Method} {c : Code} {H : Heap} {locs : List Loc} {cells slots : Nat} {Q : State → Prop}
variable {cc : ByteArray} {pc : Nat} {ls : Array Slot} {rest : List Value} {D : va_G} {cy : Nat → ClassId} {A : Nat → Prop} {ws : va_W} {Ts : List Cond} {own : String} {nL : Nat}
theorem z_newL (S : CallFix p m c cc nL s args Ts own) (hw : Cond.arrayClass .long ∈ Ts) (hK : va_K D vwCl (tysOf cy) s) (hP : va_P D vwCl ws H) (hD : va_D A ws) (hS : va_S A s.heap H locs) (hA : ∀ q : Nat, s.heap.size ≤ q → A q) {n : Int32} {N : Nat} (hn : ¬ n < 0) (hN : n.toNatClampNeg = N) (hb8 : N * 8 ≤ 536870912) (hc : cells + 1 ≤ R.cells) (hs : slots + N ≤ R.slots) (hdg : decode cc pc = .ok (.newarray .long, 2))
    (kk : ∀ (q : Nat) (H1 : Heap), va_P D vwCl (ws ++ [(q, .inl (cy 0, N, .inr (.inl (fun _ => 0))))]) H1 → va_D A (ws ++ [(q, .inl (cy 0, N, .inr (.inl (fun _ => 0))))]) → va_S A s.heap H1 locs → W p l e R s m args below meth c H1 locs (cells + 1) (slots + N) Q (F0 m (pc + 2) ls (.ref q :: rest))) : W p l e R s m args below meth c H locs cells slots Q (F0 m pc ls (.int n :: rest)) := by
  refine va_newa (atype := .long) S.1 S.2.1 (S.2.2.2.2 _ hw) rfl hK hP hD hS hA (a0 := (N, .inr (.inl (fun _ => 0)))) (fun _ => rfl) hn hN hb8 hc hs hdg (fun q cA H1 hK' hP' hD' hS' => ?_)
  have e := cy_of 0 hK hK' rfl
  subst e
  exact kk q H1 hP' hD' hS'
theorem z_newI (S : CallFix p m c cc nL s args Ts own) (hw : Cond.arrayClass .int ∈ Ts) (hK : va_K D vwCl (tysOf cy) s) (hP : va_P D vwCl ws H) (hD : va_D A ws) (hS : va_S A s.heap H locs) (hA : ∀ q : Nat, s.heap.size ≤ q → A q) {n : Int32} {N : Nat} (hn : ¬ n < 0) (hN : n.toNatClampNeg = N) (hb8 : N * 4 ≤ 536870912) (hc : cells + 1 ≤ R.cells) (hs : slots + N ≤ R.slots) (hdg : decode cc pc = .ok (.newarray .int, 2))
    (kk : ∀ (q : Nat) (H1 : Heap), va_P D vwCl (ws ++ [(q, .inl (cy 1, N, .inl (fun _ => 0)))]) H1 → va_D A (ws ++ [(q, .inl (cy 1, N, .inl (fun _ => 0)))]) → va_S A s.heap H1 locs → W p l e R s m args below meth c H1 locs (cells + 1) (slots + N) Q (F0 m (pc + 2) ls (.ref q :: rest))) : W p l e R s m args below meth c H locs cells slots Q (F0 m pc ls (.int n :: rest)) := by
  refine va_newa (atype := .int) S.1 S.2.1 (S.2.2.2.2 _ hw) rfl hK hP hD hS hA (a0 := (N, .inl (fun _ => 0))) (fun _ => rfl) hn hN hb8 hc hs hdg (fun q cA H1 hK' hP' hD' hS' => ?_)
  have e := cy_of 1 hK hK' rfl
  subst e
  exact kk q H1 hP' hD' hS'
theorem z_newC (S : CallFix p m c cc nL s args Ts own) (hw : Cond.arrayClass .char ∈ Ts) (hK : va_K D vwCl (tysOf cy) s) (hP : va_P D vwCl ws H) (hD : va_D A ws) (hS : va_S A s.heap H locs) (hA : ∀ q : Nat, s.heap.size ≤ q → A q) {n : Int32} {N : Nat} (hn : ¬ n < 0) (hN : n.toNatClampNeg = N) (hb8 : N * 2 ≤ 536870912) (hc : cells + 1 ≤ R.cells) (hs : slots + N ≤ R.slots) (hdg : decode cc pc = .ok (.newarray .char, 2))
    (kk : ∀ (q : Nat) (H1 : Heap), va_P D vwCl (ws ++ [(q, .inl (cy 2, N, .inl (fun _ => 0)))]) H1 → va_D A (ws ++ [(q, .inl (cy 2, N, .inl (fun _ => 0)))]) → va_S A s.heap H1 locs → W p l e R s m args below meth c H1 locs (cells + 1) (slots + N) Q (F0 m (pc + 2) ls (.ref q :: rest))) : W p l e R s m args below meth c H locs cells slots Q (F0 m pc ls (.int n :: rest)) := by
  refine va_newa (atype := .char) S.1 S.2.1 (S.2.2.2.2 _ hw) rfl hK hP hD hS hA (a0 := (N, .inl (fun _ => 0))) (fun _ => rfl) hn hN hb8 hc hs hdg (fun q cA H1 hK' hP' hD' hS' => ?_)
  have e := cy_of 2 hK hK' rfl
  subst e
  exact kk q H1 hP' hD' hS'
theorem z_newq (S : CallFix p m c cc nL s args Ts own) (k : Nat) {C : String} {index : Nat} (hw : Cond.classLink own index C ∈ Ts) (hao : va_AO C s) (hk : (tysOf cy)[k]? = some (cy k, .object C)) (hK : va_K D vwCl (tysOf cy) s) (hP : va_P D vwCl ws H) (hD : va_D A ws) (hS : va_S A s.heap H locs) (hA : ∀ q : Nat, s.heap.size ≤ q → A q) {n : Int32} {N : Nat} (hn : ¬ n < 0) (hN : n.toNatClampNeg = N) (hb8 : N * 4 ≤ 536870912) (hc : cells + 1 ≤ R.cells) (hs : slots + N ≤ R.slots) (hdg : decode cc pc = .ok (.anewarray index, 3))
    (kk : ∀ (q : Nat) (H1 : Heap), va_P D vwCl (ws ++ [(q, .inl (cy k, N, .inr (.inr (.inr (.inr (fun _ => none))))))]) H1 → va_D A (ws ++ [(q, .inl (cy k, N, .inr (.inr (.inr (.inr (fun _ => none))))))]) → va_S A s.heap H1 locs → W p l e R s m args below meth c H1 locs (cells + 1) (slots + N) Q (F0 m (pc + 3) ls (.ref q :: rest))) : W p l e R s m args below meth c H locs cells slots Q (F0 m pc ls (.int n :: rest)) := by
  refine va_newq S.1 S.2.1 S.2.2.2.1 (S.2.2.2.2 _ hw) hao hK hP hD hS hA hn hN hb8 hc hs hdg (fun q cA H1 hK' hP' hD' hS' => ?_)
  have e := cy_of k hK hK' hk
  subst e
  exact kk q H1 hP' hD' hS'
/-- an object is made, and its constructor runs -/
theorem z_make (S : CallFix p m c cc nL s args Ts own) (hK : va_K D vwCl (tysOf cy) s) (ha0 : va_AO RX0 s) (ha1 : va_AO RX1 s) (hP : va_P D vwCl ws H) (hD : va_D A ws) (hS : va_S A s.heap H locs) (hA : ∀ q : Nat, s.heap.size ≤ q → A q) (hl : ls.size = nL)
    {S0 : Type} {y : MethodName} {wy wy' : List Cond} {rm : Room} {ci N i1 i2 maxL mc ms : Nat} {C : String} {T : u_T} {fs : List Value} {W0 : Nat → S0 → va_W} {bytes : ByteArray} (hI : ConI l D cy y wy rm ci fs W0 mc ms) (hcl : vwCl[ci]? = some (C, T, N)) (hin : ∀ w ∈ u_ws C T N, w ∈ Ts) (ty : Nat → FieldType) (hty : ∀ k, k < N → parseFieldDescriptor (T k).2.2.1 = some (ty k)) (hfs : ∀ j, j < N → defaultValue (ty j) = vp_V fs j) (w1 : Cond.classLink own i1 C ∈ Ts) (w2 : Cond.instantiable C N ∈ Ts) (w3 : Cond.initialized C ∈ Ts)
    (hG : GoodIn Ts wy) (hw : wy = Cond.code y bytes maxL none :: wy') (hrc : rm.cells = mc) (hrs : rm.slots = ms) (hyc : y.cls = C) (w4 : Cond.methodLink own i2 y ∈ Ts) (w5 : Cond.instanceMethod y ∈ Ts) (hyn : y.name = "<init>") (hd : y.cls ≠ "java/lang/invoke/MethodHandle" ∧ y.cls ≠ "java/lang/invoke/VarHandle" ∧ (parseMethodDescriptor y.desc).map (fun d => d.parameters.length) = some 0) (hR : rm.frames + 1 ≤ R.frames ∧ 8 + (maxL + 11) + rm.locals ≤ R.locals)
    (hc : cells + 1 + mc ≤ R.cells) (hs : slots + N + ms ≤ R.slots) (hst : (rest.map fun v => v.category).sum + 1 ≤ 8) (d1 : decode cc pc = .ok (.new i1, 3)) (d2 : decode cc (pc + 3) = .ok (.dup, 1)) (d3 : decode cc (pc + 4) = .ok (.invokespecial i2, 3))
    (kk : ∀ (q : Nat) (a : S0) (H1 : Heap) (locs1 : List Loc), va_P D vwCl (W0 q a ++ ws) H1 → va_D A (W0 q a ++ ws) → va_S A s.heap H1 locs1 → W p l e R s m args below meth c H1 locs1 (cells + 1 + mc) (slots + N + ms) Q (F0 m (pc + 7) ls (.ref q :: rest))) : W p l e R s m args below meth c H locs cells slots Q (F0 m pc ls rest) := by
  have hts := S.2.2.2.2
  refine va_new (ci := ci) (fs := fs) S.1 S.2.1 hts hin ty hty S.2.2.2.1 (hts _ w1) (hts _ w2) (hts _ w3) hK hP hD hS hA hcl hfs (by omega) (by omega) d1 (fun q H1 hP hD hS => ?_)
  refine lv_dup S.1 S.2.1 d2 rfl ?_
  have hP : va_P D vwCl ([(q, .inr (ci, fs))] ++ ws) H1 := wp_P hP List.perm_append_comm
  have hD : va_D A ([(q, .inr (ci, fs))] ++ ws) := wp_D hD List.perm_append_comm
  have hPc : va_P D vwCl [(q, .inr (ci, fs))] H1 := hP.sub [0] rfl
  have hDc : va_D A [(q, .inr (ci, fs))] := hD.sub [0] (by decide) rfl
  have hFc := va_free (wc := [(q, .inr (ci, fs))]) hD hS hA [0] rfl
  refine va_callv (va_runI (As := []) (rest := .ref q :: rest) S (hI q H1.size) (cwI 0 hts hG hw hrc hrs (by rw [hyc]; exact hts _ w3) (hts _ w4) (hts _ w5) hyn hd hR) ⟨Ini.blind, fun U hU hW => ⟨rfl, by rw [hU], by rw [hU]; exact hPc, hDc.weaken (fun _ _ _ _ => trivial), va_K.moved hW.alike hK, va_AO.moved hW.alike ha0, va_AO.moved hW.alike ha1⟩⟩ rfl rfl hl rfl (lv_room (by rw [List.map_cons, List.sum_cons]; show 1 + _ ≤ 8; omega)) d3 ⟨hc, hs⟩) hS (fun q _ h => hFc q h) hFc (fun a t H2 locs1 ht hvm _ hB hz1 hk1 hS => ?_)
  obtain ⟨hP1, hD1⟩ := hB
  rw [ht] at hP1
  obtain ⟨hP, hD⟩ := va_joinQ (X := [(q, .inr (ci, fs))]) (cx := [(q, .inr (ci, fs))]) (wr := []) (w1 := W0 q a) (pl := ws) hP hD [0] [] rfl rfl rfl (by simp) hk1 hFc hP1 hD1
  exact kk q a H2 locs1 hP hD hS
end INITS
/-- a set's cells, as its constructor leaves them -/
def zfW (cy : Nat → ClassId) (h0 : Nat) (a : Nat → Nat) : va_W := [(h0, .inr (0, [.ref (a 0), .ref (a 1), .ref (a 2), .ref (a 3), .int 0, .int 0, .int 0])), (a 0, .inl (cy 0, 32, .inr (.inl (fun _ => 0)))), (a 1, .inl (cy 1, 8, .inl (fun _ => 0))), (a 2, .inl (cy 1, 8, .inl (fun _ => 0))), (a 3, .inl (cy 1, 8, .inl (fun _ => 0)))]
def zrW (cy : Nat → ClassId) (h0 : Nat) (a : Nat → Nat) : va_W := [(h0, .inr (3, [.ref (a 0), .ref (a 1), .ref (a 2), .int 0, .int 0])), (a 0, .inl (cy 2, 60, .inl (fun _ => 0))), (a 1, .inl (cy 1, 30, .inl (fun _ => 0))), (a 2, .inl (cy 1, 30, .inl (fun _ => 0)))]
theorem inI_X0_X0 : ∀ w ∈ wsX00, w ∈ wsX0_init := by decide +kernel
theorem inI_X3_X3 : ∀ w ∈ wsX30, w ∈ wsX3_init := by decide +kernel
set_option maxHeartbeats 1000000 in
set_option maxRecDepth 100000 in
theorem i_X0 (l : Launch) (D : va_G) (cy : Nat → ClassId) : ConI l D cy yX0_init wsX0_init { frames := 1, cells := 4, slots := 56, locals := 12 } 0 [.null, .null, .null, .null, .int 0, .int 0, .int 0] (zfW cy) 4 56 := by
  refine coni_start (cc := cX0_init) (maxL := 1) (by decide) rfl rfl (Nat.le_of_ble_eq_true rfl) ?_
  intro p e s m args below meth c h0 A ls S hr hlocks hnm hK ha0 ha1 hA hP hD hl
  have hown : s.vm.findClass RX0 = some m.cls := S.2.2.2.1
  obtain ⟨hx, hb, hml, -, hts⟩ := id S
  have hS : va_S A s.heap s.heap [] := va_S.rf
  refine lv_aload_n hx hb dX0_init_0 rfl (lv_at hl 0 rfl) ?_
  refine W.objInit hx hb hown (hts _ (List.mem_of_getElem? (i := 1) rfl : Cond.methodLink RX0 3 objectInit ∈ wsX0_init)) (hts _ (List.mem_of_getElem? (i := 2) rfl : Cond.instanceMethod objectInit ∈ wsX0_init)) (hts _ (List.mem_of_getElem? (i := 3) rfl : Cond.code objectInit ⟨#[0xb1]⟩ 1 none ∈ wsX0_init)) rfl (by rw [hml]; exact hl.1) rfl dX0_init_1 (Nat.le_of_ble_eq_true rfl) (Nat.le_of_ble_eq_true rfl) ?_
  refine W.eq (g2 := F0 m 4 ls []) rfl ?_
  refine lv_aload_n hx hb dX0_init_4 rfl (lv_at hl 0 rfl) ?_
  refine lv_bipush (v := 32) hx hb dX0_init_5 (by decide) ?_
  refine z_newL (N := 32) S (List.mem_of_getElem? (i := 4) rfl) hK hP hD hS hA (by decide) (by decide) (by decide) (Nat.le_of_ble_eq_true rfl) (Nat.le_of_ble_eq_true rfl) dX0_init_7 (fun q0 H hP hD hS => ?_)
  have hP : va_P D vwCl [(h0, .inr (0, [.null, .null, .null, .null, .int 0, .int 0, .int 0])), (q0, .inl (cy 0, 32, .inr (.inl (fun _ => 0))))] H := hP
  have hD : va_D A [(h0, .inr (0, [.null, .null, .null, .null, .int 0, .int 0, .int 0])), (q0, .inl (cy 0, 32, .inr (.inl (fun _ => 0))))] := hD
  refine W.widen (k := 1) (n := 32) (by decide) (by decide) ?_
  refine va_putF (D := D) (ci := 0) (v := .ref q0) (ty := .array .long) (C := RX0) (T := TX0) (N := 7) hx hb hts inI_X0_X0 tyX0 tyX0_ok nmX0 hown hK hP hD hS 0 rfl rfl 0 (by decide) (hts _ (List.mem_of_getElem? (i := 5) rfl)) (fun _ h9 => h9) rfl hnm rfl (by decide +kernel) rfl rfl (Nat.le_of_ble_eq_true rfl) dX0_init_9 (fun H locs hP hD hS => ?_)
  have hP : va_P D vwCl [(h0, .inr (0, [.ref q0, .null, .null, .null, .int 0, .int 0, .int 0])), (q0, .inl (cy 0, 32, .inr (.inl (fun _ => 0))))] H := hP
  have hD : va_D A [(h0, .inr (0, [.ref q0, .null, .null, .null, .int 0, .int 0, .int 0])), (q0, .inl (cy 0, 32, .inr (.inl (fun _ => 0))))] := hD
  refine lv_aload_n hx hb dX0_init_12 rfl (lv_at hl 0 rfl) ?_
  refine lv_bipush (v := 8) hx hb dX0_init_13 (by decide) ?_
  refine z_newI (N := 8) S (List.mem_of_getElem? (i := 6) rfl) hK hP hD hS hA (by decide) (by decide) (by decide) (Nat.le_of_ble_eq_true rfl) (Nat.le_of_ble_eq_true rfl) dX0_init_15 (fun q1 H hP hD hS => ?_)
  have hP : va_P D vwCl [(h0, .inr (0, [.ref q0, .null, .null, .null, .int 0, .int 0, .int 0])), (q0, .inl (cy 0, 32, .inr (.inl (fun _ => 0)))), (q1, .inl (cy 1, 8, .inl (fun _ => 0)))] H := hP
  have hD : va_D A [(h0, .inr (0, [.ref q0, .null, .null, .null, .int 0, .int 0, .int 0])), (q0, .inl (cy 0, 32, .inr (.inl (fun _ => 0)))), (q1, .inl (cy 1, 8, .inl (fun _ => 0)))] := hD
  refine W.widen (k := 2) (n := 40) (by decide) (by decide) ?_
  refine va_putF (D := D) (ci := 0) (v := .ref q1) (ty := .array .int) (C := RX0) (T := TX0) (N := 7) hx hb hts inI_X0_X0 tyX0 tyX0_ok nmX0 hown hK hP hD hS 0 rfl rfl 1 (by decide) (hts _ (List.mem_of_getElem? (i := 7) rfl)) (fun _ h9 => h9) rfl hnm rfl (by decide +kernel) rfl rfl (Nat.le_of_ble_eq_true rfl) dX0_init_17 (fun H locs hP hD hS => ?_)
  have hP : va_P D vwCl [(h0, .inr (0, [.ref q0, .ref q1, .null, .null, .int 0, .int 0, .int 0])), (q0, .inl (cy 0, 32, .inr (.inl (fun _ => 0)))), (q1, .inl (cy 1, 8, .inl (fun _ => 0)))] H := hP
  have hD : va_D A [(h0, .inr (0, [.ref q0, .ref q1, .null, .null, .int 0, .int 0, .int 0])), (q0, .inl (cy 0, 32, .inr (.inl (fun _ => 0)))), (q1, .inl (cy 1, 8, .inl (fun _ => 0)))] := hD
  refine lv_aload_n hx hb dX0_init_20 rfl (lv_at hl 0 rfl) ?_
  refine lv_bipush (v := 8) hx hb dX0_init_21 (by decide) ?_
  refine z_newI (N := 8) S (List.mem_of_getElem? (i := 6) rfl) hK hP hD hS hA (by decide) (by decide) (by decide) (Nat.le_of_ble_eq_true rfl) (Nat.le_of_ble_eq_true rfl) dX0_init_23 (fun q2 H hP hD hS => ?_)
  have hP : va_P D vwCl [(h0, .inr (0, [.ref q0, .ref q1, .null, .null, .int 0, .int 0, .int 0])), (q0, .inl (cy 0, 32, .inr (.inl (fun _ => 0)))), (q1, .inl (cy 1, 8, .inl (fun _ => 0))), (q2, .inl (cy 1, 8, .inl (fun _ => 0)))] H := hP
  have hD : va_D A [(h0, .inr (0, [.ref q0, .ref q1, .null, .null, .int 0, .int 0, .int 0])), (q0, .inl (cy 0, 32, .inr (.inl (fun _ => 0)))), (q1, .inl (cy 1, 8, .inl (fun _ => 0))), (q2, .inl (cy 1, 8, .inl (fun _ => 0)))] := hD
  refine W.widen (k := 3) (n := 48) (by decide) (by decide) ?_
  refine va_putF (D := D) (ci := 0) (v := .ref q2) (ty := .array .int) (C := RX0) (T := TX0) (N := 7) hx hb hts inI_X0_X0 tyX0 tyX0_ok nmX0 hown hK hP hD hS 0 rfl rfl 2 (by decide) (hts _ (List.mem_of_getElem? (i := 8) rfl)) (fun _ h9 => h9) rfl hnm rfl (by decide +kernel) rfl rfl (Nat.le_of_ble_eq_true rfl) dX0_init_25 (fun H locs hP hD hS => ?_)
  have hP : va_P D vwCl [(h0, .inr (0, [.ref q0, .ref q1, .ref q2, .null, .int 0, .int 0, .int 0])), (q0, .inl (cy 0, 32, .inr (.inl (fun _ => 0)))), (q1, .inl (cy 1, 8, .inl (fun _ => 0))), (q2, .inl (cy 1, 8, .inl (fun _ => 0)))] H := hP
  have hD : va_D A [(h0, .inr (0, [.ref q0, .ref q1, .ref q2, .null, .int 0, .int 0, .int 0])), (q0, .inl (cy 0, 32, .inr (.inl (fun _ => 0)))), (q1, .inl (cy 1, 8, .inl (fun _ => 0))), (q2, .inl (cy 1, 8, .inl (fun _ => 0)))] := hD
  refine lv_aload_n hx hb dX0_init_28 rfl (lv_at hl 0 rfl) ?_
  refine lv_bipush (v := 8) hx hb dX0_init_29 (by decide) ?_
  refine z_newI (N := 8) S (List.mem_of_getElem? (i := 6) rfl) hK hP hD hS hA (by decide) (by decide) (by decide) (Nat.le_of_ble_eq_true rfl) (Nat.le_of_ble_eq_true rfl) dX0_init_31 (fun q3 H hP hD hS => ?_)
  have hP : va_P D vwCl [(h0, .inr (0, [.ref q0, .ref q1, .ref q2, .null, .int 0, .int 0, .int 0])), (q0, .inl (cy 0, 32, .inr (.inl (fun _ => 0)))), (q1, .inl (cy 1, 8, .inl (fun _ => 0))), (q2, .inl (cy 1, 8, .inl (fun _ => 0))), (q3, .inl (cy 1, 8, .inl (fun _ => 0)))] H := hP
  have hD : va_D A [(h0, .inr (0, [.ref q0, .ref q1, .ref q2, .null, .int 0, .int 0, .int 0])), (q0, .inl (cy 0, 32, .inr (.inl (fun _ => 0)))), (q1, .inl (cy 1, 8, .inl (fun _ => 0))), (q2, .inl (cy 1, 8, .inl (fun _ => 0))), (q3, .inl (cy 1, 8, .inl (fun _ => 0)))] := hD
  refine W.widen (k := 4) (n := 56) (by decide) (by decide) ?_
  refine va_putF (D := D) (ci := 0) (v := .ref q3) (ty := .array .int) (C := RX0) (T := TX0) (N := 7) hx hb hts inI_X0_X0 tyX0 tyX0_ok nmX0 hown hK hP hD hS 0 rfl rfl 3 (by decide) (hts _ (List.mem_of_getElem? (i := 9) rfl)) (fun _ h9 => h9) rfl hnm rfl (by decide +kernel) rfl rfl (Nat.le_of_ble_eq_true rfl) dX0_init_33 (fun H locs hP hD hS => ?_)
  have hP : va_P D vwCl [(h0, .inr (0, [.ref q0, .ref q1, .ref q2, .ref q3, .int 0, .int 0, .int 0])), (q0, .inl (cy 0, 32, .inr (.inl (fun _ => 0)))), (q1, .inl (cy 1, 8, .inl (fun _ => 0))), (q2, .inl (cy 1, 8, .inl (fun _ => 0))), (q3, .inl (cy 1, 8, .inl (fun _ => 0)))] H := hP
  have hD : va_D A [(h0, .inr (0, [.ref q0, .ref q1, .ref q2, .ref q3, .int 0, .int 0, .int 0])), (q0, .inl (cy 0, 32, .inr (.inl (fun _ => 0)))), (q1, .inl (cy 1, 8, .inl (fun _ => 0))), (q2, .inl (cy 1, 8, .inl (fun _ => 0))), (q3, .inl (cy 1, 8, .inl (fun _ => 0)))] := hD
  exact W.vret hx hb hr (fun t ht hW => ⟨⟨fun k => match k with | 0 => q0 | 1 => q1 | 2 => q2 | _ => q3, rfl, trivial, by rw [ht]; exact hP, hD⟩, hS.F ht⟩) hS.2.2 dX0_init_36
set_option maxHeartbeats 1000000 in
set_option maxRecDepth 100000 in
theorem i_X3 (l : Launch) (D : va_G) (cy : Nat → ClassId) : ConI l D cy yX3_init wsX3_init { frames := 1, cells := 3, slots := 120, locals := 12 } 3 [.null, .null, .null, .int 0, .int 0] (zrW cy) 3 120 := by
  refine coni_start (cc := cX3_init) (maxL := 1) (by decide) rfl rfl (Nat.le_of_ble_eq_true rfl) ?_
  intro p e s m args below meth c h0 A ls S hr hlocks hnm hK ha0 ha1 hA hP hD hl
  have hown : s.vm.findClass RX3 = some m.cls := S.2.2.2.1
  obtain ⟨hx, hb, hml, -, hts⟩ := id S
  have hS : va_S A s.heap s.heap [] := va_S.rf
  refine lv_aload_n hx hb dX3_init_0 rfl (lv_at hl 0 rfl) ?_
  refine W.objInit hx hb hown (hts _ (List.mem_of_getElem? (i := 1) rfl : Cond.methodLink RX3 3 objectInit ∈ wsX3_init)) (hts _ (List.mem_of_getElem? (i := 2) rfl : Cond.instanceMethod objectInit ∈ wsX3_init)) (hts _ (List.mem_of_getElem? (i := 3) rfl : Cond.code objectInit ⟨#[0xb1]⟩ 1 none ∈ wsX3_init)) rfl (by rw [hml]; exact hl.1) rfl dX3_init_1 (Nat.le_of_ble_eq_true rfl) (Nat.le_of_ble_eq_true rfl) ?_
  refine W.eq (g2 := F0 m 4 ls []) rfl ?_
  refine lv_aload_n hx hb dX3_init_4 rfl (lv_at hl 0 rfl) ?_
  refine lv_bipush (v := 60) hx hb dX3_init_5 (by decide) ?_
  refine z_newC (N := 60) S (List.mem_of_getElem? (i := 4) rfl) hK hP hD hS hA (by decide) (by decide) (by decide) (Nat.le_of_ble_eq_true rfl) (Nat.le_of_ble_eq_true rfl) dX3_init_7 (fun q0 H hP hD hS => ?_)
  have hP : va_P D vwCl [(h0, .inr (3, [.null, .null, .null, .int 0, .int 0])), (q0, .inl (cy 2, 60, .inl (fun _ => 0)))] H := hP
  have hD : va_D A [(h0, .inr (3, [.null, .null, .null, .int 0, .int 0])), (q0, .inl (cy 2, 60, .inl (fun _ => 0)))] := hD
  refine W.widen (k := 1) (n := 60) (by decide) (by decide) ?_
  refine va_putF (D := D) (ci := 3) (v := .ref q0) (ty := .array .char) (C := RX3) (T := TX3) (N := 5) hx hb hts inI_X3_X3 tyX3 tyX3_ok nmX3 hown hK hP hD hS 0 rfl rfl 0 (by decide) (hts _ (List.mem_of_getElem? (i := 5) rfl)) (fun _ h9 => h9) rfl hnm rfl (by decide +kernel) rfl rfl (Nat.le_of_ble_eq_true rfl) dX3_init_9 (fun H locs hP hD hS => ?_)
  have hP : va_P D vwCl [(h0, .inr (3, [.ref q0, .null, .null, .int 0, .int 0])), (q0, .inl (cy 2, 60, .inl (fun _ => 0)))] H := hP
  have hD : va_D A [(h0, .inr (3, [.ref q0, .null, .null, .int 0, .int 0])), (q0, .inl (cy 2, 60, .inl (fun _ => 0)))] := hD
  refine lv_aload_n hx hb dX3_init_12 rfl (lv_at hl 0 rfl) ?_
  refine lv_bipush (v := 30) hx hb dX3_init_13 (by decide) ?_
  refine z_newI (N := 30) S (List.mem_of_getElem? (i := 6) rfl) hK hP hD hS hA (by decide) (by decide) (by decide) (Nat.le_of_ble_eq_true rfl) (Nat.le_of_ble_eq_true rfl) dX3_init_15 (fun q1 H hP hD hS => ?_)
  have hP : va_P D vwCl [(h0, .inr (3, [.ref q0, .null, .null, .int 0, .int 0])), (q0, .inl (cy 2, 60, .inl (fun _ => 0))), (q1, .inl (cy 1, 30, .inl (fun _ => 0)))] H := hP
  have hD : va_D A [(h0, .inr (3, [.ref q0, .null, .null, .int 0, .int 0])), (q0, .inl (cy 2, 60, .inl (fun _ => 0))), (q1, .inl (cy 1, 30, .inl (fun _ => 0)))] := hD
  refine W.widen (k := 2) (n := 90) (by decide) (by decide) ?_
  refine va_putF (D := D) (ci := 3) (v := .ref q1) (ty := .array .int) (C := RX3) (T := TX3) (N := 5) hx hb hts inI_X3_X3 tyX3 tyX3_ok nmX3 hown hK hP hD hS 0 rfl rfl 1 (by decide) (hts _ (List.mem_of_getElem? (i := 7) rfl)) (fun _ h9 => h9) rfl hnm rfl (by decide +kernel) rfl rfl (Nat.le_of_ble_eq_true rfl) dX3_init_17 (fun H locs hP hD hS => ?_)
  have hP : va_P D vwCl [(h0, .inr (3, [.ref q0, .ref q1, .null, .int 0, .int 0])), (q0, .inl (cy 2, 60, .inl (fun _ => 0))), (q1, .inl (cy 1, 30, .inl (fun _ => 0)))] H := hP
  have hD : va_D A [(h0, .inr (3, [.ref q0, .ref q1, .null, .int 0, .int 0])), (q0, .inl (cy 2, 60, .inl (fun _ => 0))), (q1, .inl (cy 1, 30, .inl (fun _ => 0)))] := hD
  refine lv_aload_n hx hb dX3_init_20 rfl (lv_at hl 0 rfl) ?_
  refine lv_bipush (v := 30) hx hb dX3_init_21 (by decide) ?_
  refine z_newI (N := 30) S (List.mem_of_getElem? (i := 6) rfl) hK hP hD hS hA (by decide) (by decide) (by decide) (Nat.le_of_ble_eq_true rfl) (Nat.le_of_ble_eq_true rfl) dX3_init_23 (fun q2 H hP hD hS => ?_)
  have hP : va_P D vwCl [(h0, .inr (3, [.ref q0, .ref q1, .null, .int 0, .int 0])), (q0, .inl (cy 2, 60, .inl (fun _ => 0))), (q1, .inl (cy 1, 30, .inl (fun _ => 0))), (q2, .inl (cy 1, 30, .inl (fun _ => 0)))] H := hP
  have hD : va_D A [(h0, .inr (3, [.ref q0, .ref q1, .null, .int 0, .int 0])), (q0, .inl (cy 2, 60, .inl (fun _ => 0))), (q1, .inl (cy 1, 30, .inl (fun _ => 0))), (q2, .inl (cy 1, 30, .inl (fun _ => 0)))] := hD
  refine W.widen (k := 3) (n := 120) (by decide) (by decide) ?_
  refine va_putF (D := D) (ci := 3) (v := .ref q2) (ty := .array .int) (C := RX3) (T := TX3) (N := 5) hx hb hts inI_X3_X3 tyX3 tyX3_ok nmX3 hown hK hP hD hS 0 rfl rfl 2 (by decide) (hts _ (List.mem_of_getElem? (i := 8) rfl)) (fun _ h9 => h9) rfl hnm rfl (by decide +kernel) rfl rfl (Nat.le_of_ble_eq_true rfl) dX3_init_25 (fun H locs hP hD hS => ?_)
  have hP : va_P D vwCl [(h0, .inr (3, [.ref q0, .ref q1, .ref q2, .int 0, .int 0])), (q0, .inl (cy 2, 60, .inl (fun _ => 0))), (q1, .inl (cy 1, 30, .inl (fun _ => 0))), (q2, .inl (cy 1, 30, .inl (fun _ => 0)))] H := hP
  have hD : va_D A [(h0, .inr (3, [.ref q0, .ref q1, .ref q2, .int 0, .int 0])), (q0, .inl (cy 2, 60, .inl (fun _ => 0))), (q1, .inl (cy 1, 30, .inl (fun _ => 0))), (q2, .inl (cy 1, 30, .inl (fun _ => 0)))] := hD
  exact W.vret hx hb hr (fun t ht hW => ⟨⟨fun k => match k with | 0 => q0 | 1 => q1 | _ => q2, rfl, trivial, by rw [ht]; exact hP, hD⟩, hS.F ht⟩) hS.2.2 dX3_init_28

/-! The constructors of harbours, of the history, of BoatSets -/
def bLs {S : Type} (W : Nat → S → va_W) (g : Nat → Nat) (b : Nat → S) : Nat → va_W
  | 0 => []
  | j + 1 => W (g j) (b j) ++ bLs W g b j
theorem bLs_up {S : Type} {W : Nat → S → va_W} {g : Nat → Nat} {b : Nat → S} {k q : Nat} {a : S} : ∀ j, j ≤ k → bLs W (va_up g k q) (va_up b k a) j = bLs W g b j
  | 0, _ => rfl
  | j + 1, h => by
    show W (va_up g k q j) (va_up b k a j) ++ _ = _
    rw [va_up_ne _ _ (by omega), va_up_ne _ _ (by omega), bLs_up j (by omega)]
    rfl
theorem bLs_s {S : Type} {W : Nat → S → va_W} {g : Nat → Nat} {b : Nat → S} {k q : Nat} {a : S} : bLs W (va_up g k q) (va_up b k a) (k + 1) = W q a ++ bLs W g b k := by
  show W (va_up g k q k) (va_up b k a k) ++ _ = _
  rw [va_up_self, va_up_self, bLs_up k (Nat.le_refl _)]
/-- a row of references, filled up to j -/
def rwF (g : Nat → Nat) (j : Nat) : Nat → Option Nat := fun i => if i < j then some (g i) else none
theorem rwF_0 (g : Nat → Nat) : rwF g 0 = fun _ => none := by
  funext i
  unfold rwF
  rw [if_neg (Nat.not_lt_zero _)]
theorem rwF_s {g : Nat → Nat} {k q : Nat} : va_up (rwF g k) k (some q) = rwF (va_up g k q) (k + 1) := by
  funext i
  by_cases h : i = k
  · subst h
    rw [va_up_self]
    unfold rwF
    rw [if_pos (Nat.lt_succ_self _), va_up_self]
  · rw [va_up_ne _ _ h]
    unfold rwF
    rw [va_up_ne _ _ h]
    by_cases h2 : i < k
    · rw [if_pos h2, if_pos (by omega)]
    · rw [if_neg h2, if_neg (by omega)]
abbrev SH : Type := Nat × (Nat → Nat) × (Nat → Nat → Nat)
def zhW (cy : Nat → ClassId) (h0 : Nat) (u : SH) : va_W := (h0, .inr (1, [.ref u.1, .int 0])) :: (u.1, .inl (cy 3, 6, .inr (.inr (.inr (.inr (rwF u.2.1 6)))))) :: bLs (zfW cy) u.2.1 u.2.2 6
abbrev SP : Type := Nat × (Nat → Nat) × (Nat → SH)
def ziW (cy : Nat → ClassId) (h0 : Nat) (u : SP) : va_W := (h0, .inr (2, [.ref u.1, .int 0])) :: (u.1, .inl (cy 4, 4, .inr (.inr (.inr (.inr (rwF u.2.1 4)))))) :: bLs (zhW cy) u.2.1 u.2.2 4
theorem inI_X1_X1 : ∀ w ∈ wsX10, w ∈ wsX1_init := by decide +kernel
theorem inI_X1_X0 : ∀ w ∈ wsX00, w ∈ wsX1_init := by decide +kernel
set_option maxHeartbeats 1000000 in
set_option maxRecDepth 100000 in
theorem i_X1 (l : Launch) (D : va_G) (cy : Nat → ClassId) : ConI l D cy yX1_init wsX1_init { frames := 2, cells := 31, slots := 384, locals := 32 } 1 [.null, .int 0] (zhW cy) 31 384 := by
  refine coni_start (cc := cX1_init) (maxL := 2) (by decide) rfl rfl (Nat.le_of_ble_eq_true rfl) ?_
  intro p e s m args below meth c h0 A ls S hr hlocks hnm hK ha0 ha1 hA hP hD hl
  have hown : s.vm.findClass RX1 = some m.cls := S.2.2.2.1
  obtain ⟨hx, hb, hml, -, hts⟩ := id S
  have hS : va_S A s.heap s.heap [] := va_S.rf
  refine lv_aload_n hx hb dX1_init_0 rfl (lv_at hl 0 rfl) ?_
  refine W.objInit hx hb hown (hts _ (List.mem_of_getElem? (i := 1) rfl : Cond.methodLink RX1 3 objectInit ∈ wsX1_init)) (hts _ (List.mem_of_getElem? (i := 2) rfl : Cond.instanceMethod objectInit ∈ wsX1_init)) (hts _ (List.mem_of_getElem? (i := 3) rfl : Cond.code objectInit ⟨#[0xb1]⟩ 1 none ∈ wsX1_init)) rfl (by rw [hml]; exact hl.1) rfl dX1_init_1 (Nat.le_of_ble_eq_true rfl) (Nat.le_of_ble_eq_true rfl) ?_
  refine W.eq (g2 := F0 m 4 ls []) rfl ?_
  refine lv_aload_n hx hb dX1_init_4 rfl (lv_at hl 0 rfl) ?_
  refine lv_bipush (v := 6) hx hb dX1_init_5 (by decide) ?_
  refine z_newq (N := 6) S 3 (List.mem_of_getElem? (i := 4) rfl) ha0 rfl hK hP hD hS hA (by decide) (by decide) (by decide) (Nat.le_of_ble_eq_true rfl) (Nat.le_of_ble_eq_true rfl) dX1_init_7 (fun q0 H hP hD hS => ?_)
  refine W.widen (k := 1) (n := 6) (by decide) (by decide) ?_
  refine va_putF (D := D) (ci := 1) (v := .ref q0) (ty := .array (.object "BoatSets$Fleet")) (C := RX1) (T := TX1) (N := 2) hx hb hts inI_X1_X1 tyX1 tyX1_ok nmX1 hown hK hP hD hS 0 rfl rfl 0 (by decide) (hts _ (List.mem_of_getElem? (i := 5) rfl)) (fun _ h9 => h9) rfl hnm rfl (by decide +kernel) rfl rfl (Nat.le_of_ble_eq_true rfl) dX1_init_10 (fun H locs hP hD hS => ?_)
  refine lv_iconst (v := 0) hx hb dX1_init_13 (by decide) ?_
  refine lv_istore_n (lv' := [(1, .int 0), (0, .ref h0)]) hx hb dX1_init_14 rfl hl (by decide) rfl (fun ls hl => ?_)
  have L : ∀ (n j : Nat) (x : Int32) (g : Nat → Nat) (b : Nat → (Nat → Nat)) (H : Heap) (locs : List Loc) (ls : Array Slot), j ≤ 6 → x = nI j → 6 - j < n → va_P D vwCl ((h0, .inr (1, [.ref q0, .int 0])) :: (q0, .inl (cy 3, 6, .inr (.inr (.inr (.inr (rwF g j)))))) :: bLs (zfW cy) g b j) H → va_D A ((h0, .inr (1, [.ref q0, .int 0])) :: (q0, .inl (cy 3, 6, .inr (.inr (.inr (.inr (rwF g j)))))) :: bLs (zfW cy) g b j) → va_S A s.heap H locs → lv_has ls 2 [(1, .int x), (0, .ref h0)] → W p l e { frames := 2, cells := 31, slots := 384, locals := 32 } s m args below meth c H locs (1 + 5 * j) (6 + 63 * j) (MQ below (va_Qv (S := SH) (fun _ => True) (fun a t => va_P D vwCl (zhW cy h0 a) t.heap ∧ va_D A (zhW cy h0 a)) A) args s 31 384 A) (F0 m 15 ls []) := by
    intro n
    induction n with
    | zero => intro j x g b H locs ls hj ex hn; exact absurd hn (Nat.not_lt_zero _)
    | succ n ih =>
      intro j x g b H locs ls hj ex hn hP hD hS hl
      subst ex
      refine lv_iload_n hx hb dX1_init_15 rfl (lv_at hl 0 rfl) ?_
      refine lv_bipush (v := 6) hx hb dX1_init_16 (by decide) ?_
      refine lv_icmp_ge (tgt := 40) hx hb dX1_init_18 (by decide) (fun cc => ?_) (fun cc => ?_)
      · have hj2 : j = 6 := by
          have := (nI_leI (a := 6) (by decide) (by omega)).mp cc
          omega
        subst hj2
        exact W.vret hx hb hr (fun t ht hW => ⟨⟨(q0, g, b), rfl, trivial, by rw [ht]; exact hP, hD⟩, hS.F ht⟩) hS.2.2 dX1_init_40
      · have hlt : j < 6 := by
          rcases Nat.lt_or_ge j 6 with z | z
          · exact z
          · exact absurd ((nI_leI (a := 6) (by decide) (by omega)).mpr z) cc
        refine lv_aload_n hx hb dX1_init_21 rfl (lv_at hl 1 rfl) ?_
        refine va_get (D := D) (ci := 1) (v := .ref q0) (C := RX1) (T := TX1) (N := 2) hx hb hts inI_X1_X1 hown hK hP 0 rfl rfl 0 (by decide) (hts _ (List.mem_of_getElem? (i := 5) rfl)) (fun _ h9 => h9) rfl dX1_init_22 ?_
        refine lv_iload_n hx hb dX1_init_25 rfl (lv_at hl 0 rfl) ?_
        refine z_make S hK ha0 ha1 hP hD hS hA hl.1 (i_X0 l D cy) rfl inI_X1_X0 tyX0 tyX0_ok (fun j hj => by rcases (show j = 0 ∨ j = 1 ∨ j = 2 ∨ j = 3 ∨ j = 4 ∨ j = 5 ∨ j = 6 by omega) with rfl | rfl | rfl | rfl | rfl | rfl | rfl <;> rfl) (List.mem_of_getElem? (i := 4) rfl) (List.mem_of_getElem? (i := 6) rfl) (List.mem_of_getElem? (i := 7) rfl) gX1_init_X0_init rfl rfl rfl rfl (List.mem_of_getElem? (i := 8) rfl) (List.mem_of_getElem? (i := 9) rfl) rfl (by decide +kernel) ⟨Nat.le_of_ble_eq_true rfl, Nat.le_of_ble_eq_true rfl⟩ (by show 1 + 5 * j + 1 + 4 ≤ 31; omega) (by show 6 + 63 * j + 7 + 56 ≤ 384; omega) (Nat.le_of_ble_eq_true rfl) dX1_init_26 dX1_init_29 dX1_init_30 (fun q a H locs hP hD hS => ?_)
        have hp : (zfW cy q a ++ ((h0, .inr (1, [.ref q0, .int 0])) :: (q0, .inl (cy 3, 6, .inr (.inr (.inr (.inr (rwF g j)))))) :: bLs (zfW cy) g b j)).Perm ((h0, .inr (1, [.ref q0, .int 0])) :: (q0, .inl (cy 3, 6, .inr (.inr (.inr (.inr (rwF g j)))))) :: (zfW cy q a ++ bLs (zfW cy) g b j)) := List.perm_append_comm_assoc (zfW cy q a) [(h0, .inr (1, [.ref q0, .int 0])), (q0, .inl (cy 3, 6, .inr (.inr (.inr (.inr (rwF g j))))))] (bLs (zfW cy) g b j)
        have hP := wp_P hP hp
        have hD := wp_D hD hp
        refine va_astq hx hb hK hP hD hS 1 3 2 0 (r := (RX0, TX0, 7)) rfl rfl rfl rfl (vp_in_nI hlt (by decide)) dX1_init_33 (fun H locs hP hD hS => ?_)
        rw [nI_clamp (show j < 2 ^ 31 by omega), rwF_s] at hP hD
        have ew : ((h0, .inr (1, [.ref q0, .int 0])) :: (q0, .inl (cy 3, 6, .inr (.inr (.inr (.inr (rwF (va_up g j q) (j + 1))))))) :: bLs (zfW cy) (va_up g j q) (va_up b j a) (j + 1)) = ((h0, .inr (1, [.ref q0, .int 0])) :: (q0, .inl (cy 3, 6, .inr (.inr (.inr (.inr (rwF (va_up g j q) (j + 1))))))) :: (zfW cy q a ++ bLs (zfW cy) g b j)) := by rw [bLs_s]
        have hP : va_P D vwCl ((h0, .inr (1, [.ref q0, .int 0])) :: (q0, .inl (cy 3, 6, .inr (.inr (.inr (.inr (rwF (va_up g j q) (j + 1))))))) :: bLs (zfW cy) (va_up g j q) (va_up b j a) (j + 1)) H := by rw [ew]; exact hP
        have hD : va_D A ((h0, .inr (1, [.ref q0, .int 0])) :: (q0, .inl (cy 3, 6, .inr (.inr (.inr (.inr (rwF (va_up g j q) (j + 1))))))) :: bLs (zfW cy) (va_up g j q) (va_up b j a) (j + 1)) := by rw [ew]; exact hD
        refine lv_iinc (v := nI (j + 1)) (lv' := [(1, .int (nI (j + 1))), (0, .ref h0)]) hx hb dX1_init_34 hl (k := 0) rfl (nI_add j 1) (by decide) rfl (fun ls hl => ?_)
        refine lv_goto (tgt := 15) hx hb dX1_init_37 (by decide) ?_
        refine W.widen (k := 1 + 5 * (j + 1)) (n := 6 + 63 * (j + 1)) (by omega) (by omega) ?_
        exact ih (j + 1) _ _ _ H locs ls (by omega) rfl (by omega) hP hD hS hl
  have e0 : ([(h0, .inr (1, [.ref q0, .int 0])), (q0, .inl (cy 3, 6, .inr (.inr (.inr (.inr (fun _ => none))))))] : va_W) = ((h0, .inr (1, [.ref q0, .int 0])) :: (q0, .inl (cy 3, 6, .inr (.inr (.inr (.inr (rwF (fun _ => 0) 0)))))) :: bLs (zfW cy) (fun _ => 0) (fun _ => (fun _ => 0)) 0) := by rw [rwF_0]; rfl
  have hP : va_P D vwCl ((h0, .inr (1, [.ref q0, .int 0])) :: (q0, .inl (cy 3, 6, .inr (.inr (.inr (.inr (rwF (fun _ => 0) 0)))))) :: bLs (zfW cy) (fun _ => 0) (fun _ => (fun _ => 0)) 0) H := e0 ▸ hP
  have hD : va_D A ((h0, .inr (1, [.ref q0, .int 0])) :: (q0, .inl (cy 3, 6, .inr (.inr (.inr (.inr (rwF (fun _ => 0) 0)))))) :: bLs (zfW cy) (fun _ => 0) (fun _ => (fun _ => 0)) 0) := e0 ▸ hD
  exact L 7 0 _ _ _ H locs ls (Nat.zero_le _) rfl (by decide) hP hD hS hl
theorem inI_X2_X2 : ∀ w ∈ wsX20, w ∈ wsX2_init := by decide +kernel
theorem inI_X2_X1 : ∀ w ∈ wsX10, w ∈ wsX2_init := by decide +kernel
set_option maxHeartbeats 1000000 in
set_option maxRecDepth 100000 in
theorem i_X2 (l : Launch) (D : va_G) (cy : Nat → ClassId) : ConI l D cy yX2_init wsX2_init { frames := 3, cells := 129, slots := 1548, locals := 53 } 2 [.null, .int 0] (ziW cy) 129 1548 := by
  refine coni_start (cc := cX2_init) (maxL := 2) (by decide) rfl rfl (Nat.le_of_ble_eq_true rfl) ?_
  intro p e s m args below meth c h0 A ls S hr hlocks hnm hK ha0 ha1 hA hP hD hl
  have hown : s.vm.findClass RX2 = some m.cls := S.2.2.2.1
  obtain ⟨hx, hb, hml, -, hts⟩ := id S
  have hS : va_S A s.heap s.heap [] := va_S.rf
  refine lv_aload_n hx hb dX2_init_0 rfl (lv_at hl 0 rfl) ?_
  refine W.objInit hx hb hown (hts _ (List.mem_of_getElem? (i := 1) rfl : Cond.methodLink RX2 3 objectInit ∈ wsX2_init)) (hts _ (List.mem_of_getElem? (i := 2) rfl : Cond.instanceMethod objectInit ∈ wsX2_init)) (hts _ (List.mem_of_getElem? (i := 3) rfl : Cond.code objectInit ⟨#[0xb1]⟩ 1 none ∈ wsX2_init)) rfl (by rw [hml]; exact hl.1) rfl dX2_init_1 (Nat.le_of_ble_eq_true rfl) (Nat.le_of_ble_eq_true rfl) ?_
  refine W.eq (g2 := F0 m 4 ls []) rfl ?_
  refine lv_aload_n hx hb dX2_init_4 rfl (lv_at hl 0 rfl) ?_
  refine lv_iconst (v := 4) hx hb dX2_init_5 (by decide) ?_
  refine z_newq (N := 4) S 4 (List.mem_of_getElem? (i := 4) rfl) ha1 rfl hK hP hD hS hA (by decide) (by decide) (by decide) (Nat.le_of_ble_eq_true rfl) (Nat.le_of_ble_eq_true rfl) dX2_init_6 (fun q0 H hP hD hS => ?_)
  refine W.widen (k := 1) (n := 4) (by decide) (by decide) ?_
  refine va_putF (D := D) (ci := 2) (v := .ref q0) (ty := .array (.object "BoatSets$Harbour")) (C := RX2) (T := TX2) (N := 2) hx hb hts inI_X2_X2 tyX2 tyX2_ok nmX2 hown hK hP hD hS 0 rfl rfl 0 (by decide) (hts _ (List.mem_of_getElem? (i := 5) rfl)) (fun _ h9 => h9) rfl hnm rfl (by decide +kernel) rfl rfl (Nat.le_of_ble_eq_true rfl) dX2_init_9 (fun H locs hP hD hS => ?_)
  refine lv_iconst (v := 0) hx hb dX2_init_12 (by decide) ?_
  refine lv_istore_n (lv' := [(1, .int 0), (0, .ref h0)]) hx hb dX2_init_13 rfl hl (by decide) rfl (fun ls hl => ?_)
  have L : ∀ (n j : Nat) (x : Int32) (g : Nat → Nat) (b : Nat → SH) (H : Heap) (locs : List Loc) (ls : Array Slot), j ≤ 4 → x = nI j → 4 - j < n → va_P D vwCl ((h0, .inr (2, [.ref q0, .int 0])) :: (q0, .inl (cy 4, 4, .inr (.inr (.inr (.inr (rwF g j)))))) :: bLs (zhW cy) g b j) H → va_D A ((h0, .inr (2, [.ref q0, .int 0])) :: (q0, .inl (cy 4, 4, .inr (.inr (.inr (.inr (rwF g j)))))) :: bLs (zhW cy) g b j) → va_S A s.heap H locs → lv_has ls 2 [(1, .int x), (0, .ref h0)] → W p l e { frames := 3, cells := 129, slots := 1548, locals := 53 } s m args below meth c H locs (1 + 32 * j) (4 + 386 * j) (MQ below (va_Qv (S := SP) (fun _ => True) (fun a t => va_P D vwCl (ziW cy h0 a) t.heap ∧ va_D A (ziW cy h0 a)) A) args s 129 1548 A) (F0 m 14 ls []) := by
    intro n
    induction n with
    | zero => intro j x g b H locs ls hj ex hn; exact absurd hn (Nat.not_lt_zero _)
    | succ n ih =>
      intro j x g b H locs ls hj ex hn hP hD hS hl
      subst ex
      refine lv_iload_n hx hb dX2_init_14 rfl (lv_at hl 0 rfl) ?_
      refine lv_iconst (v := 4) hx hb dX2_init_15 (by decide) ?_
      refine lv_icmp_ge (tgt := 38) hx hb dX2_init_16 (by decide) (fun cc => ?_) (fun cc => ?_)
      · have hj2 : j = 4 := by
          have := (nI_leI (a := 4) (by decide) (by omega)).mp cc
          omega
        subst hj2
        exact W.vret hx hb hr (fun t ht hW => ⟨⟨(q0, g, b), rfl, trivial, by rw [ht]; exact hP, hD⟩, hS.F ht⟩) hS.2.2 dX2_init_38
      · have hlt : j < 4 := by
          rcases Nat.lt_or_ge j 4 with z | z
          · exact z
          · exact absurd ((nI_leI (a := 4) (by decide) (by omega)).mpr z) cc
        refine lv_aload_n hx hb dX2_init_19 rfl (lv_at hl 1 rfl) ?_
        refine va_get (D := D) (ci := 2) (v := .ref q0) (C := RX2) (T := TX2) (N := 2) hx hb hts inI_X2_X2 hown hK hP 0 rfl rfl 0 (by decide) (hts _ (List.mem_of_getElem? (i := 5) rfl)) (fun _ h9 => h9) rfl dX2_init_20 ?_
        refine lv_iload_n hx hb dX2_init_23 rfl (lv_at hl 0 rfl) ?_
        refine z_make S hK ha0 ha1 hP hD hS hA hl.1 (i_X1 l D cy) rfl inI_X2_X1 tyX1 tyX1_ok (fun j hj => by rcases (show j = 0 ∨ j = 1 by omega) with rfl | rfl <;> rfl) (List.mem_of_getElem? (i := 4) rfl) (List.mem_of_getElem? (i := 6) rfl) (List.mem_of_getElem? (i := 7) rfl) gX2_init_X1_init rfl rfl rfl rfl (List.mem_of_getElem? (i := 8) rfl) (List.mem_of_getElem? (i := 9) rfl) rfl (by decide +kernel) ⟨Nat.le_of_ble_eq_true rfl, Nat.le_of_ble_eq_true rfl⟩ (by show 1 + 32 * j + 1 + 31 ≤ 129; omega) (by show 4 + 386 * j + 2 + 384 ≤ 1548; omega) (Nat.le_of_ble_eq_true rfl) dX2_init_24 dX2_init_27 dX2_init_28 (fun q a H locs hP hD hS => ?_)
        have hp : (zhW cy q a ++ ((h0, .inr (2, [.ref q0, .int 0])) :: (q0, .inl (cy 4, 4, .inr (.inr (.inr (.inr (rwF g j)))))) :: bLs (zhW cy) g b j)).Perm ((h0, .inr (2, [.ref q0, .int 0])) :: (q0, .inl (cy 4, 4, .inr (.inr (.inr (.inr (rwF g j)))))) :: (zhW cy q a ++ bLs (zhW cy) g b j)) := List.perm_append_comm_assoc (zhW cy q a) [(h0, .inr (2, [.ref q0, .int 0])), (q0, .inl (cy 4, 4, .inr (.inr (.inr (.inr (rwF g j))))))] (bLs (zhW cy) g b j)
        have hP := wp_P hP hp
        have hD := wp_D hD hp
        refine va_astq hx hb hK hP hD hS 1 4 2 1 (r := (RX1, TX1, 2)) rfl rfl rfl rfl (vp_in_nI hlt (by decide)) dX2_init_31 (fun H locs hP hD hS => ?_)
        rw [nI_clamp (show j < 2 ^ 31 by omega), rwF_s] at hP hD
        have ew : ((h0, .inr (2, [.ref q0, .int 0])) :: (q0, .inl (cy 4, 4, .inr (.inr (.inr (.inr (rwF (va_up g j q) (j + 1))))))) :: bLs (zhW cy) (va_up g j q) (va_up b j a) (j + 1)) = ((h0, .inr (2, [.ref q0, .int 0])) :: (q0, .inl (cy 4, 4, .inr (.inr (.inr (.inr (rwF (va_up g j q) (j + 1))))))) :: (zhW cy q a ++ bLs (zhW cy) g b j)) := by rw [bLs_s]
        have hP : va_P D vwCl ((h0, .inr (2, [.ref q0, .int 0])) :: (q0, .inl (cy 4, 4, .inr (.inr (.inr (.inr (rwF (va_up g j q) (j + 1))))))) :: bLs (zhW cy) (va_up g j q) (va_up b j a) (j + 1)) H := by rw [ew]; exact hP
        have hD : va_D A ((h0, .inr (2, [.ref q0, .int 0])) :: (q0, .inl (cy 4, 4, .inr (.inr (.inr (.inr (rwF (va_up g j q) (j + 1))))))) :: bLs (zhW cy) (va_up g j q) (va_up b j a) (j + 1)) := by rw [ew]; exact hD
        refine lv_iinc (v := nI (j + 1)) (lv' := [(1, .int (nI (j + 1))), (0, .ref h0)]) hx hb dX2_init_32 hl (k := 0) rfl (nI_add j 1) (by decide) rfl (fun ls hl => ?_)
        refine lv_goto (tgt := 14) hx hb dX2_init_35 (by decide) ?_
        refine W.widen (k := 1 + 32 * (j + 1)) (n := 4 + 386 * (j + 1)) (by omega) (by omega) ?_
        exact ih (j + 1) _ _ _ H locs ls (by omega) rfl (by omega) hP hD hS hl
  have e0 : ([(h0, .inr (2, [.ref q0, .int 0])), (q0, .inl (cy 4, 4, .inr (.inr (.inr (.inr (fun _ => none))))))] : va_W) = ((h0, .inr (2, [.ref q0, .int 0])) :: (q0, .inl (cy 4, 4, .inr (.inr (.inr (.inr (rwF (fun _ => 0) 0)))))) :: bLs (zhW cy) (fun _ => 0) (fun _ => (0, (fun _ => 0), (fun _ _ => 0))) 0) := by rw [rwF_0]; rfl
  have hP : va_P D vwCl ((h0, .inr (2, [.ref q0, .int 0])) :: (q0, .inl (cy 4, 4, .inr (.inr (.inr (.inr (rwF (fun _ => 0) 0)))))) :: bLs (zhW cy) (fun _ => 0) (fun _ => (0, (fun _ => 0), (fun _ _ => 0))) 0) H := e0 ▸ hP
  have hD : va_D A ((h0, .inr (2, [.ref q0, .int 0])) :: (q0, .inl (cy 4, 4, .inr (.inr (.inr (.inr (rwF (fun _ => 0) 0)))))) :: bLs (zhW cy) (fun _ => 0) (fun _ => (0, (fun _ => 0), (fun _ _ => 0))) 0) := e0 ▸ hD
  exact L 5 0 _ _ _ H locs ls (Nat.zero_le _) rfl (by decide) hP hD hS hl

/-! The constructor of BoatSets -/
abbrev SB : Type := (Nat × SH) × (Nat × SH) × (Nat × SP) × (Nat × (Nat → Nat)) × (Nat × (Nat → Nat))
def zbW (cy : Nat → ClassId) (h0 : Nat) (u : SB) : va_W := (h0, .inr (4, [.ref u.1.1, .ref u.2.1.1, .ref u.2.2.1.1, .ref u.2.2.2.1.1, .ref u.2.2.2.2.1, .int 0])) :: (zfW cy u.2.2.2.2.1 u.2.2.2.2.2 ++ (zrW cy u.2.2.2.1.1 u.2.2.2.1.2 ++ (ziW cy u.2.2.1.1 u.2.2.1.2 ++ (zhW cy u.2.1.1 u.2.1.2 ++ (zhW cy u.1.1 u.1.2 ++ [])))))
theorem inI_X4_X0 : ∀ w ∈ wsX00, w ∈ wsX4_init := by decide +kernel
theorem inI_X4_X1 : ∀ w ∈ wsX10, w ∈ wsX4_init := by decide +kernel
theorem inI_X4_X2 : ∀ w ∈ wsX20, w ∈ wsX4_init := by decide +kernel
theorem inI_X4_X3 : ∀ w ∈ wsX30, w ∈ wsX4_init := by decide +kernel
theorem inI_X4_X4 : ∀ w ∈ wsX40, w ∈ wsX4_init := by decide +kernel
set_option maxHeartbeats 1000000 in
set_option maxRecDepth 100000 in
theorem i_X4 (l : Launch) (D : va_G) (cy : Nat → ClassId) : ConI l D cy yX4_init wsX4_init { frames := 4, cells := 203, slots := 2510, locals := 74 } 4 [.null, .null, .null, .null, .null, .int 0] (zbW cy) 203 2510 := by
  refine coni_start (cc := cX4_init) (maxL := 1) (by decide) rfl rfl (Nat.le_of_ble_eq_true rfl) ?_
  intro p e s m args below meth c h0 A ls S hr hlocks hnm hK ha0 ha1 hA hP hD hl
  have hown : s.vm.findClass RX4 = some m.cls := S.2.2.2.1
  obtain ⟨hx, hb, hml, -, hts⟩ := id S
  have hS : va_S A s.heap s.heap [] := va_S.rf
  refine lv_aload_n hx hb dX4_init_0 rfl (lv_at hl 0 rfl) ?_
  refine W.objInit hx hb hown (hts _ (List.mem_of_getElem? (i := 1) rfl : Cond.methodLink RX4 1 objectInit ∈ wsX4_init)) (hts _ (List.mem_of_getElem? (i := 2) rfl : Cond.instanceMethod objectInit ∈ wsX4_init)) (hts _ (List.mem_of_getElem? (i := 3) rfl : Cond.code objectInit ⟨#[0xb1]⟩ 1 none ∈ wsX4_init)) rfl (by rw [hml]; exact hl.1) rfl dX4_init_1 (Nat.le_of_ble_eq_true rfl) (Nat.le_of_ble_eq_true rfl) ?_
  refine W.eq (g2 := F0 m 4 ls []) rfl ?_
  refine lv_aload_n hx hb dX4_init_4 rfl (lv_at hl 0 rfl) ?_
  refine z_make S hK ha0 ha1 hP hD hS hA hl.1 (i_X1 l D cy) rfl inI_X4_X1 tyX1 tyX1_ok (fun j hj => by rcases (show j = 0 ∨ j = 1 by omega) with rfl | rfl <;> rfl) (List.mem_of_getElem? (i := 4) rfl : Cond.classLink RX4 7 RX1 ∈ wsX4_init) (List.mem_of_getElem? (i := 5) rfl : Cond.instantiable RX1 2 ∈ wsX4_init) (List.mem_of_getElem? (i := 6) rfl : Cond.initialized RX1 ∈ wsX4_init) gX4_init_X1_init rfl rfl rfl rfl (List.mem_of_getElem? (i := 22) rfl : Cond.methodLink RX4 9 yX1_init ∈ wsX4_init) (List.mem_of_getElem? (i := 23) rfl : Cond.instanceMethod yX1_init ∈ wsX4_init) rfl (by decide +kernel) ⟨Nat.le_of_ble_eq_true rfl, Nat.le_of_ble_eq_true rfl⟩ (Nat.le_of_ble_eq_true rfl) (Nat.le_of_ble_eq_true rfl) (Nat.le_of_ble_eq_true rfl) dX4_init_5 dX4_init_8 dX4_init_9 (fun q0 a0 H locs hP hD hS => ?_)
  have hp : (zhW cy q0 a0 ++ (((h0, .inr (4, [.null, .null, .null, .null, .null, .int 0])) :: []) : va_W)).Perm ((h0, .inr (4, [.null, .null, .null, .null, .null, .int 0])) :: (zhW cy q0 a0 ++ [])) := List.perm_append_comm_assoc (zhW cy q0 a0) [(h0, .inr (4, [.null, .null, .null, .null, .null, .int 0]))] []
  have hP := wp_P hP hp
  have hD := wp_D hD hp
  refine W.widen (k := 32) (n := 386) (by decide) (by decide) ?_
  refine va_putF (D := D) (ci := 4) (v := .ref q0) (ty := .object "BoatSets$Harbour") (C := RX4) (T := TX4) (N := 6) hx hb hts inI_X4_X4 tyX4 tyX4_ok nmX4 hown hK hP hD hS 0 rfl rfl 0 (by decide) (hts _ (List.mem_of_getElem? (i := 7) rfl : Cond.fieldLink RX4 10 "BoatSets" "now" "LBoatSets$Harbour;" ∈ wsX4_init)) (fun _ h9 => h9) rfl hnm rfl (by decide +kernel) rfl rfl (Nat.le_of_ble_eq_true rfl) dX4_init_12 (fun H locs hP hD hS => ?_)
  have hP : va_P D vwCl ((h0, .inr (4, [.ref q0, .null, .null, .null, .null, .int 0])) :: (zhW cy q0 a0 ++ [])) H := hP
  have hD : va_D A ((h0, .inr (4, [.ref q0, .null, .null, .null, .null, .int 0])) :: (zhW cy q0 a0 ++ [])) := hD
  refine lv_aload_n hx hb dX4_init_15 rfl (lv_at hl 0 rfl) ?_
  refine z_make S hK ha0 ha1 hP hD hS hA hl.1 (i_X1 l D cy) rfl inI_X4_X1 tyX1 tyX1_ok (fun j hj => by rcases (show j = 0 ∨ j = 1 by omega) with rfl | rfl <;> rfl) (List.mem_of_getElem? (i := 4) rfl : Cond.classLink RX4 7 RX1 ∈ wsX4_init) (List.mem_of_getElem? (i := 5) rfl : Cond.instantiable RX1 2 ∈ wsX4_init) (List.mem_of_getElem? (i := 6) rfl : Cond.initialized RX1 ∈ wsX4_init) gX4_init_X1_init rfl rfl rfl rfl (List.mem_of_getElem? (i := 22) rfl : Cond.methodLink RX4 9 yX1_init ∈ wsX4_init) (List.mem_of_getElem? (i := 23) rfl : Cond.instanceMethod yX1_init ∈ wsX4_init) rfl (by decide +kernel) ⟨Nat.le_of_ble_eq_true rfl, Nat.le_of_ble_eq_true rfl⟩ (Nat.le_of_ble_eq_true rfl) (Nat.le_of_ble_eq_true rfl) (Nat.le_of_ble_eq_true rfl) dX4_init_16 dX4_init_19 dX4_init_20 (fun q1 a1 H locs hP hD hS => ?_)
  have hp : (zhW cy q1 a1 ++ (((h0, .inr (4, [.ref q0, .null, .null, .null, .null, .int 0])) :: (zhW cy q0 a0 ++ [])) : va_W)).Perm ((h0, .inr (4, [.ref q0, .null, .null, .null, .null, .int 0])) :: (zhW cy q1 a1 ++ (zhW cy q0 a0 ++ []))) := List.perm_append_comm_assoc (zhW cy q1 a1) [(h0, .inr (4, [.ref q0, .null, .null, .null, .null, .int 0]))] (zhW cy q0 a0 ++ [])
  have hP := wp_P hP hp
  have hD := wp_D hD hp
  refine W.widen (k := 64) (n := 772) (by decide) (by decide) ?_
  refine va_putF (D := D) (ci := 4) (v := .ref q1) (ty := .object "BoatSets$Harbour") (C := RX4) (T := TX4) (N := 6) hx hb hts inI_X4_X4 tyX4 tyX4_ok nmX4 hown hK hP hD hS 0 rfl rfl 1 (by decide) (hts _ (List.mem_of_getElem? (i := 8) rfl : Cond.fieldLink RX4 16 "BoatSets" "snapshot" "LBoatSets$Harbour;" ∈ wsX4_init)) (fun _ h9 => h9) rfl hnm rfl (by decide +kernel) rfl rfl (Nat.le_of_ble_eq_true rfl) dX4_init_23 (fun H locs hP hD hS => ?_)
  have hP : va_P D vwCl ((h0, .inr (4, [.ref q0, .ref q1, .null, .null, .null, .int 0])) :: (zhW cy q1 a1 ++ (zhW cy q0 a0 ++ []))) H := hP
  have hD : va_D A ((h0, .inr (4, [.ref q0, .ref q1, .null, .null, .null, .int 0])) :: (zhW cy q1 a1 ++ (zhW cy q0 a0 ++ []))) := hD
  refine lv_aload_n hx hb dX4_init_26 rfl (lv_at hl 0 rfl) ?_
  refine z_make S hK ha0 ha1 hP hD hS hA hl.1 (i_X2 l D cy) rfl inI_X4_X2 tyX2 tyX2_ok (fun j hj => by rcases (show j = 0 ∨ j = 1 by omega) with rfl | rfl <;> rfl) (List.mem_of_getElem? (i := 9) rfl : Cond.classLink RX4 19 RX2 ∈ wsX4_init) (List.mem_of_getElem? (i := 10) rfl : Cond.instantiable RX2 2 ∈ wsX4_init) (List.mem_of_getElem? (i := 11) rfl : Cond.initialized RX2 ∈ wsX4_init) gX4_init_X2_init rfl rfl rfl rfl (List.mem_of_getElem? (i := 38) rfl : Cond.methodLink RX4 21 yX2_init ∈ wsX4_init) (List.mem_of_getElem? (i := 39) rfl : Cond.instanceMethod yX2_init ∈ wsX4_init) rfl (by decide +kernel) ⟨Nat.le_of_ble_eq_true rfl, Nat.le_of_ble_eq_true rfl⟩ (Nat.le_of_ble_eq_true rfl) (Nat.le_of_ble_eq_true rfl) (Nat.le_of_ble_eq_true rfl) dX4_init_27 dX4_init_30 dX4_init_31 (fun q2 a2 H locs hP hD hS => ?_)
  have hp : (ziW cy q2 a2 ++ (((h0, .inr (4, [.ref q0, .ref q1, .null, .null, .null, .int 0])) :: (zhW cy q1 a1 ++ (zhW cy q0 a0 ++ []))) : va_W)).Perm ((h0, .inr (4, [.ref q0, .ref q1, .null, .null, .null, .int 0])) :: (ziW cy q2 a2 ++ (zhW cy q1 a1 ++ (zhW cy q0 a0 ++ [])))) := List.perm_append_comm_assoc (ziW cy q2 a2) [(h0, .inr (4, [.ref q0, .ref q1, .null, .null, .null, .int 0]))] (zhW cy q1 a1 ++ (zhW cy q0 a0 ++ []))
  have hP := wp_P hP hp
  have hD := wp_D hD hp
  refine W.widen (k := 194) (n := 2322) (by decide) (by decide) ?_
  refine va_putF (D := D) (ci := 4) (v := .ref q2) (ty := .object "BoatSets$History") (C := RX4) (T := TX4) (N := 6) hx hb hts inI_X4_X4 tyX4 tyX4_ok nmX4 hown hK hP hD hS 0 rfl rfl 2 (by decide) (hts _ (List.mem_of_getElem? (i := 12) rfl : Cond.fieldLink RX4 22 "BoatSets" "past" "LBoatSets$History;" ∈ wsX4_init)) (fun _ h9 => h9) rfl hnm rfl (by decide +kernel) rfl rfl (Nat.le_of_ble_eq_true rfl) dX4_init_34 (fun H locs hP hD hS => ?_)
  have hP : va_P D vwCl ((h0, .inr (4, [.ref q0, .ref q1, .ref q2, .null, .null, .int 0])) :: (ziW cy q2 a2 ++ (zhW cy q1 a1 ++ (zhW cy q0 a0 ++ [])))) H := hP
  have hD : va_D A ((h0, .inr (4, [.ref q0, .ref q1, .ref q2, .null, .null, .int 0])) :: (ziW cy q2 a2 ++ (zhW cy q1 a1 ++ (zhW cy q0 a0 ++ [])))) := hD
  refine lv_aload_n hx hb dX4_init_37 rfl (lv_at hl 0 rfl) ?_
  refine z_make S hK ha0 ha1 hP hD hS hA hl.1 (i_X3 l D cy) rfl inI_X4_X3 tyX3 tyX3_ok (fun j hj => by rcases (show j = 0 ∨ j = 1 ∨ j = 2 ∨ j = 3 ∨ j = 4 by omega) with rfl | rfl | rfl | rfl | rfl <;> rfl) (List.mem_of_getElem? (i := 13) rfl : Cond.classLink RX4 26 RX3 ∈ wsX4_init) (List.mem_of_getElem? (i := 14) rfl : Cond.instantiable RX3 5 ∈ wsX4_init) (List.mem_of_getElem? (i := 15) rfl : Cond.initialized RX3 ∈ wsX4_init) gX4_init_X3_init rfl rfl rfl rfl (List.mem_of_getElem? (i := 45) rfl : Cond.methodLink RX4 28 yX3_init ∈ wsX4_init) (List.mem_of_getElem? (i := 46) rfl : Cond.instanceMethod yX3_init ∈ wsX4_init) rfl (by decide +kernel) ⟨Nat.le_of_ble_eq_true rfl, Nat.le_of_ble_eq_true rfl⟩ (Nat.le_of_ble_eq_true rfl) (Nat.le_of_ble_eq_true rfl) (Nat.le_of_ble_eq_true rfl) dX4_init_38 dX4_init_41 dX4_init_42 (fun q3 a3 H locs hP hD hS => ?_)
  have hp : (zrW cy q3 a3 ++ (((h0, .inr (4, [.ref q0, .ref q1, .ref q2, .null, .null, .int 0])) :: (ziW cy q2 a2 ++ (zhW cy q1 a1 ++ (zhW cy q0 a0 ++ [])))) : va_W)).Perm ((h0, .inr (4, [.ref q0, .ref q1, .ref q2, .null, .null, .int 0])) :: (zrW cy q3 a3 ++ (ziW cy q2 a2 ++ (zhW cy q1 a1 ++ (zhW cy q0 a0 ++ []))))) := List.perm_append_comm_assoc (zrW cy q3 a3) [(h0, .inr (4, [.ref q0, .ref q1, .ref q2, .null, .null, .int 0]))] (ziW cy q2 a2 ++ (zhW cy q1 a1 ++ (zhW cy q0 a0 ++ [])))
  have hP := wp_P hP hp
  have hD := wp_D hD hp
  refine W.widen (k := 198) (n := 2447) (by decide) (by decide) ?_
  refine va_putF (D := D) (ci := 4) (v := .ref q3) (ty := .object "BoatSets$RangeText") (C := RX4) (T := TX4) (N := 6) hx hb hts inI_X4_X4 tyX4 tyX4_ok nmX4 hown hK hP hD hS 0 rfl rfl 3 (by decide) (hts _ (List.mem_of_getElem? (i := 16) rfl : Cond.fieldLink RX4 29 "BoatSets" "text" "LBoatSets$RangeText;" ∈ wsX4_init)) (fun _ h9 => h9) rfl hnm rfl (by decide +kernel) rfl rfl (Nat.le_of_ble_eq_true rfl) dX4_init_45 (fun H locs hP hD hS => ?_)
  have hP : va_P D vwCl ((h0, .inr (4, [.ref q0, .ref q1, .ref q2, .ref q3, .null, .int 0])) :: (zrW cy q3 a3 ++ (ziW cy q2 a2 ++ (zhW cy q1 a1 ++ (zhW cy q0 a0 ++ []))))) H := hP
  have hD : va_D A ((h0, .inr (4, [.ref q0, .ref q1, .ref q2, .ref q3, .null, .int 0])) :: (zrW cy q3 a3 ++ (ziW cy q2 a2 ++ (zhW cy q1 a1 ++ (zhW cy q0 a0 ++ []))))) := hD
  refine lv_aload_n hx hb dX4_init_48 rfl (lv_at hl 0 rfl) ?_
  refine z_make S hK ha0 ha1 hP hD hS hA hl.1 (i_X0 l D cy) rfl inI_X4_X0 tyX0 tyX0_ok (fun j hj => by rcases (show j = 0 ∨ j = 1 ∨ j = 2 ∨ j = 3 ∨ j = 4 ∨ j = 5 ∨ j = 6 by omega) with rfl | rfl | rfl | rfl | rfl | rfl | rfl <;> rfl) (List.mem_of_getElem? (i := 17) rfl : Cond.classLink RX4 33 RX0 ∈ wsX4_init) (List.mem_of_getElem? (i := 18) rfl : Cond.instantiable RX0 7 ∈ wsX4_init) (List.mem_of_getElem? (i := 19) rfl : Cond.initialized RX0 ∈ wsX4_init) gX4_init_X0_init rfl rfl rfl rfl (List.mem_of_getElem? (i := 53) rfl : Cond.methodLink RX4 35 yX0_init ∈ wsX4_init) (List.mem_of_getElem? (i := 29) rfl : Cond.instanceMethod yX0_init ∈ wsX4_init) rfl (by decide +kernel) ⟨Nat.le_of_ble_eq_true rfl, Nat.le_of_ble_eq_true rfl⟩ (Nat.le_of_ble_eq_true rfl) (Nat.le_of_ble_eq_true rfl) (Nat.le_of_ble_eq_true rfl) dX4_init_49 dX4_init_52 dX4_init_53 (fun q4 a4 H locs hP hD hS => ?_)
  have hp : (zfW cy q4 a4 ++ (((h0, .inr (4, [.ref q0, .ref q1, .ref q2, .ref q3, .null, .int 0])) :: (zrW cy q3 a3 ++ (ziW cy q2 a2 ++ (zhW cy q1 a1 ++ (zhW cy q0 a0 ++ []))))) : va_W)).Perm ((h0, .inr (4, [.ref q0, .ref q1, .ref q2, .ref q3, .null, .int 0])) :: (zfW cy q4 a4 ++ (zrW cy q3 a3 ++ (ziW cy q2 a2 ++ (zhW cy q1 a1 ++ (zhW cy q0 a0 ++ [])))))) := List.perm_append_comm_assoc (zfW cy q4 a4) [(h0, .inr (4, [.ref q0, .ref q1, .ref q2, .ref q3, .null, .int 0]))] (zrW cy q3 a3 ++ (ziW cy q2 a2 ++ (zhW cy q1 a1 ++ (zhW cy q0 a0 ++ []))))
  have hP := wp_P hP hp
  have hD := wp_D hD hp
  refine W.widen (k := 203) (n := 2510) (by decide) (by decide) ?_
  refine va_putF (D := D) (ci := 4) (v := .ref q4) (ty := .object "BoatSets$Fleet") (C := RX4) (T := TX4) (N := 6) hx hb hts inI_X4_X4 tyX4 tyX4_ok nmX4 hown hK hP hD hS 0 rfl rfl 4 (by decide) (hts _ (List.mem_of_getElem? (i := 20) rfl : Cond.fieldLink RX4 36 "BoatSets" "trial" "LBoatSets$Fleet;" ∈ wsX4_init)) (fun _ h9 => h9) rfl hnm rfl (by decide +kernel) rfl rfl (Nat.le_of_ble_eq_true rfl) dX4_init_56 (fun H locs hP hD hS => ?_)
  have hP : va_P D vwCl ((h0, .inr (4, [.ref q0, .ref q1, .ref q2, .ref q3, .ref q4, .int 0])) :: (zfW cy q4 a4 ++ (zrW cy q3 a3 ++ (ziW cy q2 a2 ++ (zhW cy q1 a1 ++ (zhW cy q0 a0 ++ [])))))) H := hP
  have hD : va_D A ((h0, .inr (4, [.ref q0, .ref q1, .ref q2, .ref q3, .ref q4, .int 0])) :: (zfW cy q4 a4 ++ (zrW cy q3 a3 ++ (ziW cy q2 a2 ++ (zhW cy q1 a1 ++ (zhW cy q0 a0 ++ [])))))) := hD
  refine lv_aload_n hx hb dX4_init_59 rfl (lv_at hl 0 rfl) ?_
  refine lv_iconst (v := 0) hx hb dX4_init_60 (by decide) ?_
  refine va_put (D := D) (ci := 4) (v := .int 0) (ty := .boolean) (C := RX4) (T := TX4) (N := 6) hx hb hts inI_X4_X4 tyX4 tyX4_ok nmX4 hown hK hP hD hS 0 rfl rfl 5 (by decide) (hts _ (List.mem_of_getElem? (i := 21) rfl : Cond.fieldLink RX4 40 "BoatSets" "hasSnapshot" "Z" ∈ wsX4_init)) (fun _ h9 => h9) rfl (by decide +kernel) rfl rfl (Nat.le_of_ble_eq_true rfl) dX4_init_61 (fun H locs hP hD hS => ?_)
  exact W.vret hx hb hr (fun t ht hW => ⟨⟨((q0, a0), (q1, a1), (q2, a2), (q3, a3), (q4, a4)), rfl, trivial, by rw [ht]; exact hP, hD⟩, hS.F ht⟩) hS.2.2 dX4_init_64
