theorem fits_b (b : Bool) : fits .boolean (.int (bI b)) = true := by cases b <;> rfl
theorem hd_J7_fill_53178 : yJ7_fill_53178.cls ≠ "java/lang/invoke/MethodHandle" ∧ yJ7_fill_53178.cls ≠ "java/lang/invoke/VarHandle" ∧ (parseMethodDescriptor yJ7_fill_53178.desc).map (fun d => d.parameters.length) = some 2 := by decide +kernel
set_option maxHeartbeats 400000 in
set_option maxRecDepth 100000 in
theorem c_J7_fill_53178 (Λ : Lk) (C : Mem) {r n : Nat} {g : Nat → Int32} (v : Int32) (h : C r = .inl (Λ.2.2.2.1 1, n, .inl g)) (hr : r < nR) (hn : n < 2 ^ 31) : Con Λ yJ7_fill_53178 wsJ7_fill_53178 { frames := 0, cells := 0, slots := 0, locals := 0 } [rf Λ r, .int v] C none (va_up C r (.inl (Λ.2.2.2.1 1, n, .inl (filK v g n)))) := by
  refine con_start (cc := cJ7_fill_53178) (maxL := 4) (ret := none) (by decide) rfl (Nat.le_of_ble_eq_true rfl) ?_
  intro κ hC hR
  have hC : Ok Λ { frames := 0, cells := 0, slots := 0, locals := 0 } cJ7_fill_53178 wsJ7_fill_53178 RJ7 4 κ := hC
  refine v_args (lv' := [(0, rf Λ r), (1, .int v)]) rfl ?_
  refine v_iconst (v := 0) hC dJ7_fill_53178_0 (by decide) ?_
  refine v_istore_n (lv' := [(2, .int 0), (0, rf Λ r), (1, .int v)]) hC dJ7_fill_53178_1 (by decide) rfl ?_
  refine v_aload_n hC dJ7_fill_53178_2 1 rfl ?_
  refine v_alen hC r hr 1 rfl h dJ7_fill_53178_3 ?_
  refine v_istore_n (lv' := [(3, .int (nI n)), (2, .int 0), (0, rf Λ r), (1, .int v)]) hC dJ7_fill_53178_4 (by decide) rfl ?_
  have L : ∀ (k : Nat) (j : Nat) (x : Int32), j ≤ n → x = nI j → n - j < k → V Λ κ (va_up C r (.inl (Λ.2.2.2.1 1, n, .inl (filK v g j)))) 5 [(3, .int (nI n)), (2, .int x), (0, rf Λ r), (1, .int v)] [] := by
    intro k
    induction k with
    | zero => intro j x hj ex hk; exact absurd hk (Nat.not_lt_zero _)
    | succ k ih =>
      intro j x hj ex hk
      subst ex
      refine v_iload_n hC dJ7_fill_53178_5 1 rfl ?_
      refine v_iload_n hC dJ7_fill_53178_6 0 rfl ?_
      refine v_nge (a := j) (b := n) (tgt := 20) hC dJ7_fill_53178_7 (by decide) rfl rfl (by omega) (by omega) (fun c => ?_) (fun c => ?_)
      · have e : n = j := by omega
        subst e
        exact v_vret hC hR rfl rfl dJ7_fill_53178_20
      · refine v_aload_n hC dJ7_fill_53178_10 2 rfl ?_
        refine v_iload_n hC dJ7_fill_53178_11 1 rfl ?_
        refine v_iload_n hC dJ7_fill_53178_12 3 rfl ?_
        refine v_iast (n := n) (f := filK v g j) hC r hr (va_up_self C _ _) j rfl (by omega) hn dJ7_fill_53178_13 ?_
        refine v_mem (C' := va_up C r (.inl (Λ.2.2.2.1 1, n, .inl (filK v g (j + 1))))) (by rw [filK_sI]; funext z; unfold va_up; by_cases hz : z = r <;> simp [hz]) ?_
        refine v_iinc (j := 1) (v := nI (j + 1)) (lv' := [(2, .int (nI (j + 1))), (3, .int (nI n)), (0, rf Λ r), (1, .int v)]) hC dJ7_fill_53178_14 rfl (nI_add j 1) (by decide) rfl ?_
        refine v_goto (tgt := 5) hC dJ7_fill_53178_17 (by decide) ?_
        refine v_sub (lv' := [(3, .int (nI n)), (2, .int (nI (j + 1))), (0, rf Λ r), (1, .int v)]) [1, 0, 2, 3] rfl ?_
        exact ih (j + 1) _ (by omega) rfl (by omega)
  refine v_mem (C' := va_up C r (.inl (Λ.2.2.2.1 1, n, .inl (filK v g 0)))) (by rw [filK_0]; funext z; unfold va_up; by_cases hz : z = r <;> simp [hz, h]) ?_
  exact L _ 0 _ (by omega) rfl (Nat.lt_succ_self _)
theorem hd_J7_fill_d0a16 : yJ7_fill_d0a16.cls ≠ "java/lang/invoke/MethodHandle" ∧ yJ7_fill_d0a16.cls ≠ "java/lang/invoke/VarHandle" ∧ (parseMethodDescriptor yJ7_fill_d0a16.desc).map (fun d => d.parameters.length) = some 2 := by decide +kernel
set_option maxHeartbeats 400000 in
set_option maxRecDepth 100000 in
theorem c_J7_fill_d0a16 (Λ : Lk) (C : Mem) {r n : Nat} {g : Nat → Int64} (v : Int64) (h : C r = .inl (Λ.2.2.2.1 0, n, .inr (.inl g))) (hr : r < nR) (hn : n < 2 ^ 31) : Con Λ yJ7_fill_d0a16 wsJ7_fill_d0a16 { frames := 0, cells := 0, slots := 0, locals := 0 } [rf Λ r, .long v] C none (va_up C r (.inl (Λ.2.2.2.1 0, n, .inr (.inl (filK v g n))))) := by
  refine con_start (cc := cJ7_fill_d0a16) (maxL := 5) (ret := none) (by decide) rfl (Nat.le_of_ble_eq_true rfl) ?_
  intro κ hC hR
  have hC : Ok Λ { frames := 0, cells := 0, slots := 0, locals := 0 } cJ7_fill_d0a16 wsJ7_fill_d0a16 RJ7 5 κ := hC
  refine v_args (lv' := [(0, rf Λ r), (1, .long v)]) rfl ?_
  refine v_iconst (v := 0) hC dJ7_fill_d0a16_0 (by decide) ?_
  refine v_istore_n (lv' := [(3, .int 0), (0, rf Λ r), (1, .long v)]) hC dJ7_fill_d0a16_1 (by decide) rfl ?_
  refine v_aload_n hC dJ7_fill_d0a16_2 1 rfl ?_
  refine v_alen hC r hr 0 rfl h dJ7_fill_d0a16_3 ?_
  refine v_istore (lv' := [(4, .int (nI n)), (3, .int 0), (0, rf Λ r), (1, .long v)]) hC dJ7_fill_d0a16_4 (by decide) rfl ?_
  have L : ∀ (k : Nat) (j : Nat) (x : Int32), j ≤ n → x = nI j → n - j < k → V Λ κ (va_up C r (.inl (Λ.2.2.2.1 0, n, .inr (.inl (filK v g j))))) 6 [(4, .int (nI n)), (3, .int x), (0, rf Λ r), (1, .long v)] [] := by
    intro k
    induction k with
    | zero => intro j x hj ex hk; exact absurd hk (Nat.not_lt_zero _)
    | succ k ih =>
      intro j x hj ex hk
      subst ex
      refine v_iload_n hC dJ7_fill_d0a16_6 1 rfl ?_
      refine v_iload hC dJ7_fill_d0a16_7 0 rfl ?_
      refine v_nge (a := j) (b := n) (tgt := 22) hC dJ7_fill_d0a16_9 (by decide) rfl rfl (by omega) (by omega) (fun c => ?_) (fun c => ?_)
      · have e : n = j := by omega
        subst e
        exact v_vret hC hR rfl rfl dJ7_fill_d0a16_22
      · refine v_aload_n hC dJ7_fill_d0a16_12 2 rfl ?_
        refine v_iload_n hC dJ7_fill_d0a16_13 1 rfl ?_
        refine v_lload_n hC dJ7_fill_d0a16_14 3 rfl ?_
        refine v_last (n := n) (f := filK v g j) hC r hr (va_up_self C _ _) j rfl (by omega) hn dJ7_fill_d0a16_15 ?_
        refine v_mem (C' := va_up C r (.inl (Λ.2.2.2.1 0, n, .inr (.inl (filK v g (j + 1)))))) (by rw [filK_sL]; funext z; unfold va_up; by_cases hz : z = r <;> simp [hz]) ?_
        refine v_iinc (j := 1) (v := nI (j + 1)) (lv' := [(3, .int (nI (j + 1))), (4, .int (nI n)), (0, rf Λ r), (1, .long v)]) hC dJ7_fill_d0a16_16 rfl (nI_add j 1) (by decide) rfl ?_
        refine v_goto (tgt := 6) hC dJ7_fill_d0a16_19 (by decide) ?_
        refine v_sub (lv' := [(4, .int (nI n)), (3, .int (nI (j + 1))), (0, rf Λ r), (1, .long v)]) [1, 0, 2, 3] rfl ?_
        exact ih (j + 1) _ (by omega) rfl (by omega)
  refine v_mem (C' := va_up C r (.inl (Λ.2.2.2.1 0, n, .inr (.inl (filK v g 0))))) (by rw [filK_0]; funext z; unfold va_up; by_cases hz : z = r <;> simp [hz, h]) ?_
  exact L _ 0 _ (by omega) rfl (Nat.lt_succ_self _)
def cpF (o f : FR) : FR := (va_cpy (fw o) (fw f) 0 0 32, va_cpy (fk o) (fk f) 0 0 8, va_cpy (fs o) (fs f) 0 0 8, va_cpy (fr o) (fr f) 0 0 8, fp o, fd o, fa o)
def joC (how : Int32) (x y : Int64) : Int64 := if how = 0 then x ||| y else if how = 1 then x &&& y else if how = 2 then x &&& (y ^^^ (-1)) else x ^^^ y
def fbI (x : Int64) (b : Nat) : Nat → Nat → FR → FR
  | 0, _, g => g
  | m + 1, k, g => fbI x b m (k + 1) (if bl x k = true then flipF g (b * 64 + k) else g)
def fwO (how : Int32) (o p : FR) : Nat → Nat → FR → FR
  | 0, _, g => g
  | m + 1, b, g => fwO how o p m (b + 1) (fbI (joC how (fw o b) (fw p b)) b 64 0 g)
def kbF : Nat → Nat → FR → FR
  | 0, _, g => g
  | m + 1, b, g => kbF m (b + 1) (fkS g (upd (fk g) b (bestC g b)))
def flF (how : Int32) (o p f : FR) : FR := kbF 8 0 (fwO how o p 32 0 (fillF f))
def bgF (f : FR) (c : Int32) : FR := faS (fdS (fpS (fillF f) c) 0) false
