theorem hd_X5_copies : yX5_copies.cls ≠ "java/lang/invoke/MethodHandle" ∧ yX5_copies.cls ≠ "java/lang/invoke/VarHandle" ∧ (parseMethodDescriptor yX5_copies.desc).map (fun d => d.parameters.length) = some 4 := by decide +kernel
set_option maxHeartbeats 4000000 in
set_option maxRecDepth 100000 in
theorem c_X5_copies (Λ : Lk) (C : Mem) {r1 r2 n1 n2 a c : Nat} {f g : Nat → Int32} (h1 : C r1 = .inl (Λ.2.2.2.1 1, n1, .inl f)) (h2 : C r2 = .inl (Λ.2.2.2.1 1, n2, .inl g)) (hne : r1 ≠ r2) (hr1 : r1 < nR) (hr2 : r2 < nR) (ha : a + 451 ≤ n1) (hc : c + 451 ≤ n2) (hn1 : n1 < 2 ^ 31) (hn2 : n2 < 2 ^ 31) : Con Λ yX5_copies wsX5_copies { frames := 0, cells := 0, slots := 0, locals := 0 } [rf Λ r1, .int (nI a), rf Λ r2, .int (nI c)] C none (va_up C r2 (.inl (Λ.2.2.2.1 1, n2, .inl (cpyK f g a c 451)))) := by
  refine con_start (cc := cX5_copies) (maxL := 5) (ret := none) (by decide) rfl (Nat.le_of_ble_eq_true rfl) ?_
  intro κ hC hR
  have hC : Ok Λ { frames := 0, cells := 0, slots := 0, locals := 0 } cX5_copies wsX5_copies RX5 5 κ := hC
  refine v_args (lv' := [(0, rf Λ r1), (1, .int (nI a)), (2, rf Λ r2), (3, .int (nI c))]) rfl ?_
  refine v_iconst (v := 0) hC dX5_copies_0 (by decide) ?_
  refine v_istore (lv' := [(4, .int 0), (0, rf Λ r1), (1, .int (nI a)), (2, rf Λ r2), (3, .int (nI c))]) hC dX5_copies_1 (by decide) rfl ?_
  have L3 : ∀ (k : Nat) (j : Nat) (x4 : Int32), j ≤ 451 → x4 = nI j → 451 - j < k → V Λ κ (va_up C r2 (.inl (Λ.2.2.2.1 1, n2, .inl (cpyK f g a c j)))) 3 [(4, .int x4), (0, rf Λ r1), (1, .int (nI a)), (2, rf Λ r2), (3, .int (nI c))] [] := by
    intro k
    induction k with
    | zero => intro j x4 hj e4 hk; exact absurd hk (Nat.not_lt_zero _)
    | succ k ih =>
      intro j x4 hj e4 hk
      subst e4
      refine v_iload hC dX5_copies_3 0 rfl ?_
      refine v_sipush (v := 451) hC dX5_copies_5 (by decide) ?_
      refine v_nge (a := j) (b := 451) (tgt := 29) hC dX5_copies_8 (by decide) rfl rfl (by omega) (by omega) (fun c8 => ?_) (fun c8 => ?_)
      · have e : j = 451 := by omega
        subst e
        exact v_vret hC hR rfl rfl dX5_copies_29
      · refine v_aload_n hC dX5_copies_11 3 rfl ?_
        refine v_iload_n hC dX5_copies_12 4 rfl ?_
        refine v_iload hC dX5_copies_13 0 rfl ?_
        refine v_iadd (x := nI c) (y := nI j) hC dX5_copies_15 ?_
        refine v_topi (y := nI (c + j)) (nI_add c j) ?_
        refine v_aload_n hC dX5_copies_16 1 rfl ?_
        refine v_iload_n hC dX5_copies_17 2 rfl ?_
        refine v_iload hC dX5_copies_18 0 rfl ?_
        refine v_iadd (x := nI a) (y := nI j) hC dX5_copies_20 ?_
        refine v_topi (y := nI (a + j)) (nI_add a j) ?_
        refine v_iald (n := n1) (f := f) hC r1 hr1 ((va_up_ne C _ hne).trans h1) (a + j) rfl (by omega) hn1 dX5_copies_21 ?_
        refine v_iast (n := n2) (f := cpyK f g a c j) hC r2 hr2 (va_up_self C _ _) (c + j) rfl (by omega) hn2 dX5_copies_22 ?_
        refine v_mem (C' := va_up C r2 (.inl (Λ.2.2.2.1 1, n2, .inl (cpyK f g a c (j + 1))))) (by rw [cpyK_s]; funext z; unfold va_up; by_cases hz : z = r2 <;> simp [hz]) ?_
        refine v_iinc (j := 0) (v := nI (j + 1)) (lv' := [(4, .int (nI (j + 1))), (0, rf Λ r1), (1, .int (nI a)), (2, rf Λ r2), (3, .int (nI c))]) hC dX5_copies_23 rfl (nI_add j 1) (by decide) rfl ?_
        refine v_goto (tgt := 3) hC dX5_copies_26 (by decide) ?_
        exact ih (j + 1) _ (by omega) rfl (by omega)
  refine v_mem (C' := va_up C r2 (.inl (Λ.2.2.2.1 1, n2, .inl (cpyK f g a c 0)))) (by rw [cpyK_0]; funext z; unfold va_up; by_cases hz : z = r2 <;> simp [hz, h2]) ?_
  exact L3 _ 0 _ (by omega) rfl (Nat.lt_succ_self _)
/-- a row may be said otherwise beyond its end -/
theorem cg (Λ : Lk) {C C' : Mem} {q n : Nat} {f f' : Nat → Int32} {cA : ClassId} (ho : ∀ r, r ≠ q → C r = C' r) (h1 : C q = .inl (cA, n, .inl f)) (h2 : C' q = .inl (cA, n, .inl f')) (h : ∀ j, j < n → f j = f' j) : ∀ r, r < nR → C r = C' r ∨ ∃ cA n f f', C r = .inl (cA, n, .inl f) ∧ C' r = .inl (cA, n, .inl f') ∧ ∀ j, j < n → f j = f' j := by
  intro r _
  by_cases hr : r = q
  · subst hr; exact Or.inr ⟨cA, n, f, f', h1, h2, h⟩
  · exact Or.inl (ho r hr)
theorem cg_y {Λ : Lk} {X : XS} {Y : YS} {f f' : Nat → Int32} (h : ∀ j, j < 451 → f j = f' j) : (∀ r, r < nR → CC Λ X (ynS Y f) r = CC Λ X (ynS Y f') r ∨ ∃ cA n f0 f1, CC Λ X (ynS Y f) r = .inl (cA, n, .inl f0) ∧ CC Λ X (ynS Y f') r = .inl (cA, n, .inl f1) ∧ ∀ j, j < n → f0 j = f1 j) ∧ (∀ r, r < nR → CC Λ X (ytS Y f) r = CC Λ X (ytS Y f') r ∨ ∃ cA n f0 f1, CC Λ X (ytS Y f) r = .inl (cA, n, .inl f0) ∧ CC Λ X (ytS Y f') r = .inl (cA, n, .inl f1) ∧ ∀ j, j < n → f0 j = f1 j) ∧ (∀ r, r < nR → CC Λ X (ykS Y f) r = CC Λ X (ykS Y f') r ∨ ∃ cA n f0 f1, CC Λ X (ykS Y f) r = .inl (cA, n, .inl f0) ∧ CC Λ X (ykS Y f') r = .inl (cA, n, .inl f1) ∧ ∀ j, j < n → f0 j = f1 j) := by
  refine ⟨cg Λ (q := 205) (fun r hr => ?_) (cc_205 Λ X _) (cc_205 Λ X _) h, cg Λ (q := 208) (fun r hr => ?_) (cc_208 Λ X _) (cc_208 Λ X _) h, cg Λ (q := 207) (fun r hr => ?_) (cc_207 Λ X _) (cc_207 Λ X _) h⟩
  · rw [← cs_yn Λ X Y f, ← cs_yn Λ X Y f', va_up_ne _ _ hr, va_up_ne _ _ hr]
  · rw [← cs_yt Λ X Y f, ← cs_yt Λ X Y f', va_up_ne _ _ hr, va_up_ne _ _ hr]
  · rw [← cs_yk Λ X Y f, ← cs_yk Λ X Y f', va_up_ne _ _ hr, va_up_ne _ _ hr]
theorem cp_0 {f g : Nat → Int32} (j : Nat) (h : j < 451) : cpyK f g 0 0 451 j = f j := by rw [cpyK_in (by omega)]; congr 1; omega
theorem cp_a {f g : Nat → Int32} {a : Nat} (j : Nat) (h : j < 451) : cpyK f g a 0 451 j = (fun j => f (a + j)) j := by rw [cpyK_in (by omega)]; congr 1
