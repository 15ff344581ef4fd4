theorem hd_X5_rankOf : yX5_rankOf.cls = RX5 ∧ yX5_rankOf.cls ≠ "java/lang/invoke/MethodHandle" ∧ yX5_rankOf.cls ≠ "java/lang/invoke/VarHandle" ∧ (parseMethodDescriptor yX5_rankOf.desc).map (fun d => d.parameters.length) = some 2 := by decide +kernel
set_option maxHeartbeats 400000 in
set_option maxRecDepth 100000 in
theorem c_X5_rankOf (Λ : Lk) (X : XS) (Y : YS) {s : Nat} {n : Nat} (hs : s < 6) (hn : n ≤ 2048) : Con Λ yX5_rankOf wsX5_rankOf { frames := 2, cells := 0, slots := 0, locals := 44 } [rf Λ 204, .int (nI s), .int (nI n)] (CC Λ X Y) (some (.int (nI (cnt (mb (yn Y) s) 0 n)))) (CC Λ X Y) := by
  refine con_start (cc := cX5_rankOf) (maxL := 5) (ret := (some .int)) (by decide) rfl (Nat.le_of_ble_eq_true rfl) ?_
  intro κ hC hR
  have hC : Ok Λ { frames := 2, cells := 0, slots := 0, locals := 44 } cX5_rankOf wsX5_rankOf RX5 5 κ := hC
  refine v_args (lv' := [(0, rf Λ 204), (1, .int (nI s)), (2, .int (nI n))]) rfl ?_
  refine v_iconst (v := 0) hC dX5_rankOf_0 (by decide) ?_
  refine v_istore_n (lv' := [(3, .int 0), (0, rf Λ 204), (1, .int (nI s)), (2, .int (nI n))]) hC dX5_rankOf_1 (by decide) rfl ?_
  refine v_iconst (v := 0) hC dX5_rankOf_2 (by decide) ?_
  refine v_istore (lv' := [(4, .int 0), (3, .int 0), (0, rf Λ 204), (1, .int (nI s)), (2, .int (nI n))]) hC dX5_rankOf_3 (by decide) rfl ?_
  have L5 : ∀ (fu5 : Nat) (j : Nat) (x3 : Int32) (x4 : Int32), j ≤ n → x3 = nI (cnt (mb (yn Y) s) 0 j) → x4 = nI j → n - j < fu5 → V Λ κ (CC Λ X Y) 5 [(0, rf Λ 204), (1, .int (nI s)), (2, .int (nI n)), (3, .int x3), (4, .int x4)] [] := by
    intro fu5
    induction fu5 with
    | zero => intro j x3 x4 hj e3 e4 hfu5; exact absurd hfu5 (Nat.not_lt_zero _)
    | succ fu5 ih5 =>
      intro j x3 x4 hj e3 e4 hfu5
      subst e3
      subst e4
      have hcl := cnt_le (mb (yn Y) s) 0 j
      refine v_iload hC dX5_rankOf_5 4 rfl ?_
      refine v_iload_n hC dX5_rankOf_7 2 rfl ?_
      refine v_nge (a := j) (b := n) (tgt := 35) hC dX5_rankOf_8 (by decide) rfl rfl (by omega) (by omega) (fun c8 => ?_) (fun c8 => ?_)
      · have c8' := Nat.not_lt.mpr c8
        refine v_iload_n hC dX5_rankOf_35 3 rfl ?_
        exact v_iret hC hR (congrArg (fun z : Int32 => some (Value.int z)) (by have e : j = n := (by omega); subst e; rfl)) rfl dX5_rankOf_36
      · have c8' := Nat.not_le.mpr c8
        refine v_iload_n hC dX5_rankOf_11 3 rfl ?_
        refine v_aload_n hC dX5_rankOf_12 0 rfl ?_
        refine v_iload_n hC dX5_rankOf_13 1 rfl ?_
        refine v_iload hC dX5_rankOf_14 4 rfl ?_
        refine v_callVr (v := .int (bI (mb (yn Y) s j))) (C2 := CC Λ X Y) (As := [.int (nI s), .int (nI j)]) (rest := [.int (nI (cnt (mb (yn Y) s) 0 j))]) hC 2 204 (c_X5_isIn Λ X Y (s := s) (n := j) (by omega) (by omega)) (nR_of (by decide)) (cc_204 Λ X Y) rfl gX5_rankOf_X5_isIn rfl rfl rfl hd_X5_isIn ⟨by decide, by decide⟩ rfl rfl (Nat.le_of_ble_eq_true rfl) dX5_rankOf_16 ?_
        refine v_beq (b := mb (yn Y) s j) (tgt := 26) hC dX5_rankOf_19 (by decide) (fun c19 => ?_) (fun c19 => ?_)
        · skip
          refine v_iconst (v := 0) hC dX5_rankOf_26 (by decide) ?_
          refine v_iadd (x := nI (cnt (mb (yn Y) s) 0 j)) (y := 0) hC dX5_rankOf_27 ?_
          refine v_topi (y := nI (cnt (mb (yn Y) s) 0 j + 0)) (nI_add (cnt (mb (yn Y) s) 0 j) 0) ?_
          refine v_istore_n (lv' := [(3, .int (nI (cnt (mb (yn Y) s) 0 j + 0))), (0, rf Λ 204), (1, .int (nI s)), (2, .int (nI n)), (4, .int (nI j))]) hC dX5_rankOf_28 (by decide) rfl ?_
          refine v_iinc (j := 4) (v := nI (j + 1)) (lv' := [(4, .int (nI (j + 1))), (3, .int (nI (cnt (mb (yn Y) s) 0 j + 0))), (0, rf Λ 204), (1, .int (nI s)), (2, .int (nI n))]) hC dX5_rankOf_29 rfl (nI_add j 1) (by decide) rfl ?_
          refine v_goto (tgt := 5) hC dX5_rankOf_32 (by decide) ?_
          refine v_sub (lv' := [(0, rf Λ 204), (1, .int (nI s)), (2, .int (nI n)), (3, .int (nI (cnt (mb (yn Y) s) 0 j + 0))), (4, .int (nI (j + 1)))]) [2, 3, 4, 1, 0] rfl ?_
          exact ih5 (j + 1) _ _ (by omega) (by rw [show cnt (mb (yn Y) s) 0 (j + 1) = cnt (mb (yn Y) s) 0 j from cnt_F (by rw [Nat.zero_add]; exact c19)]; rfl) rfl (by omega)
        · skip
          refine v_iconst (v := 1) hC dX5_rankOf_22 (by decide) ?_
          refine v_goto (tgt := 27) hC dX5_rankOf_23 (by decide) ?_
          refine v_iadd (x := nI (cnt (mb (yn Y) s) 0 j)) (y := 1) hC dX5_rankOf_27 ?_
          refine v_topi (y := nI (cnt (mb (yn Y) s) 0 j + 1)) (nI_add (cnt (mb (yn Y) s) 0 j) 1) ?_
          refine v_istore_n (lv' := [(3, .int (nI (cnt (mb (yn Y) s) 0 j + 1))), (0, rf Λ 204), (1, .int (nI s)), (2, .int (nI n)), (4, .int (nI j))]) hC dX5_rankOf_28 (by decide) rfl ?_
          refine v_iinc (j := 4) (v := nI (j + 1)) (lv' := [(4, .int (nI (j + 1))), (3, .int (nI (cnt (mb (yn Y) s) 0 j + 1))), (0, rf Λ 204), (1, .int (nI s)), (2, .int (nI n))]) hC dX5_rankOf_29 rfl (nI_add j 1) (by decide) rfl ?_
          refine v_goto (tgt := 5) hC dX5_rankOf_32 (by decide) ?_
          refine v_sub (lv' := [(0, rf Λ 204), (1, .int (nI s)), (2, .int (nI n)), (3, .int (nI (cnt (mb (yn Y) s) 0 j + 1))), (4, .int (nI (j + 1)))]) [2, 3, 4, 1, 0] rfl ?_
          exact ih5 (j + 1) _ _ (by omega) (by rw [show cnt (mb (yn Y) s) 0 (j + 1) = cnt (mb (yn Y) s) 0 j + 1 from cnt_T (by rw [Nat.zero_add]; exact c19)]) rfl (by omega)
  refine v_sub (lv' := [(0, rf Λ 204), (1, .int (nI s)), (2, .int (nI n)), (3, .int 0), (4, .int 0)]) [2, 3, 4, 1, 0] rfl ?_
  exact L5 _ 0 _ _ (by omega) rfl rfl (Nat.lt_succ_self _)

theorem hd_X5_firstFrom : yX5_firstFrom.cls = RX5 ∧ yX5_firstFrom.cls ≠ "java/lang/invoke/MethodHandle" ∧ yX5_firstFrom.cls ≠ "java/lang/invoke/VarHandle" ∧ (parseMethodDescriptor yX5_firstFrom.desc).map (fun d => d.parameters.length) = some 3 := by decide +kernel
set_option maxHeartbeats 400000 in
set_option maxRecDepth 100000 in
theorem c_X5_firstFrom_u (Λ : Lk) (X : XS) (Y : YS) {s : Nat} {n : Nat} (hs : s < 6) (hn : n < 2048) : Con Λ yX5_firstFrom wsX5_firstFrom { frames := 2, cells := 0, slots := 0, locals := 44 } [rf Λ 204, .int (nI s), .int (nI n), .int 1] (CC Λ X Y) (some (.int (upF (mb (yn Y) s) (2048 - n) n))) (CC Λ X Y) := by
  refine con_start (cc := cX5_firstFrom) (maxL := 5) (ret := (some .int)) (by decide) rfl (Nat.le_of_ble_eq_true rfl) ?_
  intro κ hC hR
  have hC : Ok Λ { frames := 2, cells := 0, slots := 0, locals := 44 } cX5_firstFrom wsX5_firstFrom RX5 5 κ := hC
  refine v_args (lv' := [(0, rf Λ 204), (1, .int (nI s)), (2, .int (nI n)), (3, .int 1)]) rfl ?_
  refine v_iload_n hC dX5_firstFrom_0 2 rfl ?_
  refine v_istore (lv' := [(4, .int (nI n)), (0, rf Λ 204), (1, .int (nI s)), (2, .int (nI n)), (3, .int 1)]) hC dX5_firstFrom_1 (by decide) rfl ?_
  have L3 : ∀ (fu3 : Nat) (j : Nat) (x4 : Int32), j ≤ 2048 → upF (mb (yn Y) s) (2048 - j) j = upF (mb (yn Y) s) (2048 - n) n → x4 = nI j → 2048 - j < fu3 → V Λ κ (CC Λ X Y) 3 [(0, rf Λ 204), (1, .int (nI s)), (2, .int (nI n)), (3, .int 1), (4, .int x4)] [] := by
    intro fu3
    induction fu3 with
    | zero => intro j x4 hj hu e4 hfu3; exact absurd hfu3 (Nat.not_lt_zero _)
    | succ fu3 ih3 =>
      intro j x4 hj hu e4 hfu3
      subst e4
      refine v_iload hC dX5_firstFrom_3 4 rfl ?_
      refine v_callSr (v := .int (bI (inB (nI j) 0 2047))) (C2 := CC Λ X Y) (As := [.int (nI j)]) (rest := []) hC 1 (c_X5_isNumber Λ X Y (v := nI j)) gX5_firstFrom_X5_isNumber rfl rfl rfl hd_X5_isNumber ⟨by decide, by decide⟩ rfl rfl (Nat.le_of_ble_eq_true rfl) dX5_firstFrom_5 ?_
      refine v_beq (b := inB (nI j) 0 2047) (tgt := 33) hC dX5_firstFrom_8 (by decide) (fun c8 => ?_) (fun c8 => ?_)
      · skip
        refine v_bipush (v := (-5)) hC dX5_firstFrom_33 (by decide) ?_
        exact v_iret hC hR (congrArg (fun z : Int32 => some (Value.int z)) (by rw [← hu]; have e : j = 2048 := Nat.le_antisymm hj (Nat.le_of_not_lt (fun h => absurd (isN_nI h) (by rw [c8]; decide))); subst e; rfl)) rfl dX5_firstFrom_35
      · skip
        have hj2 : j < 2048 := by rcases isN_of c8 with ⟨z, hz, ez⟩; have := (nI_eq (by omega) (by omega)).mp ez; omega
        refine v_aload_n hC dX5_firstFrom_11 0 rfl ?_
        refine v_iload_n hC dX5_firstFrom_12 1 rfl ?_
        refine v_iload hC dX5_firstFrom_13 4 rfl ?_
        refine v_callVr (v := .int (bI (mb (yn Y) s j))) (C2 := CC Λ X Y) (As := [.int (nI s), .int (nI j)]) (rest := []) hC 2 204 (c_X5_isIn Λ X Y (s := s) (n := j) (by omega) (by omega)) (nR_of (by decide)) (cc_204 Λ X Y) rfl gX5_firstFrom_X5_isIn rfl rfl rfl hd_X5_isIn ⟨by decide, by decide⟩ rfl rfl (Nat.le_of_ble_eq_true rfl) dX5_firstFrom_15 ?_
        refine v_beq (b := mb (yn Y) s j) (tgt := 24) hC dX5_firstFrom_18 (by decide) (fun c18 => ?_) (fun c18 => ?_)
        · skip
          refine v_iload hC dX5_firstFrom_24 4 rfl ?_
          refine v_iload_n hC dX5_firstFrom_26 3 rfl ?_
          refine v_iadd (x := nI j) (y := 1) hC dX5_firstFrom_27 ?_
          refine v_topi (y := nI (j + 1)) (nI_add j 1) ?_
          refine v_istore (lv' := [(4, .int (nI (j + 1))), (0, rf Λ 204), (1, .int (nI s)), (2, .int (nI n)), (3, .int 1)]) hC dX5_firstFrom_28 (by decide) rfl ?_
          refine v_goto (tgt := 3) hC dX5_firstFrom_30 (by decide) ?_
          refine v_sub (lv' := [(0, rf Λ 204), (1, .int (nI s)), (2, .int (nI n)), (3, .int 1), (4, .int (nI (j + 1)))]) [1, 2, 3, 4, 0] rfl ?_
          exact ih3 (j + 1) _ (by omega) (by rw [← hu, show 2048 - j = (2048 - (j + 1)) + 1 by omega, upF, if_neg (by rw [c18]; decide)]) rfl (by omega)
        · skip
          refine v_iload hC dX5_firstFrom_21 4 rfl ?_
          exact v_iret hC hR (congrArg (fun z : Int32 => some (Value.int z)) (by rw [← hu, show 2048 - j = (2048 - (j + 1)) + 1 by omega, upF, if_pos c18])) rfl dX5_firstFrom_23
  refine v_sub (lv' := [(0, rf Λ 204), (1, .int (nI s)), (2, .int (nI n)), (3, .int 1), (4, .int (nI n))]) [1, 2, 3, 4, 0] rfl ?_
  exact L3 _ n _ (by omega) rfl rfl (Nat.lt_succ_self _)


set_option maxHeartbeats 400000 in
set_option maxRecDepth 100000 in
theorem c_X5_firstFrom_d (Λ : Lk) (X : XS) (Y : YS) {s : Nat} {n : Nat} (hs : s < 6) (hn : n < 2048) : Con Λ yX5_firstFrom wsX5_firstFrom { frames := 2, cells := 0, slots := 0, locals := 44 } [rf Λ 204, .int (nI s), .int (nI n), .int (-1)] (CC Λ X Y) (some (.int (dnF (mb (yn Y) s) (n + 1)))) (CC Λ X Y) := by
  refine con_start (cc := cX5_firstFrom) (maxL := 5) (ret := (some .int)) (by decide) rfl (Nat.le_of_ble_eq_true rfl) ?_
  intro κ hC hR
  have hC : Ok Λ { frames := 2, cells := 0, slots := 0, locals := 44 } cX5_firstFrom wsX5_firstFrom RX5 5 κ := hC
  refine v_args (lv' := [(0, rf Λ 204), (1, .int (nI s)), (2, .int (nI n)), (3, .int (-1))]) rfl ?_
  refine v_iload_n hC dX5_firstFrom_0 2 rfl ?_
  refine v_istore (lv' := [(4, .int (nI n)), (0, rf Λ 204), (1, .int (nI s)), (2, .int (nI n)), (3, .int (-1))]) hC dX5_firstFrom_1 (by decide) rfl ?_
  have L3 : ∀ (fu3 : Nat) (j : Nat) (x4 : Int32), j ≤ 2048 → dnF (mb (yn Y) s) j = dnF (mb (yn Y) s) (n + 1) → x4 = nI j - 1 → j < fu3 → V Λ κ (CC Λ X Y) 3 [(0, rf Λ 204), (1, .int (nI s)), (2, .int (nI n)), (3, .int (-1)), (4, .int x4)] [] := by
    intro fu3
    induction fu3 with
    | zero => intro j x4 hj hu e4 hfu3; exact absurd hfu3 (Nat.not_lt_zero _)
    | succ fu3 ih3 =>
      intro j x4 hj hu e4 hfu3
      subst e4
      refine v_iload hC dX5_firstFrom_3 4 rfl ?_
      refine v_callSr (v := .int (bI (inB (nI j - 1) 0 2047))) (C2 := CC Λ X Y) (As := [.int (nI j - 1)]) (rest := []) hC 1 (c_X5_isNumber Λ X Y (v := nI j - 1)) gX5_firstFrom_X5_isNumber rfl rfl rfl hd_X5_isNumber ⟨by decide, by decide⟩ rfl rfl (Nat.le_of_ble_eq_true rfl) dX5_firstFrom_5 ?_
      refine v_beq (b := inB (nI j - 1) 0 2047) (tgt := 33) hC dX5_firstFrom_8 (by decide) (fun c8 => ?_) (fun c8 => ?_)
      · skip
        refine v_bipush (v := (-5)) hC dX5_firstFrom_33 (by decide) ?_
        exact v_iret hC hR (congrArg (fun z : Int32 => some (Value.int z)) (by rw [← hu]; have e : j = 0 := (by have h := (inB_m1 hj).symm.trans c8; have := of_decide_eq_false h; omega); subst e; rfl)) rfl dX5_firstFrom_35
      · skip
        obtain ⟨i, rfl⟩ : ∃ i, j = i + 1 := by cases j with | zero => exact absurd c8 (by decide) | succ i => exact ⟨i, rfl⟩
        rw [nI_pred]
        refine v_aload_n hC dX5_firstFrom_11 0 rfl ?_
        refine v_iload_n hC dX5_firstFrom_12 1 rfl ?_
        refine v_iload hC dX5_firstFrom_13 4 rfl ?_
        refine v_callVr (v := .int (bI (mb (yn Y) s i))) (C2 := CC Λ X Y) (As := [.int (nI s), .int (nI i)]) (rest := []) hC 2 204 (c_X5_isIn Λ X Y (s := s) (n := i) (by omega) (by omega)) (nR_of (by decide)) (cc_204 Λ X Y) rfl gX5_firstFrom_X5_isIn rfl rfl rfl hd_X5_isIn ⟨by decide, by decide⟩ rfl rfl (Nat.le_of_ble_eq_true rfl) dX5_firstFrom_15 ?_
        refine v_beq (b := mb (yn Y) s i) (tgt := 24) hC dX5_firstFrom_18 (by decide) (fun c18 => ?_) (fun c18 => ?_)
        · skip
          refine v_iload hC dX5_firstFrom_24 4 rfl ?_
          refine v_iload_n hC dX5_firstFrom_26 3 rfl ?_
          refine v_iadd (x := nI i) (y := (-1)) hC dX5_firstFrom_27 ?_
          refine v_topi (y := nI i - 1) (by rw [Int32.sub_eq_add_neg]) ?_
          refine v_istore (lv' := [(4, .int (nI i - 1)), (0, rf Λ 204), (1, .int (nI s)), (2, .int (nI n)), (3, .int (-1))]) hC dX5_firstFrom_28 (by decide) rfl ?_
          refine v_goto (tgt := 3) hC dX5_firstFrom_30 (by decide) ?_
          refine v_sub (lv' := [(0, rf Λ 204), (1, .int (nI s)), (2, .int (nI n)), (3, .int (-1)), (4, .int (nI i - 1))]) [1, 2, 3, 4, 0] rfl ?_
          exact ih3 i _ (by omega) (by rw [← hu, dnF, if_neg (by rw [c18]; decide)]) rfl (by omega)
        · skip
          refine v_iload hC dX5_firstFrom_21 4 rfl ?_
          exact v_iret hC hR (congrArg (fun z : Int32 => some (Value.int z)) (by rw [← hu, dnF, if_pos c18])) rfl dX5_firstFrom_23
  refine v_sub (lv' := [(0, rf Λ 204), (1, .int (nI s)), (2, .int (nI n)), (3, .int (-1)), (4, .int (nI n))]) [1, 2, 3, 4, 0] rfl ?_
  exact L3 _ (n + 1) _ (by omega) rfl (nI_pred n).symm (Nat.lt_succ_self _)

theorem hd_X5_sumOf : yX5_sumOf.cls = RX5 ∧ yX5_sumOf.cls ≠ "java/lang/invoke/MethodHandle" ∧ yX5_sumOf.cls ≠ "java/lang/invoke/VarHandle" ∧ (parseMethodDescriptor yX5_sumOf.desc).map (fun d => d.parameters.length) = some 2 := by decide +kernel
set_option maxHeartbeats 400000 in
set_option maxRecDepth 100000 in
theorem c_X5_sumOf (Λ : Lk) (X : XS) (Y : YS) {s : Nat} {what : Int32} (hs : s < 6) : Con Λ yX5_sumOf wsX5_sumOf { frames := 3, cells := 0, slots := 0, locals := 68 } [rf Λ 204, .int (nI s), .int what] (CC Λ X Y) (some (.int (sumN (yn Y) s what 8))) (CC Λ X Y) := by
  refine con_start (cc := cX5_sumOf) (maxL := 7) (ret := (some .int)) (by decide) rfl (Nat.le_of_ble_eq_true rfl) ?_
  intro κ hC hR
  have hC : Ok Λ { frames := 3, cells := 0, slots := 0, locals := 68 } cX5_sumOf wsX5_sumOf RX5 7 κ := hC
  refine v_args (lv' := [(0, rf Λ 204), (1, .int (nI s)), (2, .int what)]) rfl ?_
  refine v_iconst (v := 0) hC dX5_sumOf_0 (by decide) ?_
  refine v_istore_n (lv' := [(3, .int 0), (0, rf Λ 204), (1, .int (nI s)), (2, .int what)]) hC dX5_sumOf_1 (by decide) rfl ?_
  refine v_iconst (v := 0) hC dX5_sumOf_2 (by decide) ?_
  refine v_istore (lv' := [(4, .int 0), (3, .int 0), (0, rf Λ 204), (1, .int (nI s)), (2, .int what)]) hC dX5_sumOf_3 (by decide) rfl ?_
  have L5 : ∀ (fu5 : Nat) (j : Nat) (x3 : Int32) (x4 : Int32), j ≤ 8 → x3 = sumN (yn Y) s what j → x4 = nI j → 8 - j < fu5 → V Λ κ (CC Λ X Y) 5 [(0, rf Λ 204), (1, .int (nI s)), (2, .int what), (3, .int x3), (4, .int x4)] [] := by
    intro fu5
    induction fu5 with
    | zero => intro j x3 x4 hj e3 e4 hfu5; exact absurd hfu5 (Nat.not_lt_zero _)
    | succ fu5 ih5 =>
      intro j x3 x4 hj e3 e4 hfu5
      subst e3
      subst e4
      refine v_iload hC dX5_sumOf_5 4 rfl ?_
      refine v_bipush (v := 8) hC dX5_sumOf_7 (by decide) ?_
      refine v_nge (a := j) (b := 8) (tgt := 96) hC dX5_sumOf_9 (by decide) rfl rfl (by omega) (by omega) (fun c9 => ?_) (fun c9 => ?_)
      · have c9' := Nat.not_lt.mpr c9
        refine v_iload_n hC dX5_sumOf_96 3 rfl ?_
        exact v_iret hC hR (congrArg (fun z : Int32 => some (Value.int z)) (by have e : j = 8 := (by omega); subst e; rfl)) rfl dX5_sumOf_97
      · have c9' := Nat.not_le.mpr c9
        refine v_aload_n hC dX5_sumOf_12 0 rfl ?_
        refine v_iload_n hC dX5_sumOf_13 1 rfl ?_
        refine v_iload hC dX5_sumOf_14 4 rfl ?_
        refine v_callVr (v := .int (kindN (yn Y) s j)) (C2 := CC Λ X Y) (As := [.int (nI s), .int (nI j)]) (rest := []) hC 2 204 (c_X5_kindOf Λ X Y (s := s) (b := j) (by omega) (by omega)) (nR_of (by decide)) (cc_204 Λ X Y) rfl gX5_sumOf_X5_kindOf rfl rfl rfl hd_X5_kindOf ⟨by decide, by decide⟩ rfl rfl (Nat.le_of_ble_eq_true rfl) dX5_sumOf_16 ?_
        refine v_if_lt (tgt := 90) hC dX5_sumOf_19 (by decide) (fun c19 => ?_) (fun c19 => ?_)
        · have c19' := Int32.not_le.mpr c19
          refine v_iinc (j := 4) (v := nI (j + 1)) (lv' := [(4, .int (nI (j + 1))), (0, rf Λ 204), (1, .int (nI s)), (2, .int what), (3, .int (sumN (yn Y) s what j))]) hC dX5_sumOf_90 rfl (nI_add j 1) (by decide) rfl ?_
          refine v_goto (tgt := 5) hC dX5_sumOf_93 (by decide) ?_
          refine v_sub (lv' := [(0, rf Λ 204), (1, .int (nI s)), (2, .int what), (3, .int (sumN (yn Y) s what j)), (4, .int (nI (j + 1)))]) [1, 2, 3, 4, 0] rfl ?_
          exact ih5 (j + 1) _ _ (by omega) (by simp [sumN, unitsN, bestN, c9, c9', c19, c19']) rfl (by omega)
        · have c19' := Int32.not_lt.mp c19
          refine v_aload_n hC dX5_sumOf_22 0 rfl ?_
          refine v_iload_n hC dX5_sumOf_23 1 rfl ?_
          refine v_iload hC dX5_sumOf_24 4 rfl ?_
          refine v_callVr (v := .int (nI (manyN (yn Y) s j))) (C2 := CC Λ X Y) (As := [.int (nI s), .int (nI j)]) (rest := []) hC 2 204 (c_X5_manyIn Λ X Y (s := s) (b := j) (by omega) (by omega)) (nR_of (by decide)) (cc_204 Λ X Y) rfl gX5_sumOf_X5_manyIn rfl rfl rfl hd_X5_manyIn ⟨by decide, by decide⟩ rfl rfl (Nat.le_of_ble_eq_true rfl) dX5_sumOf_26 ?_
          have hm26 := manyN_le (yn Y) s j
          refine v_istore (lv' := [(5, .int (nI (manyN (yn Y) s j))), (0, rf Λ 204), (1, .int (nI s)), (2, .int what), (3, .int (sumN (yn Y) s what j)), (4, .int (nI j))]) hC dX5_sumOf_29 (by decide) rfl ?_
          refine v_aload_n hC dX5_sumOf_31 1 rfl ?_
          refine v_iload_n hC dX5_sumOf_32 2 rfl ?_
          refine v_iload hC dX5_sumOf_33 5 rfl ?_
          refine v_callVr (v := .int (nI (runsN (yn Y) s j))) (C2 := CC Λ X Y) (As := [.int (nI s), .int (nI j)]) (rest := []) hC 2 204 (c_X5_runsIn Λ X Y (s := s) (b := j) (by omega) (by omega)) (nR_of (by decide)) (cc_204 Λ X Y) rfl gX5_sumOf_X5_runsIn rfl rfl rfl hd_X5_runsIn ⟨by decide, by decide⟩ rfl rfl (Nat.le_of_ble_eq_true rfl) dX5_sumOf_35 ?_
          have hm35 := runsN_le (yn Y) s j
          refine v_istore (lv' := [(6, .int (nI (runsN (yn Y) s j))), (5, .int (nI (manyN (yn Y) s j))), (0, rf Λ 204), (1, .int (nI s)), (2, .int what), (3, .int (sumN (yn Y) s what j)), (4, .int (nI j))]) hC dX5_sumOf_38 (by decide) rfl ?_
          refine v_iload_n hC dX5_sumOf_40 5 rfl ?_
          refine v_iload_n hC dX5_sumOf_41 4 rfl ?_
          refine v_iconst (v := 2) hC dX5_sumOf_42 (by decide) ?_
          refine v_icmp_ne (x := what) (y := 2) (tgt := 63) hC dX5_sumOf_43 (by decide) (fun c43 => ?_) (fun c43 => ?_)
          · skip
            refine v_iload_n hC dX5_sumOf_63 4 rfl ?_
            refine v_bipush (v := 6) hC dX5_sumOf_64 (by decide) ?_
            refine v_icmp_ne (x := what) (y := 6) (tgt := 74) hC dX5_sumOf_66 (by decide) (fun c66 => ?_) (fun c66 => ?_)
            · skip
              refine v_iload hC dX5_sumOf_74 1 rfl ?_
              refine v_iload hC dX5_sumOf_76 0 rfl ?_
              refine v_callSr (v := .int (bestI (nI (manyN (yn Y) s j)) (nI (runsN (yn Y) s j)))) (C2 := CC Λ X Y) (As := [.int (nI (manyN (yn Y) s j)), .int (nI (runsN (yn Y) s j))]) (rest := [.int (sumN (yn Y) s what j)]) hC 2 (c_X5_best Λ X Y (m := nI (manyN (yn Y) s j)) (r := nI (runsN (yn Y) s j))) gX5_sumOf_X5_best rfl rfl rfl hd_X5_best ⟨by decide, by decide⟩ rfl rfl (Nat.le_of_ble_eq_true rfl) dX5_sumOf_78 ?_
              refine v_iload hC dX5_sumOf_81 1 rfl ?_
              refine v_iload hC dX5_sumOf_83 0 rfl ?_
              refine v_callSr (v := .int (unitsI (bestI (nI (manyN (yn Y) s j)) (nI (runsN (yn Y) s j))) (nI (manyN (yn Y) s j)) (nI (runsN (yn Y) s j)))) (C2 := CC Λ X Y) (As := [.int (bestI (nI (manyN (yn Y) s j)) (nI (runsN (yn Y) s j))), .int (nI (manyN (yn Y) s j)), .int (nI (runsN (yn Y) s j))]) (rest := [.int (sumN (yn Y) s what j)]) hC 3 (c_X5_units Λ X Y (k := bestI (nI (manyN (yn Y) s j)) (nI (runsN (yn Y) s j))) (m := nI (manyN (yn Y) s j)) (r := nI (runsN (yn Y) s j))) gX5_sumOf_X5_units rfl rfl rfl hd_X5_units ⟨by decide, by decide⟩ rfl rfl (Nat.le_of_ble_eq_true rfl) dX5_sumOf_85 ?_
              refine v_iadd (x := sumN (yn Y) s what j) (y := unitsI (bestI (nI (manyN (yn Y) s j)) (nI (runsN (yn Y) s j))) (nI (manyN (yn Y) s j)) (nI (runsN (yn Y) s j))) hC dX5_sumOf_88 ?_
              refine v_istore_n (lv' := [(3, .int ((sumN (yn Y) s what j) + (unitsI (bestI (nI (manyN (yn Y) s j)) (nI (runsN (yn Y) s j))) (nI (manyN (yn Y) s j)) (nI (runsN (yn Y) s j))))), (6, .int (nI (runsN (yn Y) s j))), (5, .int (nI (manyN (yn Y) s j))), (0, rf Λ 204), (1, .int (nI s)), (2, .int what), (4, .int (nI j))]) hC dX5_sumOf_89 (by decide) rfl ?_
              refine v_iinc (j := 6) (v := nI (j + 1)) (lv' := [(4, .int (nI (j + 1))), (3, .int ((sumN (yn Y) s what j) + (unitsI (bestI (nI (manyN (yn Y) s j)) (nI (runsN (yn Y) s j))) (nI (manyN (yn Y) s j)) (nI (runsN (yn Y) s j))))), (6, .int (nI (runsN (yn Y) s j))), (5, .int (nI (manyN (yn Y) s j))), (0, rf Λ 204), (1, .int (nI s)), (2, .int what)]) hC dX5_sumOf_90 rfl (nI_add j 1) (by decide) rfl ?_
              refine v_goto (tgt := 5) hC dX5_sumOf_93 (by decide) ?_
              refine v_sub (lv' := [(0, rf Λ 204), (1, .int (nI s)), (2, .int what), (3, .int ((sumN (yn Y) s what j) + (unitsI (bestI (nI (manyN (yn Y) s j)) (nI (runsN (yn Y) s j))) (nI (manyN (yn Y) s j)) (nI (runsN (yn Y) s j))))), (4, .int (nI (j + 1)))]) [4, 5, 6, 1, 0] rfl ?_
              exact ih5 (j + 1) _ _ (by omega) (by simp [sumN, unitsN, bestN, c9, c9', c19, c19', c43, c66]) rfl (by omega)
            · skip
              refine v_iload hC dX5_sumOf_69 0 rfl ?_
              refine v_goto (tgt := 88) hC dX5_sumOf_71 (by decide) ?_
              refine v_iadd (x := sumN (yn Y) s what j) (y := nI (runsN (yn Y) s j)) hC dX5_sumOf_88 ?_
              refine v_istore_n (lv' := [(3, .int ((sumN (yn Y) s what j) + (nI (runsN (yn Y) s j)))), (6, .int (nI (runsN (yn Y) s j))), (5, .int (nI (manyN (yn Y) s j))), (0, rf Λ 204), (1, .int (nI s)), (2, .int what), (4, .int (nI j))]) hC dX5_sumOf_89 (by decide) rfl ?_
              refine v_iinc (j := 6) (v := nI (j + 1)) (lv' := [(4, .int (nI (j + 1))), (3, .int ((sumN (yn Y) s what j) + (nI (runsN (yn Y) s j)))), (6, .int (nI (runsN (yn Y) s j))), (5, .int (nI (manyN (yn Y) s j))), (0, rf Λ 204), (1, .int (nI s)), (2, .int what)]) hC dX5_sumOf_90 rfl (nI_add j 1) (by decide) rfl ?_
              refine v_goto (tgt := 5) hC dX5_sumOf_93 (by decide) ?_
              refine v_sub (lv' := [(0, rf Λ 204), (1, .int (nI s)), (2, .int what), (3, .int ((sumN (yn Y) s what j) + (nI (runsN (yn Y) s j)))), (4, .int (nI (j + 1)))]) [4, 5, 6, 1, 0] rfl ?_
              exact ih5 (j + 1) _ _ (by omega) (by simp [sumN, unitsN, bestN, c9, c9', c19, c19', c43, c66]) rfl (by omega)
          · skip
            refine v_aload_n hC dX5_sumOf_46 2 rfl ?_
            refine v_iload_n hC dX5_sumOf_47 3 rfl ?_
            refine v_iload hC dX5_sumOf_48 6 rfl ?_
            refine v_callVr (v := .int (kindN (yn Y) s j)) (C2 := CC Λ X Y) (As := [.int (nI s), .int (nI j)]) (rest := [.int (sumN (yn Y) s what j)]) hC 2 204 (c_X5_kindOf Λ X Y (s := s) (b := j) (by omega) (by omega)) (nR_of (by decide)) (cc_204 Λ X Y) rfl gX5_sumOf_X5_kindOf rfl rfl rfl hd_X5_kindOf ⟨by decide, by decide⟩ rfl rfl (Nat.le_of_ble_eq_true rfl) dX5_sumOf_50 ?_
            refine v_iload hC dX5_sumOf_53 1 rfl ?_
            refine v_iload hC dX5_sumOf_55 0 rfl ?_
            refine v_callSr (v := .int (unitsI (kindN (yn Y) s j) (nI (manyN (yn Y) s j)) (nI (runsN (yn Y) s j)))) (C2 := CC Λ X Y) (As := [.int (kindN (yn Y) s j), .int (nI (manyN (yn Y) s j)), .int (nI (runsN (yn Y) s j))]) (rest := [.int (sumN (yn Y) s what j)]) hC 3 (c_X5_units Λ X Y (k := kindN (yn Y) s j) (m := nI (manyN (yn Y) s j)) (r := nI (runsN (yn Y) s j))) gX5_sumOf_X5_units rfl rfl rfl hd_X5_units ⟨by decide, by decide⟩ rfl rfl (Nat.le_of_ble_eq_true rfl) dX5_sumOf_57 ?_
            refine v_goto (tgt := 88) hC dX5_sumOf_60 (by decide) ?_
            refine v_iadd (x := sumN (yn Y) s what j) (y := unitsI (kindN (yn Y) s j) (nI (manyN (yn Y) s j)) (nI (runsN (yn Y) s j))) hC dX5_sumOf_88 ?_
            refine v_istore_n (lv' := [(3, .int ((sumN (yn Y) s what j) + (unitsI (kindN (yn Y) s j) (nI (manyN (yn Y) s j)) (nI (runsN (yn Y) s j))))), (6, .int (nI (runsN (yn Y) s j))), (5, .int (nI (manyN (yn Y) s j))), (0, rf Λ 204), (1, .int (nI s)), (2, .int what), (4, .int (nI j))]) hC dX5_sumOf_89 (by decide) rfl ?_
            refine v_iinc (j := 6) (v := nI (j + 1)) (lv' := [(4, .int (nI (j + 1))), (3, .int ((sumN (yn Y) s what j) + (unitsI (kindN (yn Y) s j) (nI (manyN (yn Y) s j)) (nI (runsN (yn Y) s j))))), (6, .int (nI (runsN (yn Y) s j))), (5, .int (nI (manyN (yn Y) s j))), (0, rf Λ 204), (1, .int (nI s)), (2, .int what)]) hC dX5_sumOf_90 rfl (nI_add j 1) (by decide) rfl ?_
            refine v_goto (tgt := 5) hC dX5_sumOf_93 (by decide) ?_
            refine v_sub (lv' := [(0, rf Λ 204), (1, .int (nI s)), (2, .int what), (3, .int ((sumN (yn Y) s what j) + (unitsI (kindN (yn Y) s j) (nI (manyN (yn Y) s j)) (nI (runsN (yn Y) s j))))), (4, .int (nI (j + 1)))]) [4, 5, 6, 1, 0] rfl ?_
            exact ih5 (j + 1) _ _ (by omega) (by simp [sumN, unitsN, bestN, c9, c9', c19, c19', c43]) rfl (by omega)
  refine v_sub (lv' := [(0, rf Λ 204), (1, .int (nI s)), (2, .int what), (3, .int 0), (4, .int 0)]) [2, 3, 4, 1, 0] rfl ?_
  exact L5 _ 0 _ _ (by omega) rfl rfl (Nat.lt_succ_self _)

theorem in_X5_setsWith_X5 : ∀ w ∈ wsX50, w ∈ wsX5_setsWith := by decide +kernel
theorem fl_X5_setsWith_7 : Cond.fieldLink RX5 7 "BoatSetsModel" "now" "[I" ∈ wsX5_setsWith := by decide +kernel
theorem hd_X5_setsWith : yX5_setsWith.cls = RX5 ∧ yX5_setsWith.cls ≠ "java/lang/invoke/MethodHandle" ∧ yX5_setsWith.cls ≠ "java/lang/invoke/VarHandle" ∧ (parseMethodDescriptor yX5_setsWith.desc).map (fun d => d.parameters.length) = some 1 := by decide +kernel
set_option maxHeartbeats 400000 in
set_option maxRecDepth 100000 in
theorem c_X5_setsWith (Λ : Lk) (X : XS) (Y : YS) {n : Nat} {ns : Nat} (h0 : yn Y 0 = nI ns) (hns : ns ≤ 6) (hn : n < 2048) : Con Λ yX5_setsWith wsX5_setsWith { frames := 2, cells := 0, slots := 0, locals := 44 } [rf Λ 204, .int (nI n)] (CC Λ X Y) (some (.int (nI (swN (yn Y) ns n)))) (CC Λ X Y) := by
  refine con_start (cc := cX5_setsWith) (maxL := 4) (ret := (some .int)) (by decide) rfl (Nat.le_of_ble_eq_true rfl) ?_
  intro κ hC hR
  have hC : Ok Λ { frames := 2, cells := 0, slots := 0, locals := 44 } cX5_setsWith wsX5_setsWith RX5 4 κ := hC
  refine v_args (lv' := [(0, rf Λ 204), (1, .int (nI n))]) rfl ?_
  refine v_iconst (v := 0) hC dX5_setsWith_0 (by decide) ?_
  refine v_istore_n (lv' := [(2, .int 0), (0, rf Λ 204), (1, .int (nI n))]) hC dX5_setsWith_1 (by decide) rfl ?_
  refine v_iconst (v := 0) hC dX5_setsWith_2 (by decide) ?_
  refine v_istore_n (lv' := [(3, .int 0), (2, .int 0), (0, rf Λ 204), (1, .int (nI n))]) hC dX5_setsWith_3 (by decide) rfl ?_
  have L4 : ∀ (fu4 : Nat) (j : Nat) (x2 : Int32) (x3 : Int32), j ≤ ns → x2 = nI (swN (yn Y) j n) → x3 = nI j → ns - j < fu4 → V Λ κ (CC Λ X Y) 4 [(0, rf Λ 204), (1, .int (nI n)), (2, .int x2), (3, .int x3)] [] := by
    intro fu4
    induction fu4 with
    | zero => intro j x2 x3 hj e2 e3 hfu4; exact absurd hfu4 (Nat.not_lt_zero _)
    | succ fu4 ih4 =>
      intro j x2 x3 hj e2 e3 hfu4
      subst e2
      subst e3
      have hcl := swN_le (yn Y) j n
      refine v_iload_n hC dX5_setsWith_4 3 rfl ?_
      refine v_aload_n hC dX5_setsWith_5 0 rfl ?_
      refine v_get (T := TX5) (N := 13) (v := rf Λ 205) hC 204 (nR_of (by decide)) (cc_204 Λ X Y) in_X5_setsWith_X5 rfl 0 (by decide) fl_X5_setsWith_7 rfl dX5_setsWith_6 ?_
      refine v_iconst (v := 0) hC dX5_setsWith_9 (by decide) ?_
      refine v_iald (n := 451) (f := (yn Y)) hC 205 (nR_of (by decide)) (cc_205 Λ X Y) 0 rfl (by omega) (by decide) dX5_setsWith_10 ?_
      refine v_topi (y := nI ns) h0 ?_
      refine v_nge (a := j) (b := ns) (tgt := 37) hC dX5_setsWith_11 (by decide) rfl rfl (by omega) (by omega) (fun c11 => ?_) (fun c11 => ?_)
      · have c11' := Nat.not_lt.mpr c11
        refine v_iload_n hC dX5_setsWith_37 2 rfl ?_
        exact v_iret hC hR (congrArg (fun z : Int32 => some (Value.int z)) (by have e : j = ns := (by omega); subst e; rfl)) rfl dX5_setsWith_38
      · have c11' := Nat.not_le.mpr c11
        refine v_iload_n hC dX5_setsWith_14 2 rfl ?_
        refine v_aload_n hC dX5_setsWith_15 0 rfl ?_
        refine v_iload_n hC dX5_setsWith_16 3 rfl ?_
        refine v_iload_n hC dX5_setsWith_17 1 rfl ?_
        refine v_callVr (v := .int (bI (mb (yn Y) j n))) (C2 := CC Λ X Y) (As := [.int (nI j), .int (nI n)]) (rest := [.int (nI (swN (yn Y) j n))]) hC 2 204 (c_X5_isIn Λ X Y (s := j) (n := n) (by omega) (by omega)) (nR_of (by decide)) (cc_204 Λ X Y) rfl gX5_setsWith_X5_isIn rfl rfl rfl hd_X5_isIn ⟨by decide, by decide⟩ rfl rfl (Nat.le_of_ble_eq_true rfl) dX5_setsWith_18 ?_
        refine v_beq (b := mb (yn Y) j n) (tgt := 28) hC dX5_setsWith_21 (by decide) (fun c21 => ?_) (fun c21 => ?_)
        · skip
          refine v_iconst (v := 0) hC dX5_setsWith_28 (by decide) ?_
          refine v_iadd (x := nI (swN (yn Y) j n)) (y := 0) hC dX5_setsWith_29 ?_
          refine v_topi (y := nI (swN (yn Y) j n + 0)) (nI_add (swN (yn Y) j n) 0) ?_
          refine v_istore_n (lv' := [(2, .int (nI (swN (yn Y) j n + 0))), (0, rf Λ 204), (1, .int (nI n)), (3, .int (nI j))]) hC dX5_setsWith_30 (by decide) rfl ?_
          refine v_iinc (j := 3) (v := nI (j + 1)) (lv' := [(3, .int (nI (j + 1))), (2, .int (nI (swN (yn Y) j n + 0))), (0, rf Λ 204), (1, .int (nI n))]) hC dX5_setsWith_31 rfl (nI_add j 1) (by decide) rfl ?_
          refine v_goto (tgt := 4) hC dX5_setsWith_34 (by decide) ?_
          refine v_sub (lv' := [(0, rf Λ 204), (1, .int (nI n)), (2, .int (nI (swN (yn Y) j n + 0))), (3, .int (nI (j + 1)))]) [2, 3, 1, 0] rfl ?_
          exact ih4 (j + 1) _ _ (by omega) (congrArg nI (show _ = swN (yn Y) (j + 1) n from (cnt_F (b := fun s => mb (yn Y) s n) (a := 0) (n := j) (by rw [Nat.zero_add]; exact c21)).symm)) rfl (by omega)
        · skip
          refine v_iconst (v := 1) hC dX5_setsWith_24 (by decide) ?_
          refine v_goto (tgt := 29) hC dX5_setsWith_25 (by decide) ?_
          refine v_iadd (x := nI (swN (yn Y) j n)) (y := 1) hC dX5_setsWith_29 ?_
          refine v_topi (y := nI (swN (yn Y) j n + 1)) (nI_add (swN (yn Y) j n) 1) ?_
          refine v_istore_n (lv' := [(2, .int (nI (swN (yn Y) j n + 1))), (0, rf Λ 204), (1, .int (nI n)), (3, .int (nI j))]) hC dX5_setsWith_30 (by decide) rfl ?_
          refine v_iinc (j := 3) (v := nI (j + 1)) (lv' := [(3, .int (nI (j + 1))), (2, .int (nI (swN (yn Y) j n + 1))), (0, rf Λ 204), (1, .int (nI n))]) hC dX5_setsWith_31 rfl (nI_add j 1) (by decide) rfl ?_
          refine v_goto (tgt := 4) hC dX5_setsWith_34 (by decide) ?_
          refine v_sub (lv' := [(0, rf Λ 204), (1, .int (nI n)), (2, .int (nI (swN (yn Y) j n + 1))), (3, .int (nI (j + 1)))]) [2, 3, 1, 0] rfl ?_
          exact ih4 (j + 1) _ _ (by omega) (congrArg nI (show _ = swN (yn Y) (j + 1) n from (cnt_T (b := fun s => mb (yn Y) s n) (a := 0) (n := j) (by rw [Nat.zero_add]; exact c21)).symm)) rfl (by omega)
  refine v_sub (lv' := [(0, rf Λ 204), (1, .int (nI n)), (2, .int 0), (3, .int 0)]) [2, 3, 1, 0] rfl ?_
  exact L4 _ 0 _ _ (by omega) rfl rfl (Nat.lt_succ_self _)

theorem hd_X5_gives : yX5_gives.cls ≠ "java/lang/invoke/MethodHandle" ∧ yX5_gives.cls ≠ "java/lang/invoke/VarHandle" ∧ (parseMethodDescriptor yX5_gives.desc).map (fun d => d.parameters.length) = some 3 := by decide +kernel
set_option maxHeartbeats 400000 in
set_option maxRecDepth 100000 in
theorem c_X5_gives (Λ : Lk) (X : XS) (Y : YS) {how : Int32} {a : Bool} {b : Bool} : Con Λ yX5_gives wsX5_gives { frames := 0, cells := 0, slots := 0, locals := 0 } [.int how, .int (bI a), .int (bI b)] (CC Λ X Y) (some (.int (bI (givesB how a b)))) (CC Λ X Y) := by
  refine con_start (cc := cX5_gives) (maxL := 3) (ret := (some .boolean)) (by decide) rfl (Nat.le_of_ble_eq_true rfl) ?_
  intro κ hC hR
  have hC : Ok Λ { frames := 0, cells := 0, slots := 0, locals := 0 } cX5_gives wsX5_gives RX5 3 κ := hC
  refine v_args (lv' := [(0, .int how), (1, .int (bI a)), (2, .int (bI b))]) rfl ?_
  refine v_iload_n hC dX5_gives_0 0 rfl ?_
  refine v_if_ne (tgt := 20) hC dX5_gives_1 (by decide) (fun c1 => ?_) (fun c1 => ?_)
  · skip
    refine v_iload_n hC dX5_gives_20 0 rfl ?_
    refine v_iconst (v := 1) hC dX5_gives_21 (by decide) ?_
    refine v_icmp_ne (x := how) (y := 1) (tgt := 41) hC dX5_gives_22 (by decide) (fun c22 => ?_) (fun c22 => ?_)
    · skip
      refine v_iload_n hC dX5_gives_41 0 rfl ?_
      refine v_iconst (v := 2) hC dX5_gives_42 (by decide) ?_
      refine v_icmp_ne (x := how) (y := 2) (tgt := 62) hC dX5_gives_43 (by decide) (fun c43 => ?_) (fun c43 => ?_)
      · skip
        refine v_iload_n hC dX5_gives_62 1 rfl ?_
        refine v_iload_n hC dX5_gives_63 2 rfl ?_
        refine v_ceq (a := a) (b := b) (tgt := 71) hC dX5_gives_64 (by decide) rfl rfl (fun c64 => ?_) (fun c64 => ?_)
        · skip
          refine v_iconst (v := 0) hC dX5_gives_71 (by decide) ?_
          exact v_zret hC hR (congrArg (fun z : Int32 => some (Value.int z)) (by simp [bI, givesB, c1, c22, c43, c64])) rfl rfl dX5_gives_72
        · skip
          refine v_iconst (v := 1) hC dX5_gives_67 (by decide) ?_
          refine v_goto (tgt := 72) hC dX5_gives_68 (by decide) ?_
          exact v_zret hC hR (congrArg (fun z : Int32 => some (Value.int z)) (by simp [bI, givesB, c1, c22, c43, c64])) rfl rfl dX5_gives_72
      · skip
        refine v_iload_n hC dX5_gives_46 1 rfl ?_
        refine v_beq (b := a) (tgt := 58) hC dX5_gives_47 (by decide) (fun c47 => ?_) (fun c47 => ?_)
        · skip
          refine v_iconst (v := 0) hC dX5_gives_58 (by decide) ?_
          refine v_goto (tgt := 72) hC dX5_gives_59 (by decide) ?_
          exact v_zret hC hR (congrArg (fun z : Int32 => some (Value.int z)) (by simp [bI, givesB, c1, c22, c43, c47])) rfl rfl dX5_gives_72
        · skip
          refine v_iload_n hC dX5_gives_50 2 rfl ?_
          refine v_bne (b := b) (tgt := 58) hC dX5_gives_51 (by decide) (fun c51 => ?_) (fun c51 => ?_)
          · skip
            refine v_iconst (v := 0) hC dX5_gives_58 (by decide) ?_
            refine v_goto (tgt := 72) hC dX5_gives_59 (by decide) ?_
            exact v_zret hC hR (congrArg (fun z : Int32 => some (Value.int z)) (by simp [bI, givesB, c1, c22, c43, c47, c51])) rfl rfl dX5_gives_72
          · skip
            refine v_iconst (v := 1) hC dX5_gives_54 (by decide) ?_
            refine v_goto (tgt := 72) hC dX5_gives_55 (by decide) ?_
            exact v_zret hC hR (congrArg (fun z : Int32 => some (Value.int z)) (by simp [bI, givesB, c1, c22, c43, c47, c51])) rfl rfl dX5_gives_72
    · skip
      refine v_iload_n hC dX5_gives_25 1 rfl ?_
      refine v_beq (b := a) (tgt := 37) hC dX5_gives_26 (by decide) (fun c26 => ?_) (fun c26 => ?_)
      · skip
        refine v_iconst (v := 0) hC dX5_gives_37 (by decide) ?_
        refine v_goto (tgt := 72) hC dX5_gives_38 (by decide) ?_
        exact v_zret hC hR (congrArg (fun z : Int32 => some (Value.int z)) (by simp [bI, givesB, c1, c22, c26])) rfl rfl dX5_gives_72
      · skip
        refine v_iload_n hC dX5_gives_29 2 rfl ?_
        refine v_beq (b := b) (tgt := 37) hC dX5_gives_30 (by decide) (fun c30 => ?_) (fun c30 => ?_)
        · skip
          refine v_iconst (v := 0) hC dX5_gives_37 (by decide) ?_
          refine v_goto (tgt := 72) hC dX5_gives_38 (by decide) ?_
          exact v_zret hC hR (congrArg (fun z : Int32 => some (Value.int z)) (by simp [bI, givesB, c1, c22, c26, c30])) rfl rfl dX5_gives_72
        · skip
          refine v_iconst (v := 1) hC dX5_gives_33 (by decide) ?_
          refine v_goto (tgt := 72) hC dX5_gives_34 (by decide) ?_
          exact v_zret hC hR (congrArg (fun z : Int32 => some (Value.int z)) (by simp [bI, givesB, c1, c22, c26, c30])) rfl rfl dX5_gives_72
  · skip
    refine v_iload_n hC dX5_gives_4 1 rfl ?_
    refine v_bne (b := a) (tgt := 12) hC dX5_gives_5 (by decide) (fun c5 => ?_) (fun c5 => ?_)
    · skip
      refine v_iconst (v := 1) hC dX5_gives_12 (by decide) ?_
      refine v_goto (tgt := 72) hC dX5_gives_13 (by decide) ?_
      exact v_zret hC hR (congrArg (fun z : Int32 => some (Value.int z)) (by simp [bI, givesB, c1, c5])) rfl rfl dX5_gives_72
    · skip
      refine v_iload_n hC dX5_gives_8 2 rfl ?_
      refine v_beq (b := b) (tgt := 16) hC dX5_gives_9 (by decide) (fun c9 => ?_) (fun c9 => ?_)
      · skip
        refine v_iconst (v := 0) hC dX5_gives_16 (by decide) ?_
        refine v_goto (tgt := 72) hC dX5_gives_17 (by decide) ?_
        exact v_zret hC hR (congrArg (fun z : Int32 => some (Value.int z)) (by simp [bI, givesB, c1, c5, c9])) rfl rfl dX5_gives_72
      · skip
        refine v_iconst (v := 1) hC dX5_gives_12 (by decide) ?_
        refine v_goto (tgt := 72) hC dX5_gives_13 (by decide) ?_
        exact v_zret hC hR (congrArg (fun z : Int32 => some (Value.int z)) (by simp [bI, givesB, c1, c5, c9])) rfl rfl dX5_gives_72

theorem in_X5_laysGiven_X5 : ∀ w ∈ wsX50, w ∈ wsX5_laysGiven := by decide +kernel
theorem fl_X5_laysGiven_25 : Cond.fieldLink RX5 25 "BoatSetsModel" "given" "[I" ∈ wsX5_laysGiven := by decide +kernel
theorem hd_X5_laysGiven : yX5_laysGiven.cls = RX5 ∧ yX5_laysGiven.cls ≠ "java/lang/invoke/MethodHandle" ∧ yX5_laysGiven.cls ≠ "java/lang/invoke/VarHandle" ∧ (parseMethodDescriptor yX5_laysGiven.desc).map (fun d => d.parameters.length) = some 3 := by decide +kernel
set_option maxHeartbeats 400000 in
set_option maxRecDepth 100000 in
theorem c_X5_laysGiven (Λ : Lk) (X : XS) (Y : YS) {how : Int32} {s : Nat} {o : Nat} (hs : s < 6) (ho : o < 6) : Con Λ yX5_laysGiven wsX5_laysGiven { frames := 2, cells := 0, slots := 0, locals := 44 } [rf Λ 204, .int how, .int (nI s), .int (nI o)] (CC Λ X Y) (some (.int (nI (cnt (gbN (yn Y) how s o) 0 2048)))) (CC Λ X (ygS Y (gvN (gbN (yn Y) how s o) (yg Y) 2048))) := by
  refine con_start (cc := cX5_laysGiven) (maxL := 6) (ret := (some .int)) (by decide) rfl (Nat.le_of_ble_eq_true rfl) ?_
  intro κ hC hR
  have hC : Ok Λ { frames := 2, cells := 0, slots := 0, locals := 44 } cX5_laysGiven wsX5_laysGiven RX5 6 κ := hC
  refine v_args (lv' := [(0, rf Λ 204), (1, .int how), (2, .int (nI s)), (3, .int (nI o))]) rfl ?_
  refine v_iconst (v := 0) hC dX5_laysGiven_0 (by decide) ?_
  refine v_istore (lv' := [(4, .int 0), (0, rf Λ 204), (1, .int how), (2, .int (nI s)), (3, .int (nI o))]) hC dX5_laysGiven_1 (by decide) rfl ?_
  refine v_iconst (v := 0) hC dX5_laysGiven_3 (by decide) ?_
  refine v_istore (lv' := [(5, .int 0), (4, .int 0), (0, rf Λ 204), (1, .int how), (2, .int (nI s)), (3, .int (nI o))]) hC dX5_laysGiven_4 (by decide) rfl ?_
  have L6 : ∀ (fu6 : Nat) (i : Nat) (x5 : Int32), i ≤ 64 → x5 = nI i → 64 - i < fu6 → V Λ κ (CC Λ X (ygS Y (zeroN (yg Y) i))) 6 [(0, rf Λ 204), (1, .int how), (2, .int (nI s)), (3, .int (nI o)), (4, .int 0), (5, .int x5)] [] := by
    intro fu6
    induction fu6 with
    | zero => intro i x5 hi e5 hfu6; exact absurd hfu6 (Nat.not_lt_zero _)
    | succ fu6 ih6 =>
      intro i x5 hi e5 hfu6
      subst e5
      refine v_iload hC dX5_laysGiven_6 5 rfl ?_
      refine v_bipush (v := 64) hC dX5_laysGiven_8 (by decide) ?_
      refine v_nge (a := i) (b := 64) (tgt := 27) hC dX5_laysGiven_10 (by decide) rfl rfl (by omega) (by omega) (fun c10 => ?_) (fun c10 => ?_)
      · have c10' := Nat.not_lt.mpr c10
        have e_i : i = 64 := by omega
        subst e_i
        refine v_iconst (v := 0) hC dX5_laysGiven_27 (by decide) ?_
        refine v_istore (lv' := [(5, .int 0), (0, rf Λ 204), (1, .int how), (2, .int (nI s)), (3, .int (nI o)), (4, .int 0)]) hC dX5_laysGiven_28 (by decide) rfl ?_
        have L30 : ∀ (fu30 : Nat) (j : Nat) (x4 : Int32) (x5 : Int32), j ≤ 2048 → x4 = nI (cnt (gbN (yn Y) how s o) 0 j) → x5 = nI j → 2048 - j < fu30 → V Λ κ (CC Λ X (ygS Y (gvN (gbN (yn Y) how s o) (yg Y) j))) 30 [(0, rf Λ 204), (1, .int how), (2, .int (nI s)), (3, .int (nI o)), (4, .int x4), (5, .int x5)] [] := by
          intro fu30
          induction fu30 with
          | zero => intro j x4 x5 hj e4 e5 hfu30; exact absurd hfu30 (Nat.not_lt_zero _)
          | succ fu30 ih30 =>
            intro j x4 x5 hj e4 e5 hfu30
            subst e4
            subst e5
            have hcl := cnt_le (gbN (yn Y) how s o) 0 j
            refine v_iload hC dX5_laysGiven_30 5 rfl ?_
            refine v_sipush (v := 2048) hC dX5_laysGiven_32 (by decide) ?_
            refine v_nge (a := j) (b := 2048) (tgt := 88) hC dX5_laysGiven_35 (by decide) rfl rfl (by omega) (by omega) (fun c35 => ?_) (fun c35 => ?_)
            · have c35' := Nat.not_lt.mpr c35
              have e_j : j = 2048 := by omega
              subst e_j
              refine v_iload hC dX5_laysGiven_88 4 rfl ?_
              exact v_iret hC hR rfl rfl dX5_laysGiven_90
            · have c35' := Nat.not_le.mpr c35
              refine v_iload_n hC dX5_laysGiven_38 1 rfl ?_
              refine v_aload_n hC dX5_laysGiven_39 0 rfl ?_
              refine v_iload_n hC dX5_laysGiven_40 2 rfl ?_
              refine v_iload hC dX5_laysGiven_41 5 rfl ?_
              refine v_callVr (v := .int (bI (mb (yn Y) s j))) (C2 := CC Λ X (ygS Y (gvN (gbN (yn Y) how s o) (yg Y) j))) (As := [.int (nI s), .int (nI j)]) (rest := [.int how]) hC 2 204 (c_X5_isIn Λ X (ygS Y (gvN (gbN (yn Y) how s o) (yg Y) j)) (s := s) (n := j) (by omega) (by omega)) (nR_of (by decide)) (cc_204 Λ X (ygS Y (gvN (gbN (yn Y) how s o) (yg Y) j))) rfl gX5_laysGiven_X5_isIn rfl rfl rfl hd_X5_isIn ⟨by decide, by decide⟩ rfl rfl (Nat.le_of_ble_eq_true rfl) dX5_laysGiven_43 ?_
              refine v_aload_n hC dX5_laysGiven_46 0 rfl ?_
              refine v_iload_n hC dX5_laysGiven_47 3 rfl ?_
              refine v_iload hC dX5_laysGiven_48 5 rfl ?_
              refine v_callVr (v := .int (bI (mb (yn Y) o j))) (C2 := CC Λ X (ygS Y (gvN (gbN (yn Y) how s o) (yg Y) j))) (As := [.int (nI o), .int (nI j)]) (rest := [.int (bI (mb (yn Y) s j)), .int how]) hC 2 204 (c_X5_isIn Λ X (ygS Y (gvN (gbN (yn Y) how s o) (yg Y) j)) (s := o) (n := j) (by omega) (by omega)) (nR_of (by decide)) (cc_204 Λ X (ygS Y (gvN (gbN (yn Y) how s o) (yg Y) j))) rfl gX5_laysGiven_X5_isIn rfl rfl rfl hd_X5_isIn ⟨by decide, by decide⟩ rfl rfl (Nat.le_of_ble_eq_true rfl) dX5_laysGiven_50 ?_
              refine v_callSr (v := .int (bI (givesB how (mb (yn Y) s j) (mb (yn Y) o j)))) (C2 := CC Λ X (ygS Y (gvN (gbN (yn Y) how s o) (yg Y) j))) (As := [.int how, .int (bI (mb (yn Y) s j)), .int (bI (mb (yn Y) o j))]) (rest := []) hC 3 (c_X5_gives Λ X (ygS Y (gvN (gbN (yn Y) how s o) (yg Y) j)) (how := how) (a := mb (yn Y) s j) (b := mb (yn Y) o j)) gX5_laysGiven_X5_gives rfl rfl rfl hd_X5_gives ⟨by decide, by decide⟩ rfl rfl (Nat.le_of_ble_eq_true rfl) dX5_laysGiven_53 ?_
              refine v_beq (b := givesB how (mb (yn Y) s j) (mb (yn Y) o j)) (tgt := 82) hC dX5_laysGiven_56 (by decide) (fun c56 => ?_) (fun c56 => ?_)
              · skip
                refine v_iinc (j := 5) (v := nI (j + 1)) (lv' := [(5, .int (nI (j + 1))), (0, rf Λ 204), (1, .int how), (2, .int (nI s)), (3, .int (nI o)), (4, .int (nI (cnt (gbN (yn Y) how s o) 0 j)))]) hC dX5_laysGiven_82 rfl (nI_add j 1) (by decide) rfl ?_
                refine v_goto (tgt := 30) hC dX5_laysGiven_85 (by decide) ?_
                refine v_sub (lv' := [(0, rf Λ 204), (1, .int how), (2, .int (nI s)), (3, .int (nI o)), (4, .int (nI (cnt (gbN (yn Y) how s o) 0 j))), (5, .int (nI (j + 1)))]) [1, 2, 3, 4, 5, 0] rfl ?_
                refine v_mem (C' := CC Λ X (ygS Y (gvN (gbN (yn Y) how s o) (yg Y) (j + 1)))) (mem_g (show _ = gvN (gbN (yn Y) how s o) (yg Y) (j + 1) from (if_neg (by show ¬ gbN (yn Y) how s o j = true; rw [show gbN (yn Y) how s o j = false from c56]; decide)).symm)) ?_
                exact ih30 (j + 1) _ _ (by omega) (congrArg nI (cnt_F (b := gbN (yn Y) how s o) (a := 0) (n := j) (by rw [Nat.zero_add]; exact c56)).symm) rfl (by omega)
              · skip
                refine v_aload_n hC dX5_laysGiven_59 0 rfl ?_
                refine v_get (T := TX5) (N := 13) (v := rf Λ 210) hC 204 (nR_of (by decide)) (cc_204 Λ X (ygS Y (gvN (gbN (yn Y) how s o) (yg Y) j))) in_X5_laysGiven_X5 rfl 9 (by decide) fl_X5_laysGiven_25 rfl dX5_laysGiven_60 ?_
                refine v_iload hC dX5_laysGiven_63 5 rfl ?_
                refine v_bipush (v := 32) hC dX5_laysGiven_65 (by decide) ?_
                refine v_idiv (x := nI j) (y := 32) hC dX5_laysGiven_67 (by decide) ?_
                refine v_topi (y := nI (j / 32)) (pk_div (a := j) (d := 32) (by omega) (by decide) (by decide)) ?_
                refine v_dup2 hC dX5_laysGiven_68 rfl rfl ?_
                refine v_iald (n := 64) (f := (gvN (gbN (yn Y) how s o) (yg Y) j)) hC 210 (nR_of (by decide)) (cc_210 Λ X (ygS Y (gvN (gbN (yn Y) how s o) (yg Y) j))) (j / 32) rfl (by omega) (by decide) dX5_laysGiven_69 ?_
                refine v_iconst (v := 1) hC dX5_laysGiven_70 (by decide) ?_
                refine v_iload hC dX5_laysGiven_71 5 rfl ?_
                refine v_bipush (v := 32) hC dX5_laysGiven_73 (by decide) ?_
                refine v_irem (x := nI j) (y := 32) hC dX5_laysGiven_75 (by decide) ?_
                refine v_topi (y := nI (j % 32)) (pk_rem (a := j) (d := 32) (by omega) (by decide) (by decide)) ?_
                refine v_ishl (x := 1) (y := nI (j % 32)) hC dX5_laysGiven_76 ?_
                refine v_ior (x := (gvN (gbN (yn Y) how s o) (yg Y) j) (j / 32)) (y := 1 <<< ((nI (j % 32)) &&& 31)) hC dX5_laysGiven_77 ?_
                refine v_topi (y := (gvN (gbN (yn Y) how s o) (yg Y) j (j / 32)) ||| bitI j) rfl ?_
                refine v_iast (n := 64) (f := (gvN (gbN (yn Y) how s o) (yg Y) j)) hC 210 (nR_of (by decide)) (cc_210 Λ X (ygS Y (gvN (gbN (yn Y) how s o) (yg Y) j))) (j / 32) rfl (by omega) (by decide) dX5_laysGiven_78 ?_
                refine v_mem (cs_yg Λ X (ygS Y (gvN (gbN (yn Y) how s o) (yg Y) j)) (upd (gvN (gbN (yn Y) how s o) (yg Y) j) (j / 32) ((gvN (gbN (yn Y) how s o) (yg Y) j (j / 32)) ||| bitI j))) ?_
                refine v_iinc (j := 4) (v := nI (cnt (gbN (yn Y) how s o) 0 j + 1)) (lv' := [(4, .int (nI (cnt (gbN (yn Y) how s o) 0 j + 1))), (0, rf Λ 204), (1, .int how), (2, .int (nI s)), (3, .int (nI o)), (5, .int (nI j))]) hC dX5_laysGiven_79 rfl (nI_add (cnt (gbN (yn Y) how s o) 0 j) 1) (by decide) rfl ?_
                refine v_iinc (j := 5) (v := nI (j + 1)) (lv' := [(5, .int (nI (j + 1))), (4, .int (nI (cnt (gbN (yn Y) how s o) 0 j + 1))), (0, rf Λ 204), (1, .int how), (2, .int (nI s)), (3, .int (nI o))]) hC dX5_laysGiven_82 rfl (nI_add j 1) (by decide) rfl ?_
                refine v_goto (tgt := 30) hC dX5_laysGiven_85 (by decide) ?_
                refine v_sub (lv' := [(0, rf Λ 204), (1, .int how), (2, .int (nI s)), (3, .int (nI o)), (4, .int (nI (cnt (gbN (yn Y) how s o) 0 j + 1))), (5, .int (nI (j + 1)))]) [2, 3, 4, 5, 1, 0] rfl ?_
                refine v_mem (C' := CC Λ X (ygS Y (gvN (gbN (yn Y) how s o) (yg Y) (j + 1)))) (mem_g (show _ = gvN (gbN (yn Y) how s o) (yg Y) (j + 1) from (if_pos (show gbN (yn Y) how s o j = true from c56)).symm)) ?_
                exact ih30 (j + 1) _ _ (by omega) (congrArg nI (cnt_T (b := gbN (yn Y) how s o) (a := 0) (n := j) (by rw [Nat.zero_add]; exact c56)).symm) rfl (by omega)
        refine v_sub (lv' := [(0, rf Λ 204), (1, .int how), (2, .int (nI s)), (3, .int (nI o)), (4, .int 0), (5, .int 0)]) [1, 2, 3, 4, 5, 0] rfl ?_
        refine v_mem (C' := CC Λ X (ygS Y (gvN (gbN (yn Y) how s o) (yg Y) 0))) rfl ?_
        exact L30 _ 0 _ _ (by omega) rfl rfl (Nat.lt_succ_self _)
      · have c10' := Nat.not_le.mpr c10
        refine v_aload_n hC dX5_laysGiven_13 0 rfl ?_
        refine v_get (T := TX5) (N := 13) (v := rf Λ 210) hC 204 (nR_of (by decide)) (cc_204 Λ X (ygS Y (zeroN (yg Y) i))) in_X5_laysGiven_X5 rfl 9 (by decide) fl_X5_laysGiven_25 rfl dX5_laysGiven_14 ?_
        refine v_iload hC dX5_laysGiven_17 5 rfl ?_
        refine v_iconst (v := 0) hC dX5_laysGiven_19 (by decide) ?_
        refine v_iast (n := 64) (f := (zeroN (yg Y) i)) hC 210 (nR_of (by decide)) (cc_210 Λ X (ygS Y (zeroN (yg Y) i))) i rfl (by omega) (by decide) dX5_laysGiven_20 ?_
        refine v_mem (cs_yg Λ X (ygS Y (zeroN (yg Y) i)) (upd (zeroN (yg Y) i) i 0)) ?_
        refine v_iinc (j := 5) (v := nI (i + 1)) (lv' := [(5, .int (nI (i + 1))), (0, rf Λ 204), (1, .int how), (2, .int (nI s)), (3, .int (nI o)), (4, .int 0)]) hC dX5_laysGiven_21 rfl (nI_add i 1) (by decide) rfl ?_
        refine v_goto (tgt := 6) hC dX5_laysGiven_24 (by decide) ?_
        refine v_sub (lv' := [(0, rf Λ 204), (1, .int how), (2, .int (nI s)), (3, .int (nI o)), (4, .int 0), (5, .int (nI (i + 1)))]) [1, 2, 3, 4, 5, 0] rfl ?_
        refine v_mem (C' := CC Λ X (ygS Y (zeroN (yg Y) (i + 1)))) (mem_g (zeroN_s (yg Y) i)) ?_
        exact ih6 (i + 1) _ (by omega) rfl (by omega)
  refine v_sub (lv' := [(0, rf Λ 204), (1, .int how), (2, .int (nI s)), (3, .int (nI o)), (4, .int 0), (5, .int 0)]) [2, 3, 4, 5, 1, 0] rfl ?_
  refine v_mem (C' := CC Λ X (ygS Y (zeroN (yg Y) 0))) (by rw [zeroN_0]) ?_
  exact L6 _ 0 _ (by omega) rfl (Nat.lt_succ_self _)
