theorem in_X2_dropOldest_X2 : ∀ w ∈ wsX20, w ∈ wsX2_dropOldest := by decide +kernel
theorem fl_X2_dropOldest_11 : Cond.fieldLink RX2 11 "BoatSets$History" "states" "[LBoatSets$Harbour;" ∈ wsX2_dropOldest := by decide +kernel
theorem fl_X2_dropOldest_18 : Cond.fieldLink RX2 18 "BoatSets$History" "size" "I" ∈ wsX2_dropOldest := by decide +kernel
theorem hd_X2_dropOldest : yX2_dropOldest.cls = RX2 ∧ yX2_dropOldest.cls ≠ "java/lang/invoke/MethodHandle" ∧ yX2_dropOldest.cls ≠ "java/lang/invoke/VarHandle" ∧ (parseMethodDescriptor yX2_dropOldest.desc).map (fun d => d.parameters.length) = some 0 := by decide +kernel
set_option maxHeartbeats 400000 in
set_option maxRecDepth 100000 in
theorem c_X2_dropOldest (Λ : Lk) (X : XS) (Y : YS) (hq : ∀ j, xq X j < 4) : Con Λ yX2_dropOldest wsX2_dropOldest { frames := 0, cells := 0, slots := 0, locals := 0 } [rf Λ 198] (CC Λ X Y) none (CC Λ (dropX X) Y) := by
  refine con_start (cc := cX2_dropOldest) (maxL := 3) (ret := none) (by decide) rfl (Nat.le_of_ble_eq_true rfl) ?_
  intro κ hC hR
  have hC : Ok Λ { frames := 0, cells := 0, slots := 0, locals := 0 } cX2_dropOldest wsX2_dropOldest RX2 3 κ := hC
  refine v_args (lv' := [(0, rf Λ 198)]) rfl ?_
  refine v_aload_n hC dX2_dropOldest_0 0 rfl ?_
  refine v_get (T := TX2) (N := 2) (v := rf Λ 199) hC 198 (nR_of (by decide)) (cc_198 Λ X Y) in_X2_dropOldest_X2 rfl 0 (by decide) fl_X2_dropOldest_11 rfl dX2_dropOldest_1 ?_
  refine v_iconst (v := 0) hC dX2_dropOldest_4 (by decide) ?_
  refine v_aald (Cn := "BoatSets$Harbour") (n := 4) (r2 := 185 + 2 * (2 + (xq X 0))) hC 199 (nR_of (by decide)) 4 rfl (cc_199 Λ X Y) 0 rfl (by omega) (by decide) (q_role _ _) dX2_dropOldest_5 ?_
  refine v_astore_n (lv' := [(1, rf Λ (185 + 2 * (2 + (xq X 0)))), (0, rf Λ 198)]) hC dX2_dropOldest_6 (by decide) rfl ?_
  refine v_iconst (v := 1) hC dX2_dropOldest_7 (by decide) ?_
  refine v_istore_n (lv' := [(2, .int 1), (1, rf Λ (185 + 2 * (2 + (xq X 0)))), (0, rf Λ 198)]) hC dX2_dropOldest_8 (by decide) rfl ?_
  have L9 : ∀ (fu9 : Nat) (j : Nat) (x2 : Int32), 1 ≤ j → j ≤ 4 → x2 = nI j → 4 - j < fu9 → V Λ κ (CC Λ (xqS X (rotK (xq X) j)) Y) 9 [(0, rf Λ 198), (1, rf Λ (185 + 2 * (2 + (xq X 0)))), (2, .int x2)] [] := by
    intro fu9
    induction fu9 with
    | zero => intro j x2 hj1 hj e2 hfu9; exact absurd hfu9 (Nat.not_lt_zero _)
    | succ fu9 ih9 =>
      intro j x2 hj1 hj e2 hfu9
      subst e2
      refine v_iload_n hC dX2_dropOldest_9 2 rfl ?_
      refine v_iconst (v := 4) hC dX2_dropOldest_10 (by decide) ?_
      refine v_nge (a := j) (b := 4) (tgt := 34) hC dX2_dropOldest_11 (by decide) rfl rfl (by omega) (by omega) (fun c11 => ?_) (fun c11 => ?_)
      · have c11' := Nat.not_lt.mpr c11
        have e_j : j = 4 := by omega
        subst e_j
        refine v_aload_n hC dX2_dropOldest_34 0 rfl ?_
        refine v_get (T := TX2) (N := 2) (v := rf Λ 199) hC 198 (nR_of (by decide)) (cc_198 Λ (xqS X (rotK (xq X) 4)) Y) in_X2_dropOldest_X2 rfl 0 (by decide) fl_X2_dropOldest_11 rfl dX2_dropOldest_35 ?_
        refine v_iconst (v := 3) hC dX2_dropOldest_38 (by decide) ?_
        refine v_aload_n hC dX2_dropOldest_39 1 rfl ?_
        refine v_aast hC 199 (185 + 2 * (2 + (xq X 0))) (nR_of (by decide)) (rb_h (q_lt hq 0)) 4 rfl (cc_199 Λ (xqS X (rotK (xq X) 4)) Y) (cc_h Λ (xqS X (rotK (xq X) 4)) Y (q_lt hq 0)) rfl 3 rfl (by omega) (by decide) dX2_dropOldest_40 ?_
        refine v_mem (cs_qs Λ (xqS X (rotK (xq X) 4)) Y 3 (xq X 0)) ?_
        refine v_aload_n hC dX2_dropOldest_41 0 rfl ?_
        refine v_iconst (v := 3) hC dX2_dropOldest_42 (by decide) ?_
        refine v_put (T := TX2) (N := 2) (v := .int 3) (ty := .int) hC 198 (nR_of (by decide)) (cc_198 Λ (xqS (xqS X (rotK (xq X) 4)) (va_up (xq (xqS X (rotK (xq X) 4))) 3 (xq X 0))) Y) in_X2_dropOldest_X2 tyX2 tyX2_ok nmX2 rfl 1 (by decide) fl_X2_dropOldest_18 rfl (by decide +kernel) rfl rfl (Nat.le_of_ble_eq_true rfl) dX2_dropOldest_43 ?_
        refine v_mem (cs_z Λ (xqS (xqS X (rotK (xq X) 4)) (va_up (xq (xqS X (rotK (xq X) 4))) 3 (xq X 0))) Y 3) ?_
        exact v_vret hC hR rfl rfl dX2_dropOldest_46
      · have c11' := Nat.not_le.mpr c11
        refine v_aload_n hC dX2_dropOldest_14 0 rfl ?_
        refine v_get (T := TX2) (N := 2) (v := rf Λ 199) hC 198 (nR_of (by decide)) (cc_198 Λ (xqS X (rotK (xq X) j)) Y) in_X2_dropOldest_X2 rfl 0 (by decide) fl_X2_dropOldest_11 rfl dX2_dropOldest_15 ?_
        refine v_iload_n hC dX2_dropOldest_18 2 rfl ?_
        refine v_iconst (v := 1) hC dX2_dropOldest_19 (by decide) ?_
        refine v_isub (x := nI j) (y := 1) hC dX2_dropOldest_20 ?_
        refine v_topi (y := nI (j - 1)) (pk_sub (a := j) (b := 1) (by omega)) ?_
        refine v_aload_n hC dX2_dropOldest_21 0 rfl ?_
        refine v_get (T := TX2) (N := 2) (v := rf Λ 199) hC 198 (nR_of (by decide)) (cc_198 Λ (xqS X (rotK (xq X) j)) Y) in_X2_dropOldest_X2 rfl 0 (by decide) fl_X2_dropOldest_11 rfl dX2_dropOldest_22 ?_
        refine v_iload_n hC dX2_dropOldest_25 2 rfl ?_
        refine v_aald (Cn := "BoatSets$Harbour") (n := 4) (r2 := 185 + 2 * (2 + (xq (xqS X (rotK (xq X) j)) j))) hC 199 (nR_of (by decide)) 4 rfl (cc_199 Λ (xqS X (rotK (xq X) j)) Y) j rfl (by omega) (by decide) (q_role _ _) dX2_dropOldest_26 ?_
        refine v_aast hC 199 (185 + 2 * (2 + (xq (xqS X (rotK (xq X) j)) j))) (nR_of (by decide)) (rb_h (q_lt (rotK_lt hq j) j)) 4 rfl (cc_199 Λ (xqS X (rotK (xq X) j)) Y) (cc_h Λ (xqS X (rotK (xq X) j)) Y (q_lt (rotK_lt hq j) j)) rfl (j - 1) rfl (by omega) (by decide) dX2_dropOldest_27 ?_
        refine v_mem (cs_qs Λ (xqS X (rotK (xq X) j)) Y (j - 1) (xq (xqS X (rotK (xq X) j)) j)) ?_
        refine v_iinc (j := 2) (v := nI (j + 1)) (lv' := [(2, .int (nI (j + 1))), (0, rf Λ 198), (1, rf Λ (185 + 2 * (2 + (xq X 0))))]) hC dX2_dropOldest_28 rfl (nI_add j 1) (by decide) rfl ?_
        refine v_goto (tgt := 9) hC dX2_dropOldest_31 (by decide) ?_
        refine v_sub (lv' := [(0, rf Λ 198), (1, rf Λ (185 + 2 * (2 + (xq X 0)))), (2, .int (nI (j + 1)))]) [1, 2, 0] rfl ?_
        refine v_mem (C' := CC Λ (xqS X (rotK (xq X) (j + 1))) Y) (mem_X (congrArg (xqS X) (rotK_s hj1))) ?_
        exact ih9 (j + 1) _ (by omega) (by omega) rfl (by omega)
  refine v_sub (lv' := [(0, rf Λ 198), (1, rf Λ (185 + 2 * (2 + (xq X 0)))), (2, .int 1)]) [2, 1, 0] rfl ?_
  refine v_mem (C' := CC Λ (xqS X (rotK (xq X) 1)) Y) (mem_X (congrArg (xqS X) rotK_1.symm)) ?_
  exact L9 _ 1 _ (by omega) (by omega) rfl (Nat.lt_succ_self _)
theorem in_X2_push_X2 : ∀ w ∈ wsX20, w ∈ wsX2_push := by decide +kernel
theorem fl_X2_push_18 : Cond.fieldLink RX2 18 "BoatSets$History" "size" "I" ∈ wsX2_push := by decide +kernel
theorem fl_X2_push_11 : Cond.fieldLink RX2 11 "BoatSets$History" "states" "[LBoatSets$Harbour;" ∈ wsX2_push := by decide +kernel
theorem hd_X2_push : yX2_push.cls = RX2 ∧ yX2_push.cls ≠ "java/lang/invoke/MethodHandle" ∧ yX2_push.cls ≠ "java/lang/invoke/VarHandle" ∧ (parseMethodDescriptor yX2_push.desc).map (fun d => d.parameters.length) = some 1 := by decide +kernel
set_option maxHeartbeats 400000 in
set_option maxRecDepth 100000 in
theorem c_X2_push (Λ : Lk) (X : XS) (Y : YS) {t : Nat} {m : Nat} (hp0 : xz X = nI t) (ht4 : t ≤ 4) (hq : ∀ j, xq X j < 4) (hs0 : xh X 0 = nI m) (hm : m ≤ 6) : Con Λ yX2_push wsX2_push { frames := 3, cells := 0, slots := 0, locals := 83 } [rf Λ 198, rf Λ 185] (CC Λ X Y) none (CC Λ (pushX X t m) Y) := by
  refine con_start (cc := cX2_push) (maxL := 2) (ret := none) (by decide) rfl (Nat.le_of_ble_eq_true rfl) ?_
  intro κ hC hR
  have hC : Ok Λ { frames := 3, cells := 0, slots := 0, locals := 83 } cX2_push wsX2_push RX2 2 κ := hC
  refine v_args (lv' := [(0, rf Λ 198), (1, rf Λ 185)]) rfl ?_
  refine v_aload_n hC dX2_push_0 0 rfl ?_
  refine v_get (T := TX2) (N := 2) (v := .int (xz X)) hC 198 (nR_of (by decide)) (cc_198 Λ X Y) in_X2_push_X2 rfl 1 (by decide) fl_X2_push_18 rfl dX2_push_1 ?_
  refine v_topi (y := nI t) hp0 ?_
  refine v_iconst (v := 4) hC dX2_push_4 (by decide) ?_
  refine v_nlt (a := t) (b := 4) (tgt := 12) hC dX2_push_5 (by decide) rfl rfl (by omega) (by omega) (fun c5 => ?_) (fun c5 => ?_)
  · have c5' := Nat.not_le.mpr c5
    refine v_aload_n hC dX2_push_12 0 rfl ?_
    refine v_get (T := TX2) (N := 2) (v := rf Λ 199) hC 198 (nR_of (by decide)) (cc_198 Λ X Y) in_X2_push_X2 rfl 0 (by decide) fl_X2_push_11 rfl dX2_push_13 ?_
    refine v_aload_n hC dX2_push_16 0 rfl ?_
    refine v_get (T := TX2) (N := 2) (v := .int (xz X)) hC 198 (nR_of (by decide)) (cc_198 Λ X Y) in_X2_push_X2 rfl 1 (by decide) fl_X2_push_18 rfl dX2_push_17 ?_
    refine v_topi (y := nI t) hp0 ?_
    refine v_aald (Cn := "BoatSets$Harbour") (n := 4) (r2 := 185 + 2 * (2 + (xq X t))) hC 199 (nR_of (by decide)) 4 rfl (cc_199 Λ X Y) t rfl (by omega) (by decide) (q_role _ _) dX2_push_20 ?_
    refine v_aload_n hC dX2_push_21 1 rfl ?_
    refine v_callVv (C2 := CC Λ (cpH X (2 + (xq X t)) 0 m m) Y) (As := [rf Λ 185]) (rest := []) hC 1 (185 + 2 * (2 + (xq X t))) (c_X1_copyFrom Λ X Y (h := (2 + (xq X t))) (q_lt hq t) (g := 0) (by decide) (m := m) hs0 (by omega) (by omega)) (rb_h (h := (2 + (xq X t))) (q_lt hq t)) (cc_h Λ X Y (h := (2 + (xq X t))) (q_lt hq t)) rfl gX2_push_X1_copyFrom rfl rfl rfl hd_X1_copyFrom ⟨by decide, by decide⟩ rfl rfl (Nat.le_of_ble_eq_true rfl) dX2_push_22 ?_
    refine v_aload_n hC dX2_push_25 0 rfl ?_
    refine v_dup hC dX2_push_26 rfl ?_
    refine v_get (T := TX2) (N := 2) (v := .int (xz (cpH X (2 + (xq X t)) 0 m m))) hC 198 (nR_of (by decide)) (cc_198 Λ (cpH X (2 + (xq X t)) 0 m m) Y) in_X2_push_X2 rfl 1 (by decide) fl_X2_push_18 rfl dX2_push_27 ?_
    refine v_topi (y := nI t) hp0 ?_
    refine v_iconst (v := 1) hC dX2_push_30 (by decide) ?_
    refine v_iadd (x := nI t) (y := 1) hC dX2_push_31 ?_
    refine v_topi (y := nI (t + 1)) (nI_add t 1) ?_
    refine v_put (T := TX2) (N := 2) (v := .int (nI (t + 1))) (ty := .int) hC 198 (nR_of (by decide)) (cc_198 Λ (cpH X (2 + (xq X t)) 0 m m) Y) in_X2_push_X2 tyX2 tyX2_ok nmX2 rfl 1 (by decide) fl_X2_push_18 rfl (by decide +kernel) rfl rfl (Nat.le_of_ble_eq_true rfl) dX2_push_32 ?_
    refine v_mem (cs_z Λ (cpH X (2 + (xq X t)) 0 m m) Y (nI (t + 1))) ?_
    exact v_vret hC hR rfl (mem_X (if_pos c5)) dX2_push_35
  · have c5' := Nat.not_lt.mpr c5
    refine v_aload_n hC dX2_push_8 0 rfl ?_
    refine v_callVv (C2 := CC Λ (dropX X) Y) (As := []) (rest := []) hC 0 198 (c_X2_dropOldest Λ X Y hq) (nR_of (by decide)) (cc_198 Λ X Y) rfl gX2_push_X2_dropOldest rfl rfl rfl hd_X2_dropOldest ⟨by decide, by decide⟩ rfl rfl (Nat.le_of_ble_eq_true rfl) dX2_push_9 ?_
    refine v_aload_n hC dX2_push_12 0 rfl ?_
    refine v_get (T := TX2) (N := 2) (v := rf Λ 199) hC 198 (nR_of (by decide)) (cc_198 Λ (dropX X) Y) in_X2_push_X2 rfl 0 (by decide) fl_X2_push_11 rfl dX2_push_13 ?_
    refine v_aload_n hC dX2_push_16 0 rfl ?_
    refine v_get (T := TX2) (N := 2) (v := .int (xz (dropX X))) hC 198 (nR_of (by decide)) (cc_198 Λ (dropX X) Y) in_X2_push_X2 rfl 1 (by decide) fl_X2_push_18 rfl dX2_push_17 ?_
    refine v_topi (y := 3) rfl ?_
    refine v_aald (Cn := "BoatSets$Harbour") (n := 4) (r2 := 185 + 2 * (2 + (xq (dropX X) 3))) hC 199 (nR_of (by decide)) 4 rfl (cc_199 Λ (dropX X) Y) 3 rfl (by omega) (by decide) (q_role _ _) dX2_push_20 ?_
    refine v_aload_n hC dX2_push_21 1 rfl ?_
    refine v_callVv (C2 := CC Λ (cpH (dropX X) (2 + (xq (dropX X) 3)) 0 m m) Y) (As := [rf Λ 185]) (rest := []) hC 1 (185 + 2 * (2 + (xq (dropX X) 3))) (c_X1_copyFrom Λ (dropX X) Y (h := (2 + (xq (dropX X) 3))) (q_lt (dropX_lt hq) 3) (g := 0) (by decide) (m := m) hs0 (by omega) (by omega)) (rb_h (h := (2 + (xq (dropX X) 3))) (q_lt (dropX_lt hq) 3)) (cc_h Λ (dropX X) Y (h := (2 + (xq (dropX X) 3))) (q_lt (dropX_lt hq) 3)) rfl gX2_push_X1_copyFrom rfl rfl rfl hd_X1_copyFrom ⟨by decide, by decide⟩ rfl rfl (Nat.le_of_ble_eq_true rfl) dX2_push_22 ?_
    refine v_aload_n hC dX2_push_25 0 rfl ?_
    refine v_dup hC dX2_push_26 rfl ?_
    refine v_get (T := TX2) (N := 2) (v := .int (xz (cpH (dropX X) (2 + (xq (dropX X) 3)) 0 m m))) hC 198 (nR_of (by decide)) (cc_198 Λ (cpH (dropX X) (2 + (xq (dropX X) 3)) 0 m m) Y) in_X2_push_X2 rfl 1 (by decide) fl_X2_push_18 rfl dX2_push_27 ?_
    refine v_topi (y := 3) rfl ?_
    refine v_iconst (v := 1) hC dX2_push_30 (by decide) ?_
    refine v_iadd (x := 3) (y := 1) hC dX2_push_31 ?_
    refine v_topi (y := 4) (nI_add 3 1) ?_
    refine v_put (T := TX2) (N := 2) (v := .int 4) (ty := .int) hC 198 (nR_of (by decide)) (cc_198 Λ (cpH (dropX X) (2 + (xq (dropX X) 3)) 0 m m) Y) in_X2_push_X2 tyX2 tyX2_ok nmX2 rfl 1 (by decide) fl_X2_push_18 rfl (by decide +kernel) rfl rfl (Nat.le_of_ble_eq_true rfl) dX2_push_32 ?_
    refine v_mem (cs_z Λ (cpH (dropX X) (2 + (xq (dropX X) 3)) 0 m m) Y 4) ?_
    exact v_vret hC hR rfl (mem_X (if_neg c5')) dX2_push_35
theorem in_X2_popInto_X2 : ∀ w ∈ wsX20, w ∈ wsX2_popInto := by decide +kernel
theorem fl_X2_popInto_18 : Cond.fieldLink RX2 18 "BoatSets$History" "size" "I" ∈ wsX2_popInto := by decide +kernel
theorem fl_X2_popInto_11 : Cond.fieldLink RX2 11 "BoatSets$History" "states" "[LBoatSets$Harbour;" ∈ wsX2_popInto := by decide +kernel
theorem hd_X2_popInto : yX2_popInto.cls = RX2 ∧ yX2_popInto.cls ≠ "java/lang/invoke/MethodHandle" ∧ yX2_popInto.cls ≠ "java/lang/invoke/VarHandle" ∧ (parseMethodDescriptor yX2_popInto.desc).map (fun d => d.parameters.length) = some 1 := by decide +kernel
set_option maxHeartbeats 400000 in
set_option maxRecDepth 100000 in
theorem c_X2_popInto (Λ : Lk) (X : XS) (Y : YS) {t : Nat} {m : Nat} (hp0 : xz X = nI t) (ht4 : t ≤ 4) (hq : ∀ j, xq X j < 4) (ht1 : 1 ≤ t) (hs0 : xh X (2 + xq X (t - 1)) = nI m) (hm : m ≤ 6) : Con Λ yX2_popInto wsX2_popInto { frames := 3, cells := 0, slots := 0, locals := 83 } [rf Λ 198, rf Λ 185] (CC Λ X Y) none (CC Λ (popX X t m) Y) := by
  refine con_start (cc := cX2_popInto) (maxL := 2) (ret := none) (by decide) rfl (Nat.le_of_ble_eq_true rfl) ?_
  intro κ hC hR
  have hC : Ok Λ { frames := 3, cells := 0, slots := 0, locals := 83 } cX2_popInto wsX2_popInto RX2 2 κ := hC
  refine v_args (lv' := [(0, rf Λ 198), (1, rf Λ 185)]) rfl ?_
  refine v_aload_n hC dX2_popInto_0 0 rfl ?_
  refine v_get (T := TX2) (N := 2) (v := .int (xz X)) hC 198 (nR_of (by decide)) (cc_198 Λ X Y) in_X2_popInto_X2 rfl 1 (by decide) fl_X2_popInto_18 rfl dX2_popInto_1 ?_
  refine v_topi (y := nI t) hp0 ?_
  refine v_zgt (a := t) (tgt := 8) hC dX2_popInto_4 (by decide) rfl (by omega) (fun c4 => ?_) (fun c4 => ?_)
  · skip
    refine v_aload_n hC dX2_popInto_8 0 rfl ?_
    refine v_dup hC dX2_popInto_9 rfl ?_
    refine v_get (T := TX2) (N := 2) (v := .int (xz X)) hC 198 (nR_of (by decide)) (cc_198 Λ X Y) in_X2_popInto_X2 rfl 1 (by decide) fl_X2_popInto_18 rfl dX2_popInto_10 ?_
    refine v_topi (y := nI t) hp0 ?_
    refine v_iconst (v := 1) hC dX2_popInto_13 (by decide) ?_
    refine v_isub (x := nI t) (y := 1) hC dX2_popInto_14 ?_
    refine v_topi (y := nI (t - 1)) (pk_sub (a := t) (b := 1) (by omega)) ?_
    refine v_put (T := TX2) (N := 2) (v := .int (nI (t - 1))) (ty := .int) hC 198 (nR_of (by decide)) (cc_198 Λ X Y) in_X2_popInto_X2 tyX2 tyX2_ok nmX2 rfl 1 (by decide) fl_X2_popInto_18 rfl (by decide +kernel) rfl rfl (Nat.le_of_ble_eq_true rfl) dX2_popInto_15 ?_
    refine v_mem (cs_z Λ X Y (nI (t - 1))) ?_
    refine v_aload_n hC dX2_popInto_18 1 rfl ?_
    refine v_aload_n hC dX2_popInto_19 0 rfl ?_
    refine v_get (T := TX2) (N := 2) (v := rf Λ 199) hC 198 (nR_of (by decide)) (cc_198 Λ (xzS X (nI (t - 1))) Y) in_X2_popInto_X2 rfl 0 (by decide) fl_X2_popInto_11 rfl dX2_popInto_20 ?_
    refine v_aload_n hC dX2_popInto_23 0 rfl ?_
    refine v_get (T := TX2) (N := 2) (v := .int (nI (t - 1))) hC 198 (nR_of (by decide)) (cc_198 Λ (xzS X (nI (t - 1))) Y) in_X2_popInto_X2 rfl 1 (by decide) fl_X2_popInto_18 rfl dX2_popInto_24 ?_
    refine v_topi (y := nI (t - 1)) rfl ?_
    refine v_aald (Cn := "BoatSets$Harbour") (n := 4) (r2 := 185 + 2 * (2 + (xq (xzS X (nI (t - 1))) (t - 1)))) hC 199 (nR_of (by decide)) 4 rfl (cc_199 Λ (xzS X (nI (t - 1))) Y) (t - 1) rfl (by omega) (by decide) (q_role _ _) dX2_popInto_27 ?_
    refine v_callVv (C2 := CC Λ (cpH (xzS X (nI (t - 1))) 0 (2 + (xq (xzS X (nI (t - 1))) (t - 1))) m m) Y) (As := [rf Λ (185 + 2 * (2 + (xq (xzS X (nI (t - 1))) (t - 1))))]) (rest := []) hC 1 185 (c_X1_copyFrom Λ (xzS X (nI (t - 1))) Y (h := 0) (by decide) (g := (2 + (xq (xzS X (nI (t - 1))) (t - 1)))) (q_lt hq (t - 1)) (m := m) hs0 (by omega) (by omega)) (rb_h (h := 0) (by decide)) (cc_h Λ (xzS X (nI (t - 1))) Y (h := 0) (by decide)) rfl gX2_popInto_X1_copyFrom rfl rfl rfl hd_X1_copyFrom ⟨by decide, by decide⟩ rfl rfl (Nat.le_of_ble_eq_true rfl) dX2_popInto_28 ?_
    exact v_vret hC hR rfl rfl dX2_popInto_31
  · exfalso; omega
