theorem in_X5_records_X5 : ∀ w ∈ wsX50, w ∈ wsX5_records := by decide +kernel
theorem fl_X5_records_31 : Cond.fieldLink RX5 31 "BoatSetsModel" "pasts" "I" ∈ wsX5_records := by decide +kernel
theorem fl_X5_records_13 : Cond.fieldLink RX5 13 "BoatSetsModel" "past" "[I" ∈ wsX5_records := by decide +kernel
theorem hd_X5_records : yX5_records.cls = RX5 ∧ yX5_records.cls ≠ "java/lang/invoke/MethodHandle" ∧ yX5_records.cls ≠ "java/lang/invoke/VarHandle" ∧ (parseMethodDescriptor yX5_records.desc).map (fun d => d.parameters.length) = some 1 := by decide +kernel
set_option maxHeartbeats 400000 in
set_option maxRecDepth 100000 in
theorem c_X5_records_n (Λ : Lk) (X : XS) (Y : YS) {p : Nat} (hz : yz Y = nI p) (hp : p ≤ 4) : Con Λ yX5_records wsX5_records { frames := 1, cells := 0, slots := 0, locals := 24 } [rf Λ 204, rf Λ 205] (CC Λ X Y) none (CC Λ X (yzS (ypS Y (pushN (yp Y) (yn Y) p)) (nI (pushZ p)))) := by
  refine con_start (cc := cX5_records) (maxL := 3) (ret := none) (by decide) rfl (Nat.le_of_ble_eq_true rfl) ?_
  intro κ hC hR
  have hC : Ok Λ { frames := 1, cells := 0, slots := 0, locals := 24 } cX5_records wsX5_records RX5 3 κ := hC
  refine v_args (lv' := [(0, rf Λ 204), (1, rf Λ 205)]) rfl ?_
  refine v_aload_n hC dX5_records_0 0 rfl ?_
  refine v_get (T := TX5) (N := 13) (v := .int (yz Y)) hC 204 (nR_of (by decide)) (cc_204 Λ X Y) in_X5_records_X5 rfl 2 (by decide) fl_X5_records_31 rfl dX5_records_1 ?_
  refine v_topi (y := nI p) hz ?_
  refine v_iconst (v := 4) hC dX5_records_4 (by decide) ?_
  refine v_nne (a := p) (b := 4) (tgt := 44) hC dX5_records_5 (by decide) rfl rfl (by omega) (by omega) (fun c5 => ?_) (fun c5 => ?_)
  · skip
    refine v_aload_n hC dX5_records_44 1 rfl ?_
    refine v_iconst (v := 0) hC dX5_records_45 (by decide) ?_
    refine v_aload_n hC dX5_records_46 0 rfl ?_
    refine v_get (T := TX5) (N := 13) (v := rf Λ 206) hC 204 (nR_of (by decide)) (cc_204 Λ X Y) in_X5_records_X5 rfl 1 (by decide) fl_X5_records_13 rfl dX5_records_47 ?_
    refine v_aload_n hC dX5_records_50 0 rfl ?_
    refine v_get (T := TX5) (N := 13) (v := .int (yz Y)) hC 204 (nR_of (by decide)) (cc_204 Λ X Y) in_X5_records_X5 rfl 2 (by decide) fl_X5_records_31 rfl dX5_records_51 ?_
    refine v_topi (y := nI p) hz ?_
    refine v_sipush (v := 451) hC dX5_records_54 (by decide) ?_
    refine v_imul (x := nI p) (y := 451) hC dX5_records_57 ?_
    refine v_topi (y := nI (p * 451)) (pk_mul p 451) ?_
    refine v_callSv (As := [rf Λ 205, .int 0, rf Λ 206, .int (nI (p * 451))]) (rest := []) hC 4 (c_X5_copies Λ (CC Λ X Y) (a := 0) (c := p * 451) (f := (yn Y)) (g := (yp Y)) (cc_205 Λ X Y) (cc_206 Λ X Y) (by decide) (nR_of (by decide)) (nR_of (by decide)) (by omega) (by omega) (by decide) (by decide)) gX5_records_X5_copies rfl rfl rfl hd_X5_copies ⟨by decide, by decide⟩ rfl rfl (Nat.le_of_ble_eq_true rfl) dX5_records_58 ?_
    refine v_mem (cs_yp Λ X Y (cpyK (yn Y) (yp Y) 0 (p * 451) 451)) ?_
    refine v_aload_n hC dX5_records_61 0 rfl ?_
    refine v_dup hC dX5_records_62 rfl ?_
    refine v_get (T := TX5) (N := 13) (v := .int (yz Y)) hC 204 (nR_of (by decide)) (cc_204 Λ X (ypS Y (cpyK (yn Y) (yp Y) 0 (p * 451) 451))) in_X5_records_X5 rfl 2 (by decide) fl_X5_records_31 rfl dX5_records_63 ?_
    refine v_topi (y := nI p) hz ?_
    refine v_iconst (v := 1) hC dX5_records_66 (by decide) ?_
    refine v_iadd (x := nI p) (y := 1) hC dX5_records_67 ?_
    refine v_topi (y := nI (p + 1)) (nI_add p 1) ?_
    refine v_put (T := TX5) (N := 13) (v := .int (nI (p + 1))) (ty := .int) hC 204 (nR_of (by decide)) (cc_204 Λ X (ypS Y (cpyK (yn Y) (yp Y) 0 (p * 451) 451))) in_X5_records_X5 tyX5 tyX5_ok nmX5 rfl 2 (by decide) fl_X5_records_31 rfl (by decide +kernel) rfl rfl (Nat.le_of_ble_eq_true rfl) dX5_records_68 ?_
    refine v_mem (cs_yz Λ X (ypS Y (cpyK (yn Y) (yp Y) 0 (p * 451) 451)) (nI (p + 1))) ?_
    exact v_vret hC hR rfl (by first | (simp only [pushN, pushZ, if_pos c5]; done) | (simp only [pushN, pushZ, if_neg c5]; done) | (simp only [pushN, pushZ, if_pos c5]; rfl) | (simp only [pushN, pushZ, if_neg c5]; rfl)) dX5_records_71
  · skip
    refine v_iconst (v := 0) hC dX5_records_8 (by decide) ?_
    refine v_istore_n (lv' := [(2, .int 0), (0, rf Λ 204), (1, rf Λ 205)]) hC dX5_records_9 (by decide) rfl ?_
    have L10 : ∀ (fu10 : Nat) (j : Nat) (x2 : Int32), j ≤ 1353 → x2 = nI j → 1353 - j < fu10 → V Λ κ (CC Λ X (ypS Y (shK (yp Y) j))) 10 [(0, rf Λ 204), (1, rf Λ 205), (2, .int x2)] [] := by
      intro fu10
      induction fu10 with
      | zero => intro j x2 hj e2 hfu10; exact absurd hfu10 (Nat.not_lt_zero _)
      | succ fu10 ih10 =>
        intro j x2 hj e2 hfu10
        subst e2
        refine v_iload_n hC dX5_records_10 2 rfl ?_
        refine v_sipush (v := 1353) hC dX5_records_11 (by decide) ?_
        refine v_nge (a := j) (b := 1353) (tgt := 39) hC dX5_records_14 (by decide) rfl rfl (by omega) (by omega) (fun c14 => ?_) (fun c14 => ?_)
        · have c14' := Nat.not_lt.mpr c14
          have e_j : j = 1353 := by omega
          subst e_j
          refine v_aload_n hC dX5_records_39 0 rfl ?_
          refine v_iconst (v := 3) hC dX5_records_40 (by decide) ?_
          refine v_put (T := TX5) (N := 13) (v := .int 3) (ty := .int) hC 204 (nR_of (by decide)) (cc_204 Λ X (ypS Y (shK (yp Y) 1353))) in_X5_records_X5 tyX5 tyX5_ok nmX5 rfl 2 (by decide) fl_X5_records_31 rfl (by decide +kernel) rfl rfl (Nat.le_of_ble_eq_true rfl) dX5_records_41 ?_
          refine v_mem (cs_yz Λ X (ypS Y (shK (yp Y) 1353)) 3) ?_
          refine v_aload_n hC dX5_records_44 1 rfl ?_
          refine v_iconst (v := 0) hC dX5_records_45 (by decide) ?_
          refine v_aload_n hC dX5_records_46 0 rfl ?_
          refine v_get (T := TX5) (N := 13) (v := rf Λ 206) hC 204 (nR_of (by decide)) (cc_204 Λ X (yzS (ypS Y (shK (yp Y) 1353)) 3)) in_X5_records_X5 rfl 1 (by decide) fl_X5_records_13 rfl dX5_records_47 ?_
          refine v_aload_n hC dX5_records_50 0 rfl ?_
          refine v_get (T := TX5) (N := 13) (v := .int 3) hC 204 (nR_of (by decide)) (cc_204 Λ X (yzS (ypS Y (shK (yp Y) 1353)) 3)) in_X5_records_X5 rfl 2 (by decide) fl_X5_records_31 rfl dX5_records_51 ?_
          refine v_sipush (v := 451) hC dX5_records_54 (by decide) ?_
          refine v_imul (x := 3) (y := 451) hC dX5_records_57 ?_
          refine v_topi (y := 1353) (pk_mul 3 451) ?_
          refine v_callSv (As := [rf Λ 205, .int 0, rf Λ 206, .int 1353]) (rest := []) hC 4 (c_X5_copies Λ (CC Λ X (yzS (ypS Y (shK (yp Y) 1353)) 3)) (a := 0) (c := 1353) (f := (yn Y)) (g := (shK (yp Y) 1353)) (cc_205 Λ X (yzS (ypS Y (shK (yp Y) 1353)) 3)) (cc_206 Λ X (yzS (ypS Y (shK (yp Y) 1353)) 3)) (by decide) (nR_of (by decide)) (nR_of (by decide)) (by omega) (by omega) (by decide) (by decide)) gX5_records_X5_copies rfl rfl rfl hd_X5_copies ⟨by decide, by decide⟩ rfl rfl (Nat.le_of_ble_eq_true rfl) dX5_records_58 ?_
          refine v_mem (cs_yp Λ X (yzS (ypS Y (shK (yp Y) 1353)) 3) (cpyK (yn Y) (shK (yp Y) 1353) 0 1353 451)) ?_
          refine v_aload_n hC dX5_records_61 0 rfl ?_
          refine v_dup hC dX5_records_62 rfl ?_
          refine v_get (T := TX5) (N := 13) (v := .int 3) hC 204 (nR_of (by decide)) (cc_204 Λ X (ypS (yzS (ypS Y (shK (yp Y) 1353)) 3) (cpyK (yn Y) (shK (yp Y) 1353) 0 1353 451))) in_X5_records_X5 rfl 2 (by decide) fl_X5_records_31 rfl dX5_records_63 ?_
          refine v_iconst (v := 1) hC dX5_records_66 (by decide) ?_
          refine v_iadd (x := 3) (y := 1) hC dX5_records_67 ?_
          refine v_topi (y := 4) (nI_add 3 1) ?_
          refine v_put (T := TX5) (N := 13) (v := .int 4) (ty := .int) hC 204 (nR_of (by decide)) (cc_204 Λ X (ypS (yzS (ypS Y (shK (yp Y) 1353)) 3) (cpyK (yn Y) (shK (yp Y) 1353) 0 1353 451))) in_X5_records_X5 tyX5 tyX5_ok nmX5 rfl 2 (by decide) fl_X5_records_31 rfl (by decide +kernel) rfl rfl (Nat.le_of_ble_eq_true rfl) dX5_records_68 ?_
          refine v_mem (cs_yz Λ X (ypS (yzS (ypS Y (shK (yp Y) 1353)) 3) (cpyK (yn Y) (shK (yp Y) 1353) 0 1353 451)) 4) ?_
          exact v_vret hC hR rfl (by first | (simp only [pushN, pushZ, if_pos c5]; done) | (simp only [pushN, pushZ, if_neg c5]; done) | (simp only [pushN, pushZ, if_pos c5]; rfl) | (simp only [pushN, pushZ, if_neg c5]; rfl)) dX5_records_71
        · have c14' := Nat.not_le.mpr c14
          refine v_aload_n hC dX5_records_17 0 rfl ?_
          refine v_get (T := TX5) (N := 13) (v := rf Λ 206) hC 204 (nR_of (by decide)) (cc_204 Λ X (ypS Y (shK (yp Y) j))) in_X5_records_X5 rfl 1 (by decide) fl_X5_records_13 rfl dX5_records_18 ?_
          refine v_iload_n hC dX5_records_21 2 rfl ?_
          refine v_aload_n hC dX5_records_22 0 rfl ?_
          refine v_get (T := TX5) (N := 13) (v := rf Λ 206) hC 204 (nR_of (by decide)) (cc_204 Λ X (ypS Y (shK (yp Y) j))) in_X5_records_X5 rfl 1 (by decide) fl_X5_records_13 rfl dX5_records_23 ?_
          refine v_iload_n hC dX5_records_26 2 rfl ?_
          refine v_sipush (v := 451) hC dX5_records_27 (by decide) ?_
          refine v_iadd (x := nI j) (y := 451) hC dX5_records_30 ?_
          refine v_topi (y := nI (j + 451)) (nI_add j 451) ?_
          refine v_iald (n := 1804) (f := (shK (yp Y) j)) hC 206 (nR_of (by decide)) (cc_206 Λ X (ypS Y (shK (yp Y) j))) (j + 451) rfl (by omega) (by decide) dX5_records_31 ?_
          refine v_iast (n := 1804) (f := (shK (yp Y) j)) hC 206 (nR_of (by decide)) (cc_206 Λ X (ypS Y (shK (yp Y) j))) j rfl (by omega) (by decide) dX5_records_32 ?_
          refine v_mem (cs_yp Λ X (ypS Y (shK (yp Y) j)) (upd (shK (yp Y) j) j ((shK (yp Y) j) (j + 451)))) ?_
          refine v_iinc (j := 2) (v := nI (j + 1)) (lv' := [(2, .int (nI (j + 1))), (0, rf Λ 204), (1, rf Λ 205)]) hC dX5_records_33 rfl (nI_add j 1) (by decide) rfl ?_
          refine v_goto (tgt := 10) hC dX5_records_36 (by decide) ?_
          refine v_sub (lv' := [(0, rf Λ 204), (1, rf Λ 205), (2, .int (nI (j + 1)))]) [1, 2, 0] rfl ?_
          refine v_mem (C' := CC Λ X (ypS Y (shK (yp Y) (j + 1)))) (mem_p (shK_s (yp Y) j)) ?_
          exact ih10 (j + 1) _ (by omega) rfl (by omega)
    refine v_sub (lv' := [(0, rf Λ 204), (1, rf Λ 205), (2, .int 0)]) [1, 2, 0] rfl ?_
    refine v_mem (C' := CC Λ X (ypS Y (shK (yp Y) 0))) (by rw [shK_0]) ?_
    exact L10 _ 0 _ (by omega) rfl (Nat.lt_succ_self _)


set_option maxHeartbeats 400000 in
set_option maxRecDepth 100000 in
theorem c_X5_records_t (Λ : Lk) (X : XS) (Y : YS) {p : Nat} (hz : yz Y = nI p) (hp : p ≤ 4) : Con Λ yX5_records wsX5_records { frames := 1, cells := 0, slots := 0, locals := 24 } [rf Λ 204, rf Λ 208] (CC Λ X Y) none (CC Λ X (yzS (ypS Y (pushN (yp Y) (yt Y) p)) (nI (pushZ p)))) := by
  refine con_start (cc := cX5_records) (maxL := 3) (ret := none) (by decide) rfl (Nat.le_of_ble_eq_true rfl) ?_
  intro κ hC hR
  have hC : Ok Λ { frames := 1, cells := 0, slots := 0, locals := 24 } cX5_records wsX5_records RX5 3 κ := hC
  refine v_args (lv' := [(0, rf Λ 204), (1, rf Λ 208)]) rfl ?_
  refine v_aload_n hC dX5_records_0 0 rfl ?_
  refine v_get (T := TX5) (N := 13) (v := .int (yz Y)) hC 204 (nR_of (by decide)) (cc_204 Λ X Y) in_X5_records_X5 rfl 2 (by decide) fl_X5_records_31 rfl dX5_records_1 ?_
  refine v_topi (y := nI p) hz ?_
  refine v_iconst (v := 4) hC dX5_records_4 (by decide) ?_
  refine v_nne (a := p) (b := 4) (tgt := 44) hC dX5_records_5 (by decide) rfl rfl (by omega) (by omega) (fun c5 => ?_) (fun c5 => ?_)
  · skip
    refine v_aload_n hC dX5_records_44 1 rfl ?_
    refine v_iconst (v := 0) hC dX5_records_45 (by decide) ?_
    refine v_aload_n hC dX5_records_46 0 rfl ?_
    refine v_get (T := TX5) (N := 13) (v := rf Λ 206) hC 204 (nR_of (by decide)) (cc_204 Λ X Y) in_X5_records_X5 rfl 1 (by decide) fl_X5_records_13 rfl dX5_records_47 ?_
    refine v_aload_n hC dX5_records_50 0 rfl ?_
    refine v_get (T := TX5) (N := 13) (v := .int (yz Y)) hC 204 (nR_of (by decide)) (cc_204 Λ X Y) in_X5_records_X5 rfl 2 (by decide) fl_X5_records_31 rfl dX5_records_51 ?_
    refine v_topi (y := nI p) hz ?_
    refine v_sipush (v := 451) hC dX5_records_54 (by decide) ?_
    refine v_imul (x := nI p) (y := 451) hC dX5_records_57 ?_
    refine v_topi (y := nI (p * 451)) (pk_mul p 451) ?_
    refine v_callSv (As := [rf Λ 208, .int 0, rf Λ 206, .int (nI (p * 451))]) (rest := []) hC 4 (c_X5_copies Λ (CC Λ X Y) (a := 0) (c := p * 451) (f := (yt Y)) (g := (yp Y)) (cc_208 Λ X Y) (cc_206 Λ X Y) (by decide) (nR_of (by decide)) (nR_of (by decide)) (by omega) (by omega) (by decide) (by decide)) gX5_records_X5_copies rfl rfl rfl hd_X5_copies ⟨by decide, by decide⟩ rfl rfl (Nat.le_of_ble_eq_true rfl) dX5_records_58 ?_
    refine v_mem (cs_yp Λ X Y (cpyK (yt Y) (yp Y) 0 (p * 451) 451)) ?_
    refine v_aload_n hC dX5_records_61 0 rfl ?_
    refine v_dup hC dX5_records_62 rfl ?_
    refine v_get (T := TX5) (N := 13) (v := .int (yz Y)) hC 204 (nR_of (by decide)) (cc_204 Λ X (ypS Y (cpyK (yt Y) (yp Y) 0 (p * 451) 451))) in_X5_records_X5 rfl 2 (by decide) fl_X5_records_31 rfl dX5_records_63 ?_
    refine v_topi (y := nI p) hz ?_
    refine v_iconst (v := 1) hC dX5_records_66 (by decide) ?_
    refine v_iadd (x := nI p) (y := 1) hC dX5_records_67 ?_
    refine v_topi (y := nI (p + 1)) (nI_add p 1) ?_
    refine v_put (T := TX5) (N := 13) (v := .int (nI (p + 1))) (ty := .int) hC 204 (nR_of (by decide)) (cc_204 Λ X (ypS Y (cpyK (yt Y) (yp Y) 0 (p * 451) 451))) in_X5_records_X5 tyX5 tyX5_ok nmX5 rfl 2 (by decide) fl_X5_records_31 rfl (by decide +kernel) rfl rfl (Nat.le_of_ble_eq_true rfl) dX5_records_68 ?_
    refine v_mem (cs_yz Λ X (ypS Y (cpyK (yt Y) (yp Y) 0 (p * 451) 451)) (nI (p + 1))) ?_
    exact v_vret hC hR rfl (by first | (simp only [pushN, pushZ, if_pos c5]; done) | (simp only [pushN, pushZ, if_neg c5]; done) | (simp only [pushN, pushZ, if_pos c5]; rfl) | (simp only [pushN, pushZ, if_neg c5]; rfl)) dX5_records_71
  · skip
    refine v_iconst (v := 0) hC dX5_records_8 (by decide) ?_
    refine v_istore_n (lv' := [(2, .int 0), (0, rf Λ 204), (1, rf Λ 208)]) hC dX5_records_9 (by decide) rfl ?_
    have L10 : ∀ (fu10 : Nat) (j : Nat) (x2 : Int32), j ≤ 1353 → x2 = nI j → 1353 - j < fu10 → V Λ κ (CC Λ X (ypS Y (shK (yp Y) j))) 10 [(0, rf Λ 204), (1, rf Λ 208), (2, .int x2)] [] := by
      intro fu10
      induction fu10 with
      | zero => intro j x2 hj e2 hfu10; exact absurd hfu10 (Nat.not_lt_zero _)
      | succ fu10 ih10 =>
        intro j x2 hj e2 hfu10
        subst e2
        refine v_iload_n hC dX5_records_10 2 rfl ?_
        refine v_sipush (v := 1353) hC dX5_records_11 (by decide) ?_
        refine v_nge (a := j) (b := 1353) (tgt := 39) hC dX5_records_14 (by decide) rfl rfl (by omega) (by omega) (fun c14 => ?_) (fun c14 => ?_)
        · have c14' := Nat.not_lt.mpr c14
          have e_j : j = 1353 := by omega
          subst e_j
          refine v_aload_n hC dX5_records_39 0 rfl ?_
          refine v_iconst (v := 3) hC dX5_records_40 (by decide) ?_
          refine v_put (T := TX5) (N := 13) (v := .int 3) (ty := .int) hC 204 (nR_of (by decide)) (cc_204 Λ X (ypS Y (shK (yp Y) 1353))) in_X5_records_X5 tyX5 tyX5_ok nmX5 rfl 2 (by decide) fl_X5_records_31 rfl (by decide +kernel) rfl rfl (Nat.le_of_ble_eq_true rfl) dX5_records_41 ?_
          refine v_mem (cs_yz Λ X (ypS Y (shK (yp Y) 1353)) 3) ?_
          refine v_aload_n hC dX5_records_44 1 rfl ?_
          refine v_iconst (v := 0) hC dX5_records_45 (by decide) ?_
          refine v_aload_n hC dX5_records_46 0 rfl ?_
          refine v_get (T := TX5) (N := 13) (v := rf Λ 206) hC 204 (nR_of (by decide)) (cc_204 Λ X (yzS (ypS Y (shK (yp Y) 1353)) 3)) in_X5_records_X5 rfl 1 (by decide) fl_X5_records_13 rfl dX5_records_47 ?_
          refine v_aload_n hC dX5_records_50 0 rfl ?_
          refine v_get (T := TX5) (N := 13) (v := .int 3) hC 204 (nR_of (by decide)) (cc_204 Λ X (yzS (ypS Y (shK (yp Y) 1353)) 3)) in_X5_records_X5 rfl 2 (by decide) fl_X5_records_31 rfl dX5_records_51 ?_
          refine v_sipush (v := 451) hC dX5_records_54 (by decide) ?_
          refine v_imul (x := 3) (y := 451) hC dX5_records_57 ?_
          refine v_topi (y := 1353) (pk_mul 3 451) ?_
          refine v_callSv (As := [rf Λ 208, .int 0, rf Λ 206, .int 1353]) (rest := []) hC 4 (c_X5_copies Λ (CC Λ X (yzS (ypS Y (shK (yp Y) 1353)) 3)) (a := 0) (c := 1353) (f := (yt Y)) (g := (shK (yp Y) 1353)) (cc_208 Λ X (yzS (ypS Y (shK (yp Y) 1353)) 3)) (cc_206 Λ X (yzS (ypS Y (shK (yp Y) 1353)) 3)) (by decide) (nR_of (by decide)) (nR_of (by decide)) (by omega) (by omega) (by decide) (by decide)) gX5_records_X5_copies rfl rfl rfl hd_X5_copies ⟨by decide, by decide⟩ rfl rfl (Nat.le_of_ble_eq_true rfl) dX5_records_58 ?_
          refine v_mem (cs_yp Λ X (yzS (ypS Y (shK (yp Y) 1353)) 3) (cpyK (yt Y) (shK (yp Y) 1353) 0 1353 451)) ?_
          refine v_aload_n hC dX5_records_61 0 rfl ?_
          refine v_dup hC dX5_records_62 rfl ?_
          refine v_get (T := TX5) (N := 13) (v := .int 3) hC 204 (nR_of (by decide)) (cc_204 Λ X (ypS (yzS (ypS Y (shK (yp Y) 1353)) 3) (cpyK (yt Y) (shK (yp Y) 1353) 0 1353 451))) in_X5_records_X5 rfl 2 (by decide) fl_X5_records_31 rfl dX5_records_63 ?_
          refine v_iconst (v := 1) hC dX5_records_66 (by decide) ?_
          refine v_iadd (x := 3) (y := 1) hC dX5_records_67 ?_
          refine v_topi (y := 4) (nI_add 3 1) ?_
          refine v_put (T := TX5) (N := 13) (v := .int 4) (ty := .int) hC 204 (nR_of (by decide)) (cc_204 Λ X (ypS (yzS (ypS Y (shK (yp Y) 1353)) 3) (cpyK (yt Y) (shK (yp Y) 1353) 0 1353 451))) in_X5_records_X5 tyX5 tyX5_ok nmX5 rfl 2 (by decide) fl_X5_records_31 rfl (by decide +kernel) rfl rfl (Nat.le_of_ble_eq_true rfl) dX5_records_68 ?_
          refine v_mem (cs_yz Λ X (ypS (yzS (ypS Y (shK (yp Y) 1353)) 3) (cpyK (yt Y) (shK (yp Y) 1353) 0 1353 451)) 4) ?_
          exact v_vret hC hR rfl (by first | (simp only [pushN, pushZ, if_pos c5]; done) | (simp only [pushN, pushZ, if_neg c5]; done) | (simp only [pushN, pushZ, if_pos c5]; rfl) | (simp only [pushN, pushZ, if_neg c5]; rfl)) dX5_records_71
        · have c14' := Nat.not_le.mpr c14
          refine v_aload_n hC dX5_records_17 0 rfl ?_
          refine v_get (T := TX5) (N := 13) (v := rf Λ 206) hC 204 (nR_of (by decide)) (cc_204 Λ X (ypS Y (shK (yp Y) j))) in_X5_records_X5 rfl 1 (by decide) fl_X5_records_13 rfl dX5_records_18 ?_
          refine v_iload_n hC dX5_records_21 2 rfl ?_
          refine v_aload_n hC dX5_records_22 0 rfl ?_
          refine v_get (T := TX5) (N := 13) (v := rf Λ 206) hC 204 (nR_of (by decide)) (cc_204 Λ X (ypS Y (shK (yp Y) j))) in_X5_records_X5 rfl 1 (by decide) fl_X5_records_13 rfl dX5_records_23 ?_
          refine v_iload_n hC dX5_records_26 2 rfl ?_
          refine v_sipush (v := 451) hC dX5_records_27 (by decide) ?_
          refine v_iadd (x := nI j) (y := 451) hC dX5_records_30 ?_
          refine v_topi (y := nI (j + 451)) (nI_add j 451) ?_
          refine v_iald (n := 1804) (f := (shK (yp Y) j)) hC 206 (nR_of (by decide)) (cc_206 Λ X (ypS Y (shK (yp Y) j))) (j + 451) rfl (by omega) (by decide) dX5_records_31 ?_
          refine v_iast (n := 1804) (f := (shK (yp Y) j)) hC 206 (nR_of (by decide)) (cc_206 Λ X (ypS Y (shK (yp Y) j))) j rfl (by omega) (by decide) dX5_records_32 ?_
          refine v_mem (cs_yp Λ X (ypS Y (shK (yp Y) j)) (upd (shK (yp Y) j) j ((shK (yp Y) j) (j + 451)))) ?_
          refine v_iinc (j := 2) (v := nI (j + 1)) (lv' := [(2, .int (nI (j + 1))), (0, rf Λ 204), (1, rf Λ 208)]) hC dX5_records_33 rfl (nI_add j 1) (by decide) rfl ?_
          refine v_goto (tgt := 10) hC dX5_records_36 (by decide) ?_
          refine v_sub (lv' := [(0, rf Λ 204), (1, rf Λ 208), (2, .int (nI (j + 1)))]) [1, 2, 0] rfl ?_
          refine v_mem (C' := CC Λ X (ypS Y (shK (yp Y) (j + 1)))) (mem_p (shK_s (yp Y) j)) ?_
          exact ih10 (j + 1) _ (by omega) rfl (by omega)
    refine v_sub (lv' := [(0, rf Λ 204), (1, rf Λ 208), (2, .int 0)]) [1, 2, 0] rfl ?_
    refine v_mem (C' := CC Λ X (ypS Y (shK (yp Y) 0))) (by rw [shK_0]) ?_
    exact L10 _ 0 _ (by omega) rfl (Nat.lt_succ_self _)

theorem in_X5_isSet_X5 : ∀ w ∈ wsX50, w ∈ wsX5_isSet := by decide +kernel
theorem fl_X5_isSet_7 : Cond.fieldLink RX5 7 "BoatSetsModel" "now" "[I" ∈ wsX5_isSet := by decide +kernel
theorem hd_X5_isSet : yX5_isSet.cls = RX5 ∧ yX5_isSet.cls ≠ "java/lang/invoke/MethodHandle" ∧ yX5_isSet.cls ≠ "java/lang/invoke/VarHandle" ∧ (parseMethodDescriptor yX5_isSet.desc).map (fun d => d.parameters.length) = some 1 := by decide +kernel
set_option maxHeartbeats 400000 in
set_option maxRecDepth 100000 in
theorem c_X5_isSet (Λ : Lk) (X : XS) (Y : YS) {s : Int32} : Con Λ yX5_isSet wsX5_isSet { frames := 1, cells := 0, slots := 0, locals := 22 } [rf Λ 204, .int s] (CC Λ X Y) (some (.int (bI (isSBm (yn Y) s)))) (CC Λ X Y) := by
  refine con_start (cc := cX5_isSet) (maxL := 2) (ret := (some .boolean)) (by decide) rfl (Nat.le_of_ble_eq_true rfl) ?_
  intro κ hC hR
  have hC : Ok Λ { frames := 1, cells := 0, slots := 0, locals := 22 } cX5_isSet wsX5_isSet RX5 2 κ := hC
  refine v_args (lv' := [(0, rf Λ 204), (1, .int s)]) rfl ?_
  refine v_iload_n hC dX5_isSet_0 1 rfl ?_
  refine v_iconst (v := 0) hC dX5_isSet_1 (by decide) ?_
  refine v_aload_n hC dX5_isSet_2 0 rfl ?_
  refine v_get (T := TX5) (N := 13) (v := rf Λ 205) hC 204 (nR_of (by decide)) (cc_204 Λ X Y) in_X5_isSet_X5 rfl 0 (by decide) fl_X5_isSet_7 rfl dX5_isSet_3 ?_
  refine v_iconst (v := 0) hC dX5_isSet_6 (by decide) ?_
  refine v_iald (n := 451) (f := (yn Y)) hC 205 (nR_of (by decide)) (cc_205 Λ X Y) 0 rfl (by omega) (by decide) dX5_isSet_7 ?_
  refine v_iconst (v := 1) hC dX5_isSet_8 (by decide) ?_
  refine v_isub (x := (yn Y) 0) (y := 1) hC dX5_isSet_9 ?_
  refine v_callSr (v := .int (bI (inB s 0 (((yn Y) 0) - 1)))) (C2 := CC Λ X Y) (As := [.int s, .int 0, .int (((yn Y) 0) - 1)]) (rest := []) hC 3 (c_X5_in Λ X Y (v := s) (lo := 0) (hi := ((yn Y) 0) - 1)) gX5_isSet_X5_in rfl rfl rfl hd_X5_in ⟨by decide, by decide⟩ rfl rfl (Nat.le_of_ble_eq_true rfl) dX5_isSet_10 ?_
  exact v_zret hC hR rfl rfl (nar_b _) dX5_isSet_13

theorem hd_X5_boatsOf : yX5_boatsOf.cls = RX5 ∧ yX5_boatsOf.cls ≠ "java/lang/invoke/MethodHandle" ∧ yX5_boatsOf.cls ≠ "java/lang/invoke/VarHandle" ∧ (parseMethodDescriptor yX5_boatsOf.desc).map (fun d => d.parameters.length) = some 1 := by decide +kernel
set_option maxHeartbeats 400000 in
set_option maxRecDepth 100000 in
theorem c_X5_boatsOf (Λ : Lk) (X : XS) (Y : YS) {s : Nat} (hs : s < 6) : Con Λ yX5_boatsOf wsX5_boatsOf { frames := 2, cells := 0, slots := 0, locals := 44 } [rf Λ 204, .int (nI s)] (CC Λ X Y) (some (.int (boatsN (yn Y) s 8))) (CC Λ X Y) := by
  refine con_start (cc := cX5_boatsOf) (maxL := 4) (ret := (some .int)) (by decide) rfl (Nat.le_of_ble_eq_true rfl) ?_
  intro κ hC hR
  have hC : Ok Λ { frames := 2, cells := 0, slots := 0, locals := 44 } cX5_boatsOf wsX5_boatsOf RX5 4 κ := hC
  refine v_args (lv' := [(0, rf Λ 204), (1, .int (nI s))]) rfl ?_
  refine v_iconst (v := 0) hC dX5_boatsOf_0 (by decide) ?_
  refine v_istore_n (lv' := [(2, .int 0), (0, rf Λ 204), (1, .int (nI s))]) hC dX5_boatsOf_1 (by decide) rfl ?_
  refine v_iconst (v := 0) hC dX5_boatsOf_2 (by decide) ?_
  refine v_istore_n (lv' := [(3, .int 0), (2, .int 0), (0, rf Λ 204), (1, .int (nI s))]) hC dX5_boatsOf_3 (by decide) rfl ?_
  have L4 : ∀ (fu4 : Nat) (j : Nat) (x2 : Int32) (x3 : Int32), j ≤ 8 → x2 = boatsN (yn Y) s j → x3 = nI j → 8 - j < fu4 → V Λ κ (CC Λ X Y) 4 [(0, rf Λ 204), (1, .int (nI s)), (2, .int x2), (3, .int x3)] [] := by
    intro fu4
    induction fu4 with
    | zero => intro j x2 x3 hj e2 e3 hfu4; exact absurd hfu4 (Nat.not_lt_zero _)
    | succ fu4 ih4 =>
      intro j x2 x3 hj e2 e3 hfu4
      subst e2
      subst e3
      refine v_iload_n hC dX5_boatsOf_4 3 rfl ?_
      refine v_bipush (v := 8) hC dX5_boatsOf_5 (by decide) ?_
      refine v_nge (a := j) (b := 8) (tgt := 33) hC dX5_boatsOf_7 (by decide) rfl rfl (by omega) (by omega) (fun c7 => ?_) (fun c7 => ?_)
      · have c7' := Nat.not_lt.mpr c7
        refine v_iload_n hC dX5_boatsOf_33 2 rfl ?_
        exact v_iret hC hR (congrArg (fun z : Int32 => some (Value.int z)) (by have e : j = 8 := (by omega); subst e; rfl)) rfl dX5_boatsOf_34
      · have c7' := Nat.not_le.mpr c7
        refine v_iload_n hC dX5_boatsOf_10 2 rfl ?_
        refine v_aload_n hC dX5_boatsOf_11 0 rfl ?_
        refine v_iload_n hC dX5_boatsOf_12 1 rfl ?_
        refine v_iload_n hC dX5_boatsOf_13 3 rfl ?_
        refine v_callVr (v := .int (kindN (yn Y) s j)) (C2 := CC Λ X Y) (As := [.int (nI s), .int (nI j)]) (rest := [.int (boatsN (yn Y) s j)]) hC 2 204 (c_X5_kindOf Λ X Y (s := s) (b := j) (by omega) (by omega)) (nR_of (by decide)) (cc_204 Λ X Y) rfl gX5_boatsOf_X5_kindOf rfl rfl rfl hd_X5_kindOf ⟨by decide, by decide⟩ rfl rfl (Nat.le_of_ble_eq_true rfl) dX5_boatsOf_14 ?_
        refine v_if_lt (tgt := 24) hC dX5_boatsOf_17 (by decide) (fun c17 => ?_) (fun c17 => ?_)
        · have c17' := Int32.not_le.mpr c17
          refine v_iconst (v := 0) hC dX5_boatsOf_24 (by decide) ?_
          refine v_iadd (x := boatsN (yn Y) s j) (y := 0) hC dX5_boatsOf_25 ?_
          refine v_istore_n (lv' := [(2, .int ((boatsN (yn Y) s j) + 0)), (0, rf Λ 204), (1, .int (nI s)), (3, .int (nI j))]) hC dX5_boatsOf_26 (by decide) rfl ?_
          refine v_iinc (j := 3) (v := nI (j + 1)) (lv' := [(3, .int (nI (j + 1))), (2, .int ((boatsN (yn Y) s j) + 0)), (0, rf Λ 204), (1, .int (nI s))]) hC dX5_boatsOf_27 rfl (nI_add j 1) (by decide) rfl ?_
          refine v_goto (tgt := 4) hC dX5_boatsOf_30 (by decide) ?_
          refine v_sub (lv' := [(0, rf Λ 204), (1, .int (nI s)), (2, .int ((boatsN (yn Y) s j) + 0)), (3, .int (nI (j + 1)))]) [2, 3, 1, 0] rfl ?_
          exact ih4 (j + 1) _ _ (by omega) (by simp [boatsN, c7, c7', c17, c17']) rfl (by omega)
        · have c17' := Int32.not_lt.mp c17
          refine v_iconst (v := 1) hC dX5_boatsOf_20 (by decide) ?_
          refine v_goto (tgt := 25) hC dX5_boatsOf_21 (by decide) ?_
          refine v_iadd (x := boatsN (yn Y) s j) (y := 1) hC dX5_boatsOf_25 ?_
          refine v_istore_n (lv' := [(2, .int ((boatsN (yn Y) s j) + 1)), (0, rf Λ 204), (1, .int (nI s)), (3, .int (nI j))]) hC dX5_boatsOf_26 (by decide) rfl ?_
          refine v_iinc (j := 3) (v := nI (j + 1)) (lv' := [(3, .int (nI (j + 1))), (2, .int ((boatsN (yn Y) s j) + 1)), (0, rf Λ 204), (1, .int (nI s))]) hC dX5_boatsOf_27 rfl (nI_add j 1) (by decide) rfl ?_
          refine v_goto (tgt := 4) hC dX5_boatsOf_30 (by decide) ?_
          refine v_sub (lv' := [(0, rf Λ 204), (1, .int (nI s)), (2, .int ((boatsN (yn Y) s j) + 1)), (3, .int (nI (j + 1)))]) [2, 3, 1, 0] rfl ?_
          exact ih4 (j + 1) _ _ (by omega) (by simp [boatsN, c7, c7', c17, c17']) rfl (by omega)
  refine v_sub (lv' := [(0, rf Λ 204), (1, .int (nI s)), (2, .int 0), (3, .int 0)]) [2, 3, 1, 0] rfl ?_
  exact L4 _ 0 _ _ (by omega) rfl rfl (Nat.lt_succ_self _)
