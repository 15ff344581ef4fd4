theorem in_X5_newSet_X5 : ∀ w ∈ wsX50, w ∈ wsX5_newSet := by decide +kernel
theorem fl_X5_newSet_7 : Cond.fieldLink RX5 7 "BoatSetsModel" "now" "[I" ∈ wsX5_newSet := by decide +kernel
theorem hd_X5_newSet : yX5_newSet.cls = RX5 ∧ yX5_newSet.cls ≠ "java/lang/invoke/MethodHandle" ∧ yX5_newSet.cls ≠ "java/lang/invoke/VarHandle" ∧ (parseMethodDescriptor yX5_newSet.desc).map (fun d => d.parameters.length) = some 1 := by decide +kernel
set_option maxHeartbeats 400000 in
set_option maxRecDepth 100000 in
theorem c_X5_newSet (Λ : Lk) (X : XS) (Y : YS) {c : Int32} {ns : Nat} {p : Nat} (h0 : yn Y 0 = nI ns) (hns : ns ≤ 6) (hz : yz Y = nI p) (hp : p ≤ 4) : Con Λ yX5_newSet wsX5_newSet { frames := 2, cells := 0, slots := 0, locals := 46 } [rf Λ 204, .int c] (CC Λ X Y) (some (.int ((newP Y ns p c).1))) (CC Λ X ((newP Y ns p c).2)) := by
  refine con_start (cc := cX5_newSet) (maxL := 2) (ret := (some .int)) (by decide) rfl (Nat.le_of_ble_eq_true rfl) ?_
  intro κ hC hR
  have hC : Ok Λ { frames := 2, cells := 0, slots := 0, locals := 46 } cX5_newSet wsX5_newSet RX5 2 κ := hC
  refine v_args (lv' := [(0, rf Λ 204), (1, .int c)]) rfl ?_
  refine v_iload_n hC dX5_newSet_0 1 rfl ?_
  refine v_iconst (v := 0) hC dX5_newSet_1 (by decide) ?_
  refine v_sipush (v := 9999) hC dX5_newSet_2 (by decide) ?_
  refine v_callSr (v := .int (bI (inB c 0 9999))) (C2 := CC Λ X Y) (As := [.int c, .int 0, .int 9999]) (rest := []) hC 3 (c_X5_in Λ X Y (v := c) (lo := 0) (hi := 9999)) gX5_newSet_X5_in rfl rfl rfl hd_X5_in ⟨by decide, by decide⟩ rfl rfl (Nat.le_of_ble_eq_true rfl) dX5_newSet_5 ?_
  refine v_bne (b := inB c 0 9999) (tgt := 14) hC dX5_newSet_8 (by decide) (fun c8 => ?_) (fun c8 => ?_)
  · skip
    refine v_aload_n hC dX5_newSet_14 0 rfl ?_
    refine v_get (T := TX5) (N := 13) (v := rf Λ 205) hC 204 (nR_of (by decide)) (cc_204 Λ X Y) in_X5_newSet_X5 rfl 0 (by decide) fl_X5_newSet_7 rfl dX5_newSet_15 ?_
    refine v_iconst (v := 0) hC dX5_newSet_18 (by decide) ?_
    refine v_iald (n := 451) (f := (yn Y)) hC 205 (nR_of (by decide)) (cc_205 Λ X Y) 0 rfl (by omega) (by decide) dX5_newSet_19 ?_
    refine v_topi (y := nI ns) h0 ?_
    refine v_bipush (v := 6) hC dX5_newSet_20 (by decide) ?_
    refine v_nne (a := ns) (b := 6) (tgt := 28) hC dX5_newSet_22 (by decide) rfl rfl (by omega) (by omega) (fun c22 => ?_) (fun c22 => ?_)
    · skip
      refine v_aload_n hC dX5_newSet_28 0 rfl ?_
      refine v_aload_n hC dX5_newSet_29 0 rfl ?_
      refine v_get (T := TX5) (N := 13) (v := rf Λ 205) hC 204 (nR_of (by decide)) (cc_204 Λ X Y) in_X5_newSet_X5 rfl 0 (by decide) fl_X5_newSet_7 rfl dX5_newSet_30 ?_
      refine v_callVv (C2 := CC Λ X (yzS (ypS Y (pushN (yp Y) (yn Y) p)) (nI (pushZ p)))) (As := [rf Λ 205]) (rest := []) hC 1 204 (c_X5_records_n Λ X Y (p := p) hz (by omega)) (nR_of (by decide)) (cc_204 Λ X Y) rfl gX5_newSet_X5_records rfl rfl rfl hd_X5_records ⟨by decide, by decide⟩ rfl rfl (Nat.le_of_ble_eq_true rfl) dX5_newSet_33 ?_
      refine v_aload_n hC dX5_newSet_36 0 rfl ?_
      refine v_aload_n hC dX5_newSet_37 0 rfl ?_
      refine v_get (T := TX5) (N := 13) (v := rf Λ 205) hC 204 (nR_of (by decide)) (cc_204 Λ X (yzS (ypS Y (pushN (yp Y) (yn Y) p)) (nI (pushZ p)))) in_X5_newSet_X5 rfl 0 (by decide) fl_X5_newSet_7 rfl dX5_newSet_38 ?_
      refine v_iconst (v := 0) hC dX5_newSet_41 (by decide) ?_
      refine v_iald (n := 451) (f := (yn Y)) hC 205 (nR_of (by decide)) (cc_205 Λ X (yzS (ypS Y (pushN (yp Y) (yn Y) p)) (nI (pushZ p)))) 0 rfl (by omega) (by decide) dX5_newSet_42 ?_
      refine v_topi (y := nI ns) h0 ?_
      refine v_iconst (v := 0) hC dX5_newSet_43 (by decide) ?_
      refine v_iload_n hC dX5_newSet_44 1 rfl ?_
      refine v_callVv (C2 := CC Λ X (ynS (yzS (ypS Y (pushN (yp Y) (yn Y) p)) (nI (pushZ p))) (layN (yn Y) ns 0 c))) (As := [.int (nI ns), .int 0, .int c]) (rest := []) hC 3 204 (c_X5_lays Λ X (yzS (ypS Y (pushN (yp Y) (yn Y) p)) (nI (pushZ p))) (s := ns) (w := 0) (v := c) (by omega) (by omega)) (nR_of (by decide)) (cc_204 Λ X (yzS (ypS Y (pushN (yp Y) (yn Y) p)) (nI (pushZ p)))) rfl gX5_newSet_X5_lays rfl rfl rfl hd_X5_lays ⟨by decide, by decide⟩ rfl rfl (Nat.le_of_ble_eq_true rfl) dX5_newSet_45 ?_
      refine v_aload_n hC dX5_newSet_48 0 rfl ?_
      refine v_get (T := TX5) (N := 13) (v := rf Λ 205) hC 204 (nR_of (by decide)) (cc_204 Λ X (ynS (yzS (ypS Y (pushN (yp Y) (yn Y) p)) (nI (pushZ p))) (layN (yn Y) ns 0 c))) in_X5_newSet_X5 rfl 0 (by decide) fl_X5_newSet_7 rfl dX5_newSet_49 ?_
      refine v_iconst (v := 0) hC dX5_newSet_52 (by decide) ?_
      refine v_dup2 hC dX5_newSet_53 rfl rfl ?_
      refine v_iald (n := 451) (f := (layN (yn Y) ns 0 c)) hC 205 (nR_of (by decide)) (cc_205 Λ X (ynS (yzS (ypS Y (pushN (yp Y) (yn Y) p)) (nI (pushZ p))) (layN (yn Y) ns 0 c))) 0 rfl (by omega) (by decide) dX5_newSet_54 ?_
      refine v_topi (y := nI ns) ((layN_0 _ _ _ _).trans h0) ?_
      refine v_iconst (v := 1) hC dX5_newSet_55 (by decide) ?_
      refine v_iadd (x := nI ns) (y := 1) hC dX5_newSet_56 ?_
      refine v_topi (y := nI (ns + 1)) (nI_add ns 1) ?_
      refine v_iast (n := 451) (f := (layN (yn Y) ns 0 c)) hC 205 (nR_of (by decide)) (cc_205 Λ X (ynS (yzS (ypS Y (pushN (yp Y) (yn Y) p)) (nI (pushZ p))) (layN (yn Y) ns 0 c))) 0 rfl (by omega) (by decide) dX5_newSet_57 ?_
      refine v_mem (cs_yn Λ X (ynS (yzS (ypS Y (pushN (yp Y) (yn Y) p)) (nI (pushZ p))) (layN (yn Y) ns 0 c)) (upd (layN (yn Y) ns 0 c) 0 (nI (ns + 1)))) ?_
      refine v_aload_n hC dX5_newSet_58 0 rfl ?_
      refine v_get (T := TX5) (N := 13) (v := rf Λ 205) hC 204 (nR_of (by decide)) (cc_204 Λ X (ynS (ynS (yzS (ypS Y (pushN (yp Y) (yn Y) p)) (nI (pushZ p))) (layN (yn Y) ns 0 c)) (upd (layN (yn Y) ns 0 c) 0 (nI (ns + 1))))) in_X5_newSet_X5 rfl 0 (by decide) fl_X5_newSet_7 rfl dX5_newSet_59 ?_
      refine v_iconst (v := 0) hC dX5_newSet_62 (by decide) ?_
      refine v_iald (n := 451) (f := (upd (layN (yn Y) ns 0 c) 0 (nI (ns + 1)))) hC 205 (nR_of (by decide)) (cc_205 Λ X (ynS (ynS (yzS (ypS Y (pushN (yp Y) (yn Y) p)) (nI (pushZ p))) (layN (yn Y) ns 0 c)) (upd (layN (yn Y) ns 0 c) 0 (nI (ns + 1))))) 0 rfl (by omega) (by decide) dX5_newSet_63 ?_
      refine v_topi (y := nI (ns + 1)) upd_s ?_
      refine v_iconst (v := 1) hC dX5_newSet_64 (by decide) ?_
      refine v_isub (x := nI (ns + 1)) (y := 1) hC dX5_newSet_65 ?_
      refine v_topi (y := nI ((ns + 1) - 1)) (pk_sub (a := ns + 1) (b := 1) (by omega)) ?_
      have e : newP Y ns p c = (nI ((ns + 1) - 1), (ynS (ynS (yzS (ypS Y (pushN (yp Y) (yn Y) p)) (nI (pushZ p))) (layN (yn Y) ns 0 c)) (upd (layN (yn Y) ns 0 c) 0 (nI (ns + 1))))) := by simp [newP, recM, c8, c22]
      exact v_iretP hC hR e dX5_newSet_66
    · skip
      refine v_bipush (v := (-3)) hC dX5_newSet_25 (by decide) ?_
      have e : newP Y ns p c = ((-3), Y) := by simp [newP, recM, c8, c22]
      exact v_iretP hC hR e dX5_newSet_27
  · skip
    refine v_bipush (v := (-2)) hC dX5_newSet_11 (by decide) ?_
    have e : newP Y ns p c = ((-2), Y) := by simp [newP, recM, c8]
    exact v_iretP hC hR e dX5_newSet_13

theorem in_X5_pay_X5 : ∀ w ∈ wsX50, w ∈ wsX5_pay := by decide +kernel
theorem fl_X5_pay_7 : Cond.fieldLink RX5 7 "BoatSetsModel" "now" "[I" ∈ wsX5_pay := by decide +kernel
theorem hd_X5_pay : yX5_pay.cls = RX5 ∧ yX5_pay.cls ≠ "java/lang/invoke/MethodHandle" ∧ yX5_pay.cls ≠ "java/lang/invoke/VarHandle" ∧ (parseMethodDescriptor yX5_pay.desc).map (fun d => d.parameters.length) = some 2 := by decide +kernel
set_option maxHeartbeats 400000 in
set_option maxRecDepth 100000 in
theorem c_X5_pay (Λ : Lk) (X : XS) (Y : YS) {s : Int32} {c : Int32} {ns : Nat} {p : Nat} (h0 : yn Y 0 = nI ns) (hns : ns ≤ 6) (hz : yz Y = nI p) (hp : p ≤ 4) : Con Λ yX5_pay wsX5_pay { frames := 2, cells := 0, slots := 0, locals := 46 } [rf Λ 204, .int s, .int c] (CC Λ X Y) (some (.int ((payP Y p s c).1))) (CC Λ X ((payP Y p s c).2)) := by
  refine con_start (cc := cX5_pay) (maxL := 3) (ret := (some .int)) (by decide) rfl (Nat.le_of_ble_eq_true rfl) ?_
  intro κ hC hR
  have hC : Ok Λ { frames := 2, cells := 0, slots := 0, locals := 46 } cX5_pay wsX5_pay RX5 3 κ := hC
  refine v_args (lv' := [(0, rf Λ 204), (1, .int s), (2, .int c)]) rfl ?_
  refine v_aload_n hC dX5_pay_0 0 rfl ?_
  refine v_iload_n hC dX5_pay_1 1 rfl ?_
  refine v_callVr (v := .int (bI (isSBm (yn Y) s))) (C2 := CC Λ X Y) (As := [.int s]) (rest := []) hC 1 204 (c_X5_isSet Λ X Y (s := s)) (nR_of (by decide)) (cc_204 Λ X Y) rfl gX5_pay_X5_isSet rfl rfl rfl hd_X5_isSet ⟨by decide, by decide⟩ rfl rfl (Nat.le_of_ble_eq_true rfl) dX5_pay_2 ?_
  refine v_bne (b := isSBm (yn Y) s) (tgt := 10) hC dX5_pay_5 (by decide) (fun c5 => ?_) (fun c5 => ?_)
  · skip
    obtain ⟨k, hk, rfl⟩ := isS_of h0 hns c5
    have hik : ix (nI k) = k := ix_nI (by omega)
    refine v_iload_n hC dX5_pay_10 2 rfl ?_
    refine v_iconst (v := 1) hC dX5_pay_11 (by decide) ?_
    refine v_sipush (v := 9999) hC dX5_pay_12 (by decide) ?_
    refine v_callSr (v := .int (bI (inB c 1 9999))) (C2 := CC Λ X Y) (As := [.int c, .int 1, .int 9999]) (rest := []) hC 3 (c_X5_in Λ X Y (v := c) (lo := 1) (hi := 9999)) gX5_pay_X5_in rfl rfl rfl hd_X5_in ⟨by decide, by decide⟩ rfl rfl (Nat.le_of_ble_eq_true rfl) dX5_pay_15 ?_
    refine v_bne (b := inB c 1 9999) (tgt := 24) hC dX5_pay_18 (by decide) (fun c18 => ?_) (fun c18 => ?_)
    · skip
      refine v_aload_n hC dX5_pay_24 0 rfl ?_
      refine v_iload_n hC dX5_pay_25 1 rfl ?_
      refine v_iconst (v := 0) hC dX5_pay_26 (by decide) ?_
      refine v_callVr (v := .int (ofN (yn Y) k 0)) (C2 := CC Λ X Y) (As := [.int (nI k), .int 0]) (rest := []) hC 2 204 (c_X5_of Λ X Y (s := k) (w := 0) (by omega) (by omega)) (nR_of (by decide)) (cc_204 Λ X Y) rfl gX5_pay_X5_of rfl rfl rfl hd_X5_of ⟨by decide, by decide⟩ rfl rfl (Nat.le_of_ble_eq_true rfl) dX5_pay_27 ?_
      refine v_iload_n hC dX5_pay_30 2 rfl ?_
      refine v_iadd (x := ofN (yn Y) k 0) (y := c) hC dX5_pay_31 ?_
      refine v_sipush (v := 9999) hC dX5_pay_32 (by decide) ?_
      refine v_icmp_le (x := (ofN (yn Y) k 0) + c) (y := 9999) (tgt := 41) hC dX5_pay_35 (by decide) (fun c35 => ?_) (fun c35 => ?_)
      · have c35' := Int32.not_lt.mpr c35
        refine v_aload_n hC dX5_pay_41 0 rfl ?_
        refine v_aload_n hC dX5_pay_42 0 rfl ?_
        refine v_get (T := TX5) (N := 13) (v := rf Λ 205) hC 204 (nR_of (by decide)) (cc_204 Λ X Y) in_X5_pay_X5 rfl 0 (by decide) fl_X5_pay_7 rfl dX5_pay_43 ?_
        refine v_callVv (C2 := CC Λ X (yzS (ypS Y (pushN (yp Y) (yn Y) p)) (nI (pushZ p)))) (As := [rf Λ 205]) (rest := []) hC 1 204 (c_X5_records_n Λ X Y (p := p) hz (by omega)) (nR_of (by decide)) (cc_204 Λ X Y) rfl gX5_pay_X5_records rfl rfl rfl hd_X5_records ⟨by decide, by decide⟩ rfl rfl (Nat.le_of_ble_eq_true rfl) dX5_pay_46 ?_
        refine v_aload_n hC dX5_pay_49 0 rfl ?_
        refine v_iload_n hC dX5_pay_50 1 rfl ?_
        refine v_iconst (v := 0) hC dX5_pay_51 (by decide) ?_
        refine v_aload_n hC dX5_pay_52 0 rfl ?_
        refine v_iload_n hC dX5_pay_53 1 rfl ?_
        refine v_iconst (v := 0) hC dX5_pay_54 (by decide) ?_
        refine v_callVr (v := .int (ofN (yn Y) k 0)) (C2 := CC Λ X (yzS (ypS Y (pushN (yp Y) (yn Y) p)) (nI (pushZ p)))) (As := [.int (nI k), .int 0]) (rest := [.int 0, .int (nI k), rf Λ 204]) hC 2 204 (c_X5_of Λ X (yzS (ypS Y (pushN (yp Y) (yn Y) p)) (nI (pushZ p))) (s := k) (w := 0) (by omega) (by omega)) (nR_of (by decide)) (cc_204 Λ X (yzS (ypS Y (pushN (yp Y) (yn Y) p)) (nI (pushZ p)))) rfl gX5_pay_X5_of rfl rfl rfl hd_X5_of ⟨by decide, by decide⟩ rfl rfl (Nat.le_of_ble_eq_true rfl) dX5_pay_55 ?_
        refine v_iload_n hC dX5_pay_58 2 rfl ?_
        refine v_iadd (x := ofN (yn Y) k 0) (y := c) hC dX5_pay_59 ?_
        refine v_callVv (C2 := CC Λ X (ynS (yzS (ypS Y (pushN (yp Y) (yn Y) p)) (nI (pushZ p))) (layN (yn Y) k 0 ((ofN (yn Y) k 0) + c)))) (As := [.int (nI k), .int 0, .int ((ofN (yn Y) k 0) + c)]) (rest := []) hC 3 204 (c_X5_lays Λ X (yzS (ypS Y (pushN (yp Y) (yn Y) p)) (nI (pushZ p))) (s := k) (w := 0) (v := (ofN (yn Y) k 0) + c) (by omega) (by omega)) (nR_of (by decide)) (cc_204 Λ X (yzS (ypS Y (pushN (yp Y) (yn Y) p)) (nI (pushZ p)))) rfl gX5_pay_X5_lays rfl rfl rfl hd_X5_lays ⟨by decide, by decide⟩ rfl rfl (Nat.le_of_ble_eq_true rfl) dX5_pay_60 ?_
        refine v_aload_n hC dX5_pay_63 0 rfl ?_
        refine v_iload_n hC dX5_pay_64 1 rfl ?_
        refine v_iconst (v := 0) hC dX5_pay_65 (by decide) ?_
        refine v_callVr (v := .int (ofN (layN (yn Y) k 0 ((ofN (yn Y) k 0) + c)) k 0)) (C2 := CC Λ X (ynS (yzS (ypS Y (pushN (yp Y) (yn Y) p)) (nI (pushZ p))) (layN (yn Y) k 0 ((ofN (yn Y) k 0) + c)))) (As := [.int (nI k), .int 0]) (rest := []) hC 2 204 (c_X5_of Λ X (ynS (yzS (ypS Y (pushN (yp Y) (yn Y) p)) (nI (pushZ p))) (layN (yn Y) k 0 ((ofN (yn Y) k 0) + c))) (s := k) (w := 0) (by omega) (by omega)) (nR_of (by decide)) (cc_204 Λ X (ynS (yzS (ypS Y (pushN (yp Y) (yn Y) p)) (nI (pushZ p))) (layN (yn Y) k 0 ((ofN (yn Y) k 0) + c)))) rfl gX5_pay_X5_of rfl rfl rfl hd_X5_of ⟨by decide, by decide⟩ rfl rfl (Nat.le_of_ble_eq_true rfl) dX5_pay_66 ?_
        have e : payP Y p (nI k) c = (ofN (layN (yn Y) k 0 ((ofN (yn Y) k 0) + c)) k 0, (ynS (yzS (ypS Y (pushN (yp Y) (yn Y) p)) (nI (pushZ p))) (layN (yn Y) k 0 ((ofN (yn Y) k 0) + c)))) := by simp [payP, recM, ofN_layN, c5, hik, c18, c35, c35']
        exact v_iretP hC hR e dX5_pay_69
      · have c35' := Int32.not_le.mp c35
        refine v_bipush (v := (-3)) hC dX5_pay_38 (by decide) ?_
        have e : payP Y p (nI k) c = ((-3), Y) := by simp [payP, recM, ofN_layN, c5, hik, c18, c35, c35']
        exact v_iretP hC hR e dX5_pay_40
    · skip
      refine v_bipush (v := (-2)) hC dX5_pay_21 (by decide) ?_
      have e : payP Y p (nI k) c = ((-2), Y) := by simp [payP, recM, ofN_layN, c5, hik, c18]
      exact v_iretP hC hR e dX5_pay_23
  · skip
    refine v_iconst (v := (-1)) hC dX5_pay_8 (by decide) ?_
    have e : payP Y p s c = ((-1), Y) := by simp [payP, recM, ofN_layN, c5]
    exact v_iretP hC hR e dX5_pay_9

theorem in_X5_sail_X5 : ∀ w ∈ wsX50, w ∈ wsX5_sail := by decide +kernel
theorem fl_X5_sail_7 : Cond.fieldLink RX5 7 "BoatSetsModel" "now" "[I" ∈ wsX5_sail := by decide +kernel
theorem hd_X5_sail : yX5_sail.cls = RX5 ∧ yX5_sail.cls ≠ "java/lang/invoke/MethodHandle" ∧ yX5_sail.cls ≠ "java/lang/invoke/VarHandle" ∧ (parseMethodDescriptor yX5_sail.desc).map (fun d => d.parameters.length) = some 1 := by decide +kernel
set_option maxHeartbeats 400000 in
set_option maxRecDepth 100000 in
theorem c_X5_sail (Λ : Lk) (X : XS) (Y : YS) {s : Int32} {ns : Nat} {p : Nat} (h0 : yn Y 0 = nI ns) (hns : ns ≤ 6) (hz : yz Y = nI p) (hp : p ≤ 4) : Con Λ yX5_sail wsX5_sail { frames := 3, cells := 0, slots := 0, locals := 67 } [rf Λ 204, .int s] (CC Λ X Y) (some (.int ((sailP Y p s).1))) (CC Λ X ((sailP Y p s).2)) := by
  refine con_start (cc := cX5_sail) (maxL := 2) (ret := (some .int)) (by decide) rfl (Nat.le_of_ble_eq_true rfl) ?_
  intro κ hC hR
  have hC : Ok Λ { frames := 3, cells := 0, slots := 0, locals := 67 } cX5_sail wsX5_sail RX5 2 κ := hC
  refine v_args (lv' := [(0, rf Λ 204), (1, .int s)]) rfl ?_
  refine v_aload_n hC dX5_sail_0 0 rfl ?_
  refine v_iload_n hC dX5_sail_1 1 rfl ?_
  refine v_callVr (v := .int (bI (isSBm (yn Y) s))) (C2 := CC Λ X Y) (As := [.int s]) (rest := []) hC 1 204 (c_X5_isSet Λ X Y (s := s)) (nR_of (by decide)) (cc_204 Λ X Y) rfl gX5_sail_X5_isSet rfl rfl rfl hd_X5_isSet ⟨by decide, by decide⟩ rfl rfl (Nat.le_of_ble_eq_true rfl) dX5_sail_2 ?_
  refine v_bne (b := isSBm (yn Y) s) (tgt := 10) hC dX5_sail_5 (by decide) (fun c5 => ?_) (fun c5 => ?_)
  · skip
    obtain ⟨k, hk, rfl⟩ := isS_of h0 hns c5
    have hik : ix (nI k) = k := ix_nI (by omega)
    refine v_aload_n hC dX5_sail_10 0 rfl ?_
    refine v_iload_n hC dX5_sail_11 1 rfl ?_
    refine v_iconst (v := 1) hC dX5_sail_12 (by decide) ?_
    refine v_callVr (v := .int (ofN (yn Y) k 1)) (C2 := CC Λ X Y) (As := [.int (nI k), .int 1]) (rest := []) hC 2 204 (c_X5_of Λ X Y (s := k) (w := 1) (by omega) (by omega)) (nR_of (by decide)) (cc_204 Λ X Y) rfl gX5_sail_X5_of rfl rfl rfl hd_X5_of ⟨by decide, by decide⟩ rfl rfl (Nat.le_of_ble_eq_true rfl) dX5_sail_13 ?_
    refine v_iconst (v := 1) hC dX5_sail_16 (by decide) ?_
    refine v_icmp_ne (x := ofN (yn Y) k 1) (y := 1) (tgt := 23) hC dX5_sail_17 (by decide) (fun c17 => ?_) (fun c17 => ?_)
    · skip
      refine v_aload_n hC dX5_sail_23 0 rfl ?_
      refine v_aload_n hC dX5_sail_24 0 rfl ?_
      refine v_get (T := TX5) (N := 13) (v := rf Λ 205) hC 204 (nR_of (by decide)) (cc_204 Λ X Y) in_X5_sail_X5 rfl 0 (by decide) fl_X5_sail_7 rfl dX5_sail_25 ?_
      refine v_callVv (C2 := CC Λ X (yzS (ypS Y (pushN (yp Y) (yn Y) p)) (nI (pushZ p)))) (As := [rf Λ 205]) (rest := []) hC 1 204 (c_X5_records_n Λ X Y (p := p) hz (by omega)) (nR_of (by decide)) (cc_204 Λ X Y) rfl gX5_sail_X5_records rfl rfl rfl hd_X5_records ⟨by decide, by decide⟩ rfl rfl (Nat.le_of_ble_eq_true rfl) dX5_sail_28 ?_
      refine v_aload_n hC dX5_sail_31 0 rfl ?_
      refine v_iload_n hC dX5_sail_32 1 rfl ?_
      refine v_iconst (v := 1) hC dX5_sail_33 (by decide) ?_
      refine v_iconst (v := 1) hC dX5_sail_34 (by decide) ?_
      refine v_callVv (C2 := CC Λ X (ynS (yzS (ypS Y (pushN (yp Y) (yn Y) p)) (nI (pushZ p))) (layN (yn Y) k 1 1))) (As := [.int (nI k), .int 1, .int 1]) (rest := []) hC 3 204 (c_X5_lays Λ X (yzS (ypS Y (pushN (yp Y) (yn Y) p)) (nI (pushZ p))) (s := k) (w := 1) (v := 1) (by omega) (by omega)) (nR_of (by decide)) (cc_204 Λ X (yzS (ypS Y (pushN (yp Y) (yn Y) p)) (nI (pushZ p)))) rfl gX5_sail_X5_lays rfl rfl rfl hd_X5_lays ⟨by decide, by decide⟩ rfl rfl (Nat.le_of_ble_eq_true rfl) dX5_sail_35 ?_
      refine v_aload_n hC dX5_sail_38 0 rfl ?_
      refine v_iload_n hC dX5_sail_39 1 rfl ?_
      refine v_callVr (v := .int (boatsN (layN (yn Y) k 1 1) k 8)) (C2 := CC Λ X (ynS (yzS (ypS Y (pushN (yp Y) (yn Y) p)) (nI (pushZ p))) (layN (yn Y) k 1 1))) (As := [.int (nI k)]) (rest := []) hC 1 204 (c_X5_boatsOf Λ X (ynS (yzS (ypS Y (pushN (yp Y) (yn Y) p)) (nI (pushZ p))) (layN (yn Y) k 1 1)) (s := k) (by omega)) (nR_of (by decide)) (cc_204 Λ X (ynS (yzS (ypS Y (pushN (yp Y) (yn Y) p)) (nI (pushZ p))) (layN (yn Y) k 1 1))) rfl gX5_sail_X5_boatsOf rfl rfl rfl hd_X5_boatsOf ⟨by decide, by decide⟩ rfl rfl (Nat.le_of_ble_eq_true rfl) dX5_sail_40 ?_
      have e : sailP Y p (nI k) = (boatsN (layN (yn Y) k 1 1) k 8, (ynS (yzS (ypS Y (pushN (yp Y) (yn Y) p)) (nI (pushZ p))) (layN (yn Y) k 1 1))) := by simp [sailP, recM, c5, hik, c17]
      exact v_iretP hC hR e dX5_sail_43
    · skip
      refine v_bipush (v := (-5)) hC dX5_sail_20 (by decide) ?_
      have e : sailP Y p (nI k) = ((-5), Y) := by simp [sailP, recM, c5, hik, c17]
      exact v_iretP hC hR e dX5_sail_22
  · skip
    refine v_iconst (v := (-1)) hC dX5_sail_8 (by decide) ?_
    have e : sailP Y p s = ((-1), Y) := by simp [sailP, recM, c5]
    exact v_iretP hC hR e dX5_sail_9

theorem in_X5_dock_X5 : ∀ w ∈ wsX50, w ∈ wsX5_dock := by decide +kernel
theorem fl_X5_dock_7 : Cond.fieldLink RX5 7 "BoatSetsModel" "now" "[I" ∈ wsX5_dock := by decide +kernel
theorem hd_X5_dock : yX5_dock.cls = RX5 ∧ yX5_dock.cls ≠ "java/lang/invoke/MethodHandle" ∧ yX5_dock.cls ≠ "java/lang/invoke/VarHandle" ∧ (parseMethodDescriptor yX5_dock.desc).map (fun d => d.parameters.length) = some 1 := by decide +kernel
set_option maxHeartbeats 400000 in
set_option maxRecDepth 100000 in
theorem c_X5_dock (Λ : Lk) (X : XS) (Y : YS) {s : Int32} {ns : Nat} {p : Nat} (h0 : yn Y 0 = nI ns) (hns : ns ≤ 6) (hz : yz Y = nI p) (hp : p ≤ 4) : Con Λ yX5_dock wsX5_dock { frames := 7, cells := 0, slots := 0, locals := 162 } [rf Λ 204, .int s] (CC Λ X Y) (some (.int ((dockP Y p s).1))) (CC Λ X ((dockP Y p s).2)) := by
  refine con_start (cc := cX5_dock) (maxL := 2) (ret := (some .int)) (by decide) rfl (Nat.le_of_ble_eq_true rfl) ?_
  intro κ hC hR
  have hC : Ok Λ { frames := 7, cells := 0, slots := 0, locals := 162 } cX5_dock wsX5_dock RX5 2 κ := hC
  refine v_args (lv' := [(0, rf Λ 204), (1, .int s)]) rfl ?_
  refine v_aload_n hC dX5_dock_0 0 rfl ?_
  refine v_iload_n hC dX5_dock_1 1 rfl ?_
  refine v_callVr (v := .int (bI (isSBm (yn Y) s))) (C2 := CC Λ X Y) (As := [.int s]) (rest := []) hC 1 204 (c_X5_isSet Λ X Y (s := s)) (nR_of (by decide)) (cc_204 Λ X Y) rfl gX5_dock_X5_isSet rfl rfl rfl hd_X5_isSet ⟨by decide, by decide⟩ rfl rfl (Nat.le_of_ble_eq_true rfl) dX5_dock_2 ?_
  refine v_bne (b := isSBm (yn Y) s) (tgt := 10) hC dX5_dock_5 (by decide) (fun c5 => ?_) (fun c5 => ?_)
  · skip
    obtain ⟨k, hk, rfl⟩ := isS_of h0 hns c5
    have hik : ix (nI k) = k := ix_nI (by omega)
    refine v_aload_n hC dX5_dock_10 0 rfl ?_
    refine v_aload_n hC dX5_dock_11 0 rfl ?_
    refine v_get (T := TX5) (N := 13) (v := rf Λ 205) hC 204 (nR_of (by decide)) (cc_204 Λ X Y) in_X5_dock_X5 rfl 0 (by decide) fl_X5_dock_7 rfl dX5_dock_12 ?_
    refine v_callVv (C2 := CC Λ X (yzS (ypS Y (pushN (yp Y) (yn Y) p)) (nI (pushZ p)))) (As := [rf Λ 205]) (rest := []) hC 1 204 (c_X5_records_n Λ X Y (p := p) hz (by omega)) (nR_of (by decide)) (cc_204 Λ X Y) rfl gX5_dock_X5_records rfl rfl rfl hd_X5_records ⟨by decide, by decide⟩ rfl rfl (Nat.le_of_ble_eq_true rfl) dX5_dock_15 ?_
    refine v_aload_n hC dX5_dock_18 0 rfl ?_
    refine v_iload_n hC dX5_dock_19 1 rfl ?_
    refine v_callVr (v := .int (ofN (dkN k 9 (layN (yn Y) k 1 0) 0).1 k 2 - ofN (yn Y) k 2)) (C2 := CC Λ X (yoS (ynS (yzS (ypS Y (pushN (yp Y) (yn Y) p)) (nI (pushZ p))) ((dkN k 9 (layN (yn Y) k 1 0) 0).1)) ((dkN k 9 (layN (yn Y) k 1 0) 0).2))) (As := [.int (nI k)]) (rest := []) hC 1 204 (c_X5_docks Λ X (yzS (ypS Y (pushN (yp Y) (yn Y) p)) (nI (pushZ p))) (s := k) (by omega)) (nR_of (by decide)) (cc_204 Λ X (yzS (ypS Y (pushN (yp Y) (yn Y) p)) (nI (pushZ p)))) rfl gX5_dock_X5_docks rfl rfl rfl hd_X5_docks ⟨by decide, by decide⟩ rfl rfl (Nat.le_of_ble_eq_true rfl) dX5_dock_20 ?_
    have e : dockP Y p (nI k) = (ofN (dkN k 9 (layN (yn Y) k 1 0) 0).1 k 2 - ofN (yn Y) k 2, (yoS (ynS (yzS (ypS Y (pushN (yp Y) (yn Y) p)) (nI (pushZ p))) ((dkN k 9 (layN (yn Y) k 1 0) 0).1)) ((dkN k 9 (layN (yn Y) k 1 0) 0).2))) := by simp [dockP, dockR, recM, c5, hik]
    exact v_iretP hC hR e dX5_dock_23
  · skip
    refine v_iconst (v := (-1)) hC dX5_dock_8 (by decide) ?_
    have e : dockP Y p s = ((-1), Y) := by simp [dockP, dockR, recM, c5]
    exact v_iretP hC hR e dX5_dock_9

theorem in_X5_tollToDock_X5 : ∀ w ∈ wsX50, w ∈ wsX5_tollToDock := by decide +kernel
theorem fl_X5_tollToDock_7 : Cond.fieldLink RX5 7 "BoatSetsModel" "now" "[I" ∈ wsX5_tollToDock := by decide +kernel
theorem fl_X5_tollToDock_19 : Cond.fieldLink RX5 19 "BoatSetsModel" "trial" "[I" ∈ wsX5_tollToDock := by decide +kernel
theorem hd_X5_tollToDock : yX5_tollToDock.cls = RX5 ∧ yX5_tollToDock.cls ≠ "java/lang/invoke/MethodHandle" ∧ yX5_tollToDock.cls ≠ "java/lang/invoke/VarHandle" ∧ (parseMethodDescriptor yX5_tollToDock.desc).map (fun d => d.parameters.length) = some 1 := by decide +kernel
set_option maxHeartbeats 400000 in
set_option maxRecDepth 100000 in
theorem c_X5_tollToDock (Λ : Lk) (X : XS) (Y : YS) {s : Int32} {ns : Nat} (h0 : yn Y 0 = nI ns) (hns : ns ≤ 6) : Con Λ yX5_tollToDock wsX5_tollToDock { frames := 7, cells := 0, slots := 0, locals := 162 } [rf Λ 204, .int s] (CC Λ X Y) (some (.int ((tollP Y s).1))) (CC Λ X ((tollP Y s).2)) := by
  refine con_start (cc := cX5_tollToDock) (maxL := 3) (ret := (some .int)) (by decide) rfl (Nat.le_of_ble_eq_true rfl) ?_
  intro κ hC hR
  have hC : Ok Λ { frames := 7, cells := 0, slots := 0, locals := 162 } cX5_tollToDock wsX5_tollToDock RX5 3 κ := hC
  refine v_args (lv' := [(0, rf Λ 204), (1, .int s)]) rfl ?_
  refine v_aload_n hC dX5_tollToDock_0 0 rfl ?_
  refine v_iload_n hC dX5_tollToDock_1 1 rfl ?_
  refine v_callVr (v := .int (bI (isSBm (yn Y) s))) (C2 := CC Λ X Y) (As := [.int s]) (rest := []) hC 1 204 (c_X5_isSet Λ X Y (s := s)) (nR_of (by decide)) (cc_204 Λ X Y) rfl gX5_tollToDock_X5_isSet rfl rfl rfl hd_X5_isSet ⟨by decide, by decide⟩ rfl rfl (Nat.le_of_ble_eq_true rfl) dX5_tollToDock_2 ?_
  refine v_bne (b := isSBm (yn Y) s) (tgt := 10) hC dX5_tollToDock_5 (by decide) (fun c5 => ?_) (fun c5 => ?_)
  · skip
    obtain ⟨k, hk, rfl⟩ := isS_of h0 hns c5
    have hik : ix (nI k) = k := ix_nI (by omega)
    refine v_aload_n hC dX5_tollToDock_10 0 rfl ?_
    refine v_get (T := TX5) (N := 13) (v := rf Λ 205) hC 204 (nR_of (by decide)) (cc_204 Λ X Y) in_X5_tollToDock_X5 rfl 0 (by decide) fl_X5_tollToDock_7 rfl dX5_tollToDock_11 ?_
    refine v_iconst (v := 0) hC dX5_tollToDock_14 (by decide) ?_
    refine v_aload_n hC dX5_tollToDock_15 0 rfl ?_
    refine v_get (T := TX5) (N := 13) (v := rf Λ 208) hC 204 (nR_of (by decide)) (cc_204 Λ X Y) in_X5_tollToDock_X5 rfl 5 (by decide) fl_X5_tollToDock_19 rfl dX5_tollToDock_16 ?_
    refine v_iconst (v := 0) hC dX5_tollToDock_19 (by decide) ?_
    refine v_callSv (As := [rf Λ 205, .int 0, rf Λ 208, .int 0]) (rest := []) hC 4 (c_X5_copies Λ (CC Λ X Y) (a := 0) (c := 0) (f := (yn Y)) (g := (yt Y)) (cc_205 Λ X Y) (cc_208 Λ X Y) (by decide) (nR_of (by decide)) (nR_of (by decide)) (by omega) (by omega) (by decide) (by decide)) gX5_tollToDock_X5_copies rfl rfl rfl hd_X5_copies ⟨by decide, by decide⟩ rfl rfl (Nat.le_of_ble_eq_true rfl) dX5_tollToDock_20 ?_
    refine v_mem (cs_yt Λ X Y (cpyK (yn Y) (yt Y) 0 0 451)) ?_
    refine v_congr (C' := CC Λ X (ytS Y (yn Y))) (cg_y (Λ := Λ) (X := X) (Y := Y) (f := (cpyK (yn Y) (yt Y) 0 0 451)) (f' := (yn Y)) cp_0).2.1 ?_
    refine v_aload_n hC dX5_tollToDock_23 0 rfl ?_
    refine v_iload_n hC dX5_tollToDock_24 1 rfl ?_
    refine v_callVr (v := .int (ofN (dkN k 9 (layN (yn Y) k 1 0) 0).1 k 2 - ofN (yn Y) k 2)) (C2 := CC Λ X (yoS (ynS (ytS Y (yn Y)) ((dkN k 9 (layN (yn Y) k 1 0) 0).1)) ((dkN k 9 (layN (yn Y) k 1 0) 0).2))) (As := [.int (nI k)]) (rest := []) hC 1 204 (c_X5_docks Λ X (ytS Y (yn Y)) (s := k) (by omega)) (nR_of (by decide)) (cc_204 Λ X (ytS Y (yn Y))) rfl gX5_tollToDock_X5_docks rfl rfl rfl hd_X5_docks ⟨by decide, by decide⟩ rfl rfl (Nat.le_of_ble_eq_true rfl) dX5_tollToDock_25 ?_
    refine v_istore_n (lv' := [(2, .int (ofN (dkN k 9 (layN (yn Y) k 1 0) 0).1 k 2 - ofN (yn Y) k 2)), (0, rf Λ 204), (1, .int (nI k))]) hC dX5_tollToDock_28 (by decide) rfl ?_
    refine v_aload_n hC dX5_tollToDock_29 1 rfl ?_
    refine v_get (T := TX5) (N := 13) (v := rf Λ 208) hC 204 (nR_of (by decide)) (cc_204 Λ X (yoS (ynS (ytS Y (yn Y)) ((dkN k 9 (layN (yn Y) k 1 0) 0).1)) ((dkN k 9 (layN (yn Y) k 1 0) 0).2))) in_X5_tollToDock_X5 rfl 5 (by decide) fl_X5_tollToDock_19 rfl dX5_tollToDock_30 ?_
    refine v_iconst (v := 0) hC dX5_tollToDock_33 (by decide) ?_
    refine v_aload_n hC dX5_tollToDock_34 1 rfl ?_
    refine v_get (T := TX5) (N := 13) (v := rf Λ 205) hC 204 (nR_of (by decide)) (cc_204 Λ X (yoS (ynS (ytS Y (yn Y)) ((dkN k 9 (layN (yn Y) k 1 0) 0).1)) ((dkN k 9 (layN (yn Y) k 1 0) 0).2))) in_X5_tollToDock_X5 rfl 0 (by decide) fl_X5_tollToDock_7 rfl dX5_tollToDock_35 ?_
    refine v_iconst (v := 0) hC dX5_tollToDock_38 (by decide) ?_
    refine v_callSv (As := [rf Λ 208, .int 0, rf Λ 205, .int 0]) (rest := []) hC 4 (c_X5_copies Λ (CC Λ X (yoS (ynS (ytS Y (yn Y)) ((dkN k 9 (layN (yn Y) k 1 0) 0).1)) ((dkN k 9 (layN (yn Y) k 1 0) 0).2))) (a := 0) (c := 0) (f := (yn Y)) (g := ((dkN k 9 (layN (yn Y) k 1 0) 0).1)) (cc_208 Λ X (yoS (ynS (ytS Y (yn Y)) ((dkN k 9 (layN (yn Y) k 1 0) 0).1)) ((dkN k 9 (layN (yn Y) k 1 0) 0).2))) (cc_205 Λ X (yoS (ynS (ytS Y (yn Y)) ((dkN k 9 (layN (yn Y) k 1 0) 0).1)) ((dkN k 9 (layN (yn Y) k 1 0) 0).2))) (by decide) (nR_of (by decide)) (nR_of (by decide)) (by omega) (by omega) (by decide) (by decide)) gX5_tollToDock_X5_copies rfl rfl rfl hd_X5_copies ⟨by decide, by decide⟩ rfl rfl (Nat.le_of_ble_eq_true rfl) dX5_tollToDock_39 ?_
    refine v_mem (cs_yn Λ X (yoS (ynS (ytS Y (yn Y)) ((dkN k 9 (layN (yn Y) k 1 0) 0).1)) ((dkN k 9 (layN (yn Y) k 1 0) 0).2)) (cpyK (yn Y) ((dkN k 9 (layN (yn Y) k 1 0) 0).1) 0 0 451)) ?_
    refine v_congr (C' := CC Λ X (ynS (yoS (ynS (ytS Y (yn Y)) ((dkN k 9 (layN (yn Y) k 1 0) 0).1)) ((dkN k 9 (layN (yn Y) k 1 0) 0).2)) (yn Y))) (cg_y (Λ := Λ) (X := X) (Y := (yoS (ynS (ytS Y (yn Y)) ((dkN k 9 (layN (yn Y) k 1 0) 0).1)) ((dkN k 9 (layN (yn Y) k 1 0) 0).2))) (f := (cpyK (yn Y) ((dkN k 9 (layN (yn Y) k 1 0) 0).1) 0 0 451)) (f' := (yn Y)) cp_0).1 ?_
    refine v_iload_n hC dX5_tollToDock_42 0 rfl ?_
    have e : tollP Y (nI k) = (ofN (dkN k 9 (layN (yn Y) k 1 0) 0).1 k 2 - ofN (yn Y) k 2, (ynS (yoS (ynS (ytS Y (yn Y)) ((dkN k 9 (layN (yn Y) k 1 0) 0).1)) ((dkN k 9 (layN (yn Y) k 1 0) 0).2)) (yn Y))) := by simp [tollP, dockR, c5, hik]
    exact v_iretP hC hR e dX5_tollToDock_43
  · skip
    refine v_iconst (v := (-1)) hC dX5_tollToDock_8 (by decide) ?_
    have e : tollP Y s = ((-1), Y) := by simp [tollP, dockR, c5]
    exact v_iretP hC hR e dX5_tollToDock_9

theorem in_X5_add_X5 : ∀ w ∈ wsX50, w ∈ wsX5_add := by decide +kernel
theorem fl_X5_add_7 : Cond.fieldLink RX5 7 "BoatSetsModel" "now" "[I" ∈ wsX5_add := by decide +kernel
theorem fl_X5_add_19 : Cond.fieldLink RX5 19 "BoatSetsModel" "trial" "[I" ∈ wsX5_add := by decide +kernel
theorem hd_X5_add : yX5_add.cls = RX5 ∧ yX5_add.cls ≠ "java/lang/invoke/MethodHandle" ∧ yX5_add.cls ≠ "java/lang/invoke/VarHandle" ∧ (parseMethodDescriptor yX5_add.desc).map (fun d => d.parameters.length) = some 2 := by decide +kernel
set_option maxHeartbeats 400000 in
set_option maxRecDepth 100000 in
theorem c_X5_add (Λ : Lk) (X : XS) (Y : YS) {s : Int32} {n : Int32} {ns : Nat} {p : Nat} (h0 : yn Y 0 = nI ns) (hns : ns ≤ 6) (hz : yz Y = nI p) (hp : p ≤ 4) : Con Λ yX5_add wsX5_add { frames := 7, cells := 0, slots := 0, locals := 160 } [rf Λ 204, .int s, .int n] (CC Λ X Y) (some (.int ((addP Y p s n).1))) (CC Λ X ((addP Y p s n).2)) := by
  refine con_start (cc := cX5_add) (maxL := 3) (ret := (some .int)) (by decide) rfl (Nat.le_of_ble_eq_true rfl) ?_
  intro κ hC hR
  have hC : Ok Λ { frames := 7, cells := 0, slots := 0, locals := 160 } cX5_add wsX5_add RX5 3 κ := hC
  refine v_args (lv' := [(0, rf Λ 204), (1, .int s), (2, .int n)]) rfl ?_
  refine v_aload_n hC dX5_add_0 0 rfl ?_
  refine v_iload_n hC dX5_add_1 1 rfl ?_
  refine v_callVr (v := .int (bI (isSBm (yn Y) s))) (C2 := CC Λ X Y) (As := [.int s]) (rest := []) hC 1 204 (c_X5_isSet Λ X Y (s := s)) (nR_of (by decide)) (cc_204 Λ X Y) rfl gX5_add_X5_isSet rfl rfl rfl hd_X5_isSet ⟨by decide, by decide⟩ rfl rfl (Nat.le_of_ble_eq_true rfl) dX5_add_2 ?_
  refine v_bne (b := isSBm (yn Y) s) (tgt := 10) hC dX5_add_5 (by decide) (fun c5 => ?_) (fun c5 => ?_)
  · skip
    obtain ⟨k, hk, rfl⟩ := isS_of h0 hns c5
    have hik : ix (nI k) = k := ix_nI (by omega)
    refine v_iload_n hC dX5_add_10 2 rfl ?_
    refine v_callSr (v := .int (bI (inB n 0 2047))) (C2 := CC Λ X Y) (As := [.int n]) (rest := []) hC 1 (c_X5_isNumber Λ X Y (v := n)) gX5_add_X5_isNumber rfl rfl rfl hd_X5_isNumber ⟨by decide, by decide⟩ rfl rfl (Nat.le_of_ble_eq_true rfl) dX5_add_11 ?_
    refine v_bne (b := inB n 0 2047) (tgt := 20) hC dX5_add_14 (by decide) (fun c14 => ?_) (fun c14 => ?_)
    · skip
      obtain ⟨q, hq, rfl⟩ := isN_of c14
      have hiq : ix (nI q) = q := ix_nI (by omega)
      refine v_aload_n hC dX5_add_20 0 rfl ?_
      refine v_iload_n hC dX5_add_21 1 rfl ?_
      refine v_iload_n hC dX5_add_22 2 rfl ?_
      refine v_callVr (v := .int (bI (mb (yn Y) k q))) (C2 := CC Λ X Y) (As := [.int (nI k), .int (nI q)]) (rest := []) hC 2 204 (c_X5_isIn Λ X Y (s := k) (n := q) (by omega) (by omega)) (nR_of (by decide)) (cc_204 Λ X Y) rfl gX5_add_X5_isIn rfl rfl rfl hd_X5_isIn ⟨by decide, by decide⟩ rfl rfl (Nat.le_of_ble_eq_true rfl) dX5_add_23 ?_
      refine v_beq (b := mb (yn Y) k q) (tgt := 32) hC dX5_add_26 (by decide) (fun c26 => ?_) (fun c26 => ?_)
      · skip
        refine v_aload_n hC dX5_add_32 0 rfl ?_
        refine v_get (T := TX5) (N := 13) (v := rf Λ 205) hC 204 (nR_of (by decide)) (cc_204 Λ X Y) in_X5_add_X5 rfl 0 (by decide) fl_X5_add_7 rfl dX5_add_33 ?_
        refine v_iconst (v := 0) hC dX5_add_36 (by decide) ?_
        refine v_aload_n hC dX5_add_37 0 rfl ?_
        refine v_get (T := TX5) (N := 13) (v := rf Λ 208) hC 204 (nR_of (by decide)) (cc_204 Λ X Y) in_X5_add_X5 rfl 5 (by decide) fl_X5_add_19 rfl dX5_add_38 ?_
        refine v_iconst (v := 0) hC dX5_add_41 (by decide) ?_
        refine v_callSv (As := [rf Λ 205, .int 0, rf Λ 208, .int 0]) (rest := []) hC 4 (c_X5_copies Λ (CC Λ X Y) (a := 0) (c := 0) (f := (yn Y)) (g := (yt Y)) (cc_205 Λ X Y) (cc_208 Λ X Y) (by decide) (nR_of (by decide)) (nR_of (by decide)) (by omega) (by omega) (by decide) (by decide)) gX5_add_X5_copies rfl rfl rfl hd_X5_copies ⟨by decide, by decide⟩ rfl rfl (Nat.le_of_ble_eq_true rfl) dX5_add_42 ?_
        refine v_mem (cs_yt Λ X Y (cpyK (yn Y) (yt Y) 0 0 451)) ?_
        refine v_congr (C' := CC Λ X (ytS Y (yn Y))) (cg_y (Λ := Λ) (X := X) (Y := Y) (f := (cpyK (yn Y) (yt Y) 0 0 451)) (f' := (yn Y)) cp_0).2.1 ?_
        refine v_aload_n hC dX5_add_45 0 rfl ?_
        refine v_iload_n hC dX5_add_46 1 rfl ?_
        refine v_iload_n hC dX5_add_47 2 rfl ?_
        refine v_iconst (v := 1) hC dX5_add_48 (by decide) ?_
        refine v_callVr (v := .int (bI ((goesN (yn Y) k q true).2))) (C2 := CC Λ X (ynS (ytS Y (yn Y)) ((goesN (yn Y) k q true).1))) (As := [.int (nI k), .int (nI q), .int 1]) (rest := []) hC 3 204 (c_X5_goes Λ X (ytS Y (yn Y)) (s := k) (n := q) (comes := true) (by omega) (by omega)) (nR_of (by decide)) (cc_204 Λ X (ytS Y (yn Y))) rfl gX5_add_X5_goes rfl rfl rfl hd_X5_goes ⟨by decide, by decide⟩ rfl rfl (Nat.le_of_ble_eq_true rfl) dX5_add_49 ?_
        refine v_bne (b := (goesN (yn Y) k q true).2) (tgt := 71) hC dX5_add_52 (by decide) (fun c52 => ?_) (fun c52 => ?_)
        · skip
          refine v_aload_n hC dX5_add_71 0 rfl ?_
          refine v_aload_n hC dX5_add_72 0 rfl ?_
          refine v_get (T := TX5) (N := 13) (v := rf Λ 208) hC 204 (nR_of (by decide)) (cc_204 Λ X (ynS (ytS Y (yn Y)) ((goesN (yn Y) k q true).1))) in_X5_add_X5 rfl 5 (by decide) fl_X5_add_19 rfl dX5_add_73 ?_
          refine v_callVv (C2 := CC Λ X (yzS (ypS (ynS (ytS Y (yn Y)) ((goesN (yn Y) k q true).1)) (pushN (yp Y) (yn Y) p)) (nI (pushZ p)))) (As := [rf Λ 208]) (rest := []) hC 1 204 (c_X5_records_t Λ X (ynS (ytS Y (yn Y)) ((goesN (yn Y) k q true).1)) (p := p) hz (by omega)) (nR_of (by decide)) (cc_204 Λ X (ynS (ytS Y (yn Y)) ((goesN (yn Y) k q true).1))) rfl gX5_add_X5_records rfl rfl rfl hd_X5_records ⟨by decide, by decide⟩ rfl rfl (Nat.le_of_ble_eq_true rfl) dX5_add_76 ?_
          refine v_aload_n hC dX5_add_79 0 rfl ?_
          refine v_iload_n hC dX5_add_80 1 rfl ?_
          refine v_iload_n hC dX5_add_81 2 rfl ?_
          refine v_sipush (v := 256) hC dX5_add_82 (by decide) ?_
          refine v_idiv (x := nI q) (y := 256) hC dX5_add_85 (by decide) ?_
          refine v_topi (y := nI (q / 256)) (pk_div (a := q) (d := 256) (by omega) (by decide) (by decide)) ?_
          refine v_callVr (v := .int (kindN ((goesN (yn Y) k q true).1) k (q / 256))) (C2 := CC Λ X (yzS (ypS (ynS (ytS Y (yn Y)) ((goesN (yn Y) k q true).1)) (pushN (yp Y) (yn Y) p)) (nI (pushZ p)))) (As := [.int (nI k), .int (nI (q / 256))]) (rest := []) hC 2 204 (c_X5_kindOf Λ X (yzS (ypS (ynS (ytS Y (yn Y)) ((goesN (yn Y) k q true).1)) (pushN (yp Y) (yn Y) p)) (nI (pushZ p))) (s := k) (b := q / 256) (by omega) (by omega)) (nR_of (by decide)) (cc_204 Λ X (yzS (ypS (ynS (ytS Y (yn Y)) ((goesN (yn Y) k q true).1)) (pushN (yp Y) (yn Y) p)) (nI (pushZ p)))) rfl gX5_add_X5_kindOf rfl rfl rfl hd_X5_kindOf ⟨by decide, by decide⟩ rfl rfl (Nat.le_of_ble_eq_true rfl) dX5_add_86 ?_
          have e : addP Y p (nI k) (nI q) = (kindN ((goesN (yn Y) k q true).1) k (q / 256), (yzS (ypS (ynS (ytS Y (yn Y)) ((goesN (yn Y) k q true).1)) (pushN (yp Y) (yn Y) p)) (nI (pushZ p)))) := by simp [addP, recM, c5, hik, c14, hiq, c26, c52]
          exact v_iretP hC hR e dX5_add_89
        · skip
          refine v_aload_n hC dX5_add_55 0 rfl ?_
          refine v_get (T := TX5) (N := 13) (v := rf Λ 208) hC 204 (nR_of (by decide)) (cc_204 Λ X (ynS (ytS Y (yn Y)) ((goesN (yn Y) k q true).1))) in_X5_add_X5 rfl 5 (by decide) fl_X5_add_19 rfl dX5_add_56 ?_
          refine v_iconst (v := 0) hC dX5_add_59 (by decide) ?_
          refine v_aload_n hC dX5_add_60 0 rfl ?_
          refine v_get (T := TX5) (N := 13) (v := rf Λ 205) hC 204 (nR_of (by decide)) (cc_204 Λ X (ynS (ytS Y (yn Y)) ((goesN (yn Y) k q true).1))) in_X5_add_X5 rfl 0 (by decide) fl_X5_add_7 rfl dX5_add_61 ?_
          refine v_iconst (v := 0) hC dX5_add_64 (by decide) ?_
          refine v_callSv (As := [rf Λ 208, .int 0, rf Λ 205, .int 0]) (rest := []) hC 4 (c_X5_copies Λ (CC Λ X (ynS (ytS Y (yn Y)) ((goesN (yn Y) k q true).1))) (a := 0) (c := 0) (f := (yn Y)) (g := ((goesN (yn Y) k q true).1)) (cc_208 Λ X (ynS (ytS Y (yn Y)) ((goesN (yn Y) k q true).1))) (cc_205 Λ X (ynS (ytS Y (yn Y)) ((goesN (yn Y) k q true).1))) (by decide) (nR_of (by decide)) (nR_of (by decide)) (by omega) (by omega) (by decide) (by decide)) gX5_add_X5_copies rfl rfl rfl hd_X5_copies ⟨by decide, by decide⟩ rfl rfl (Nat.le_of_ble_eq_true rfl) dX5_add_65 ?_
          refine v_mem (cs_yn Λ X (ynS (ytS Y (yn Y)) ((goesN (yn Y) k q true).1)) (cpyK (yn Y) ((goesN (yn Y) k q true).1) 0 0 451)) ?_
          refine v_congr (C' := CC Λ X (ynS (ynS (ytS Y (yn Y)) ((goesN (yn Y) k q true).1)) (yn Y))) (cg_y (Λ := Λ) (X := X) (Y := (ynS (ytS Y (yn Y)) ((goesN (yn Y) k q true).1))) (f := (cpyK (yn Y) ((goesN (yn Y) k q true).1) 0 0 451)) (f' := (yn Y)) cp_0).1 ?_
          refine v_bipush (v := (-3)) hC dX5_add_68 (by decide) ?_
          have e : addP Y p (nI k) (nI q) = ((-3), (ynS (ynS (ytS Y (yn Y)) ((goesN (yn Y) k q true).1)) (yn Y))) := by simp [addP, recM, c5, hik, c14, hiq, c26, c52]
          exact v_iretP hC hR e dX5_add_70
      · skip
        refine v_bipush (v := (-5)) hC dX5_add_29 (by decide) ?_
        have e : addP Y p (nI k) (nI q) = ((-5), Y) := by simp [addP, recM, c5, hik, c14, hiq, c26]
        exact v_iretP hC hR e dX5_add_31
    · skip
      refine v_bipush (v := (-2)) hC dX5_add_17 (by decide) ?_
      have e : addP Y p (nI k) n = ((-2), Y) := by simp [addP, recM, c5, hik, c14]
      exact v_iretP hC hR e dX5_add_19
  · skip
    refine v_iconst (v := (-1)) hC dX5_add_8 (by decide) ?_
    have e : addP Y p s n = ((-1), Y) := by simp [addP, recM, c5]
    exact v_iretP hC hR e dX5_add_9

theorem in_X5_remove_X5 : ∀ w ∈ wsX50, w ∈ wsX5_remove := by decide +kernel
theorem fl_X5_remove_7 : Cond.fieldLink RX5 7 "BoatSetsModel" "now" "[I" ∈ wsX5_remove := by decide +kernel
theorem fl_X5_remove_19 : Cond.fieldLink RX5 19 "BoatSetsModel" "trial" "[I" ∈ wsX5_remove := by decide +kernel
theorem hd_X5_remove : yX5_remove.cls = RX5 ∧ yX5_remove.cls ≠ "java/lang/invoke/MethodHandle" ∧ yX5_remove.cls ≠ "java/lang/invoke/VarHandle" ∧ (parseMethodDescriptor yX5_remove.desc).map (fun d => d.parameters.length) = some 2 := by decide +kernel
set_option maxHeartbeats 400000 in
set_option maxRecDepth 100000 in
theorem c_X5_remove (Λ : Lk) (X : XS) (Y : YS) {s : Int32} {n : Int32} {ns : Nat} {p : Nat} (h0 : yn Y 0 = nI ns) (hns : ns ≤ 6) (hz : yz Y = nI p) (hp : p ≤ 4) : Con Λ yX5_remove wsX5_remove { frames := 7, cells := 0, slots := 0, locals := 160 } [rf Λ 204, .int s, .int n] (CC Λ X Y) (some (.int ((remP Y p s n).1))) (CC Λ X ((remP Y p s n).2)) := by
  refine con_start (cc := cX5_remove) (maxL := 3) (ret := (some .int)) (by decide) rfl (Nat.le_of_ble_eq_true rfl) ?_
  intro κ hC hR
  have hC : Ok Λ { frames := 7, cells := 0, slots := 0, locals := 160 } cX5_remove wsX5_remove RX5 3 κ := hC
  refine v_args (lv' := [(0, rf Λ 204), (1, .int s), (2, .int n)]) rfl ?_
  refine v_aload_n hC dX5_remove_0 0 rfl ?_
  refine v_iload_n hC dX5_remove_1 1 rfl ?_
  refine v_callVr (v := .int (bI (isSBm (yn Y) s))) (C2 := CC Λ X Y) (As := [.int s]) (rest := []) hC 1 204 (c_X5_isSet Λ X Y (s := s)) (nR_of (by decide)) (cc_204 Λ X Y) rfl gX5_remove_X5_isSet rfl rfl rfl hd_X5_isSet ⟨by decide, by decide⟩ rfl rfl (Nat.le_of_ble_eq_true rfl) dX5_remove_2 ?_
  refine v_bne (b := isSBm (yn Y) s) (tgt := 10) hC dX5_remove_5 (by decide) (fun c5 => ?_) (fun c5 => ?_)
  · skip
    obtain ⟨k, hk, rfl⟩ := isS_of h0 hns c5
    have hik : ix (nI k) = k := ix_nI (by omega)
    refine v_iload_n hC dX5_remove_10 2 rfl ?_
    refine v_callSr (v := .int (bI (inB n 0 2047))) (C2 := CC Λ X Y) (As := [.int n]) (rest := []) hC 1 (c_X5_isNumber Λ X Y (v := n)) gX5_remove_X5_isNumber rfl rfl rfl hd_X5_isNumber ⟨by decide, by decide⟩ rfl rfl (Nat.le_of_ble_eq_true rfl) dX5_remove_11 ?_
    refine v_bne (b := inB n 0 2047) (tgt := 20) hC dX5_remove_14 (by decide) (fun c14 => ?_) (fun c14 => ?_)
    · skip
      obtain ⟨q, hq, rfl⟩ := isN_of c14
      have hiq : ix (nI q) = q := ix_nI (by omega)
      refine v_aload_n hC dX5_remove_20 0 rfl ?_
      refine v_iload_n hC dX5_remove_21 1 rfl ?_
      refine v_iload_n hC dX5_remove_22 2 rfl ?_
      refine v_callVr (v := .int (bI (mb (yn Y) k q))) (C2 := CC Λ X Y) (As := [.int (nI k), .int (nI q)]) (rest := []) hC 2 204 (c_X5_isIn Λ X Y (s := k) (n := q) (by omega) (by omega)) (nR_of (by decide)) (cc_204 Λ X Y) rfl gX5_remove_X5_isIn rfl rfl rfl hd_X5_isIn ⟨by decide, by decide⟩ rfl rfl (Nat.le_of_ble_eq_true rfl) dX5_remove_23 ?_
      refine v_bne (b := mb (yn Y) k q) (tgt := 32) hC dX5_remove_26 (by decide) (fun c26 => ?_) (fun c26 => ?_)
      · skip
        refine v_aload_n hC dX5_remove_32 0 rfl ?_
        refine v_get (T := TX5) (N := 13) (v := rf Λ 205) hC 204 (nR_of (by decide)) (cc_204 Λ X Y) in_X5_remove_X5 rfl 0 (by decide) fl_X5_remove_7 rfl dX5_remove_33 ?_
        refine v_iconst (v := 0) hC dX5_remove_36 (by decide) ?_
        refine v_aload_n hC dX5_remove_37 0 rfl ?_
        refine v_get (T := TX5) (N := 13) (v := rf Λ 208) hC 204 (nR_of (by decide)) (cc_204 Λ X Y) in_X5_remove_X5 rfl 5 (by decide) fl_X5_remove_19 rfl dX5_remove_38 ?_
        refine v_iconst (v := 0) hC dX5_remove_41 (by decide) ?_
        refine v_callSv (As := [rf Λ 205, .int 0, rf Λ 208, .int 0]) (rest := []) hC 4 (c_X5_copies Λ (CC Λ X Y) (a := 0) (c := 0) (f := (yn Y)) (g := (yt Y)) (cc_205 Λ X Y) (cc_208 Λ X Y) (by decide) (nR_of (by decide)) (nR_of (by decide)) (by omega) (by omega) (by decide) (by decide)) gX5_remove_X5_copies rfl rfl rfl hd_X5_copies ⟨by decide, by decide⟩ rfl rfl (Nat.le_of_ble_eq_true rfl) dX5_remove_42 ?_
        refine v_mem (cs_yt Λ X Y (cpyK (yn Y) (yt Y) 0 0 451)) ?_
        refine v_congr (C' := CC Λ X (ytS Y (yn Y))) (cg_y (Λ := Λ) (X := X) (Y := Y) (f := (cpyK (yn Y) (yt Y) 0 0 451)) (f' := (yn Y)) cp_0).2.1 ?_
        refine v_aload_n hC dX5_remove_45 0 rfl ?_
        refine v_iload_n hC dX5_remove_46 1 rfl ?_
        refine v_iload_n hC dX5_remove_47 2 rfl ?_
        refine v_iconst (v := 0) hC dX5_remove_48 (by decide) ?_
        refine v_callVr (v := .int (bI ((goesN (yn Y) k q false).2))) (C2 := CC Λ X (ynS (ytS Y (yn Y)) ((goesN (yn Y) k q false).1))) (As := [.int (nI k), .int (nI q), .int 0]) (rest := []) hC 3 204 (c_X5_goes Λ X (ytS Y (yn Y)) (s := k) (n := q) (comes := false) (by omega) (by omega)) (nR_of (by decide)) (cc_204 Λ X (ytS Y (yn Y))) rfl gX5_remove_X5_goes rfl rfl rfl hd_X5_goes ⟨by decide, by decide⟩ rfl rfl (Nat.le_of_ble_eq_true rfl) dX5_remove_49 ?_
        refine v_bne (b := (goesN (yn Y) k q false).2) (tgt := 71) hC dX5_remove_52 (by decide) (fun c52 => ?_) (fun c52 => ?_)
        · skip
          refine v_aload_n hC dX5_remove_71 0 rfl ?_
          refine v_aload_n hC dX5_remove_72 0 rfl ?_
          refine v_get (T := TX5) (N := 13) (v := rf Λ 208) hC 204 (nR_of (by decide)) (cc_204 Λ X (ynS (ytS Y (yn Y)) ((goesN (yn Y) k q false).1))) in_X5_remove_X5 rfl 5 (by decide) fl_X5_remove_19 rfl dX5_remove_73 ?_
          refine v_callVv (C2 := CC Λ X (yzS (ypS (ynS (ytS Y (yn Y)) ((goesN (yn Y) k q false).1)) (pushN (yp Y) (yn Y) p)) (nI (pushZ p)))) (As := [rf Λ 208]) (rest := []) hC 1 204 (c_X5_records_t Λ X (ynS (ytS Y (yn Y)) ((goesN (yn Y) k q false).1)) (p := p) hz (by omega)) (nR_of (by decide)) (cc_204 Λ X (ynS (ytS Y (yn Y)) ((goesN (yn Y) k q false).1))) rfl gX5_remove_X5_records rfl rfl rfl hd_X5_records ⟨by decide, by decide⟩ rfl rfl (Nat.le_of_ble_eq_true rfl) dX5_remove_76 ?_
          refine v_aload_n hC dX5_remove_79 0 rfl ?_
          refine v_iload_n hC dX5_remove_80 1 rfl ?_
          refine v_iload_n hC dX5_remove_81 2 rfl ?_
          refine v_sipush (v := 256) hC dX5_remove_82 (by decide) ?_
          refine v_idiv (x := nI q) (y := 256) hC dX5_remove_85 (by decide) ?_
          refine v_topi (y := nI (q / 256)) (pk_div (a := q) (d := 256) (by omega) (by decide) (by decide)) ?_
          refine v_callVr (v := .int (nI (manyN ((goesN (yn Y) k q false).1) k (q / 256)))) (C2 := CC Λ X (yzS (ypS (ynS (ytS Y (yn Y)) ((goesN (yn Y) k q false).1)) (pushN (yp Y) (yn Y) p)) (nI (pushZ p)))) (As := [.int (nI k), .int (nI (q / 256))]) (rest := []) hC 2 204 (c_X5_manyIn Λ X (yzS (ypS (ynS (ytS Y (yn Y)) ((goesN (yn Y) k q false).1)) (pushN (yp Y) (yn Y) p)) (nI (pushZ p))) (s := k) (b := q / 256) (by omega) (by omega)) (nR_of (by decide)) (cc_204 Λ X (yzS (ypS (ynS (ytS Y (yn Y)) ((goesN (yn Y) k q false).1)) (pushN (yp Y) (yn Y) p)) (nI (pushZ p)))) rfl gX5_remove_X5_manyIn rfl rfl rfl hd_X5_manyIn ⟨by decide, by decide⟩ rfl rfl (Nat.le_of_ble_eq_true rfl) dX5_remove_86 ?_
          have hm86 := manyN_le ((goesN (yn Y) k q false).1) k (q / 256)
          have e : remP Y p (nI k) (nI q) = (nI (manyN ((goesN (yn Y) k q false).1) k (q / 256)), (yzS (ypS (ynS (ytS Y (yn Y)) ((goesN (yn Y) k q false).1)) (pushN (yp Y) (yn Y) p)) (nI (pushZ p)))) := by simp [remP, recM, c5, hik, c14, hiq, c26, c52]
          exact v_iretP hC hR e dX5_remove_89
        · skip
          refine v_aload_n hC dX5_remove_55 0 rfl ?_
          refine v_get (T := TX5) (N := 13) (v := rf Λ 208) hC 204 (nR_of (by decide)) (cc_204 Λ X (ynS (ytS Y (yn Y)) ((goesN (yn Y) k q false).1))) in_X5_remove_X5 rfl 5 (by decide) fl_X5_remove_19 rfl dX5_remove_56 ?_
          refine v_iconst (v := 0) hC dX5_remove_59 (by decide) ?_
          refine v_aload_n hC dX5_remove_60 0 rfl ?_
          refine v_get (T := TX5) (N := 13) (v := rf Λ 205) hC 204 (nR_of (by decide)) (cc_204 Λ X (ynS (ytS Y (yn Y)) ((goesN (yn Y) k q false).1))) in_X5_remove_X5 rfl 0 (by decide) fl_X5_remove_7 rfl dX5_remove_61 ?_
          refine v_iconst (v := 0) hC dX5_remove_64 (by decide) ?_
          refine v_callSv (As := [rf Λ 208, .int 0, rf Λ 205, .int 0]) (rest := []) hC 4 (c_X5_copies Λ (CC Λ X (ynS (ytS Y (yn Y)) ((goesN (yn Y) k q false).1))) (a := 0) (c := 0) (f := (yn Y)) (g := ((goesN (yn Y) k q false).1)) (cc_208 Λ X (ynS (ytS Y (yn Y)) ((goesN (yn Y) k q false).1))) (cc_205 Λ X (ynS (ytS Y (yn Y)) ((goesN (yn Y) k q false).1))) (by decide) (nR_of (by decide)) (nR_of (by decide)) (by omega) (by omega) (by decide) (by decide)) gX5_remove_X5_copies rfl rfl rfl hd_X5_copies ⟨by decide, by decide⟩ rfl rfl (Nat.le_of_ble_eq_true rfl) dX5_remove_65 ?_
          refine v_mem (cs_yn Λ X (ynS (ytS Y (yn Y)) ((goesN (yn Y) k q false).1)) (cpyK (yn Y) ((goesN (yn Y) k q false).1) 0 0 451)) ?_
          refine v_congr (C' := CC Λ X (ynS (ynS (ytS Y (yn Y)) ((goesN (yn Y) k q false).1)) (yn Y))) (cg_y (Λ := Λ) (X := X) (Y := (ynS (ytS Y (yn Y)) ((goesN (yn Y) k q false).1))) (f := (cpyK (yn Y) ((goesN (yn Y) k q false).1) 0 0 451)) (f' := (yn Y)) cp_0).1 ?_
          refine v_bipush (v := (-3)) hC dX5_remove_68 (by decide) ?_
          have e : remP Y p (nI k) (nI q) = ((-3), (ynS (ynS (ytS Y (yn Y)) ((goesN (yn Y) k q false).1)) (yn Y))) := by simp [remP, recM, c5, hik, c14, hiq, c26, c52]
          exact v_iretP hC hR e dX5_remove_70
      · skip
        refine v_bipush (v := (-5)) hC dX5_remove_29 (by decide) ?_
        have e : remP Y p (nI k) (nI q) = ((-5), Y) := by simp [remP, recM, c5, hik, c14, hiq, c26]
        exact v_iretP hC hR e dX5_remove_31
    · skip
      refine v_bipush (v := (-2)) hC dX5_remove_17 (by decide) ?_
      have e : remP Y p (nI k) n = ((-2), Y) := by simp [remP, recM, c5, hik, c14]
      exact v_iretP hC hR e dX5_remove_19
  · skip
    refine v_iconst (v := (-1)) hC dX5_remove_8 (by decide) ?_
    have e : remP Y p s n = ((-1), Y) := by simp [remP, recM, c5]
    exact v_iretP hC hR e dX5_remove_9
