theorem in_X5_undo_X5 : ∀ w ∈ wsX50, w ∈ wsX5_undo := by decide +kernel
theorem fl_X5_undo_31 : Cond.fieldLink RX5 31 "BoatSetsModel" "pasts" "I" ∈ wsX5_undo := by decide +kernel
theorem fl_X5_undo_13 : Cond.fieldLink RX5 13 "BoatSetsModel" "past" "[I" ∈ wsX5_undo := by decide +kernel
theorem fl_X5_undo_7 : Cond.fieldLink RX5 7 "BoatSetsModel" "now" "[I" ∈ wsX5_undo := by decide +kernel
theorem hd_X5_undo : yX5_undo.cls = RX5 ∧ yX5_undo.cls ≠ "java/lang/invoke/MethodHandle" ∧ yX5_undo.cls ≠ "java/lang/invoke/VarHandle" ∧ (parseMethodDescriptor yX5_undo.desc).map (fun d => d.parameters.length) = some 0 := by decide +kernel
set_option maxHeartbeats 400000 in
set_option maxRecDepth 100000 in
theorem c_X5_undo (Λ : Lk) (X : XS) (Y : YS) {p : Nat} (hz : yz Y = nI p) (hp : p ≤ 4) : Con Λ yX5_undo wsX5_undo { frames := 1, cells := 0, slots := 0, locals := 24 } [rf Λ 204] (CC Λ X Y) (some (.int ((undoP Y p).1))) (CC Λ X ((undoP Y p).2)) := by
  refine con_start (cc := cX5_undo) (maxL := 1) (ret := (some .int)) (by decide) rfl (Nat.le_of_ble_eq_true rfl) ?_
  intro κ hC hR
  have hC : Ok Λ { frames := 1, cells := 0, slots := 0, locals := 24 } cX5_undo wsX5_undo RX5 1 κ := hC
  refine v_args (lv' := [(0, rf Λ 204)]) rfl ?_
  refine v_aload_n hC dX5_undo_0 0 rfl ?_
  refine v_get (T := TX5) (N := 13) (v := .int (yz Y)) hC 204 (nR_of (by decide)) (cc_204 Λ X Y) in_X5_undo_X5 rfl 2 (by decide) fl_X5_undo_31 rfl dX5_undo_1 ?_
  refine v_topi (y := nI p) hz ?_
  refine v_zne (a := p) (tgt := 10) hC dX5_undo_4 (by decide) rfl (by omega) (fun c4 => ?_) (fun c4 => ?_)
  · skip
    have hp1 : 1 ≤ p := by omega
    refine v_aload_n hC dX5_undo_10 0 rfl ?_
    refine v_dup hC dX5_undo_11 rfl ?_
    refine v_get (T := TX5) (N := 13) (v := .int (yz Y)) hC 204 (nR_of (by decide)) (cc_204 Λ X Y) in_X5_undo_X5 rfl 2 (by decide) fl_X5_undo_31 rfl dX5_undo_12 ?_
    refine v_topi (y := nI p) hz ?_
    refine v_iconst (v := 1) hC dX5_undo_15 (by decide) ?_
    refine v_isub (x := nI p) (y := 1) hC dX5_undo_16 ?_
    refine v_topi (y := nI (p - 1)) (pk_sub (a := p) (b := 1) (by omega)) ?_
    refine v_put (T := TX5) (N := 13) (v := .int (nI (p - 1))) (ty := .int) hC 204 (nR_of (by decide)) (cc_204 Λ X Y) in_X5_undo_X5 tyX5 tyX5_ok nmX5 rfl 2 (by decide) fl_X5_undo_31 rfl (by decide +kernel) rfl rfl (Nat.le_of_ble_eq_true rfl) dX5_undo_17 ?_
    refine v_mem (cs_yz Λ X Y (nI (p - 1))) ?_
    refine v_aload_n hC dX5_undo_20 0 rfl ?_
    refine v_get (T := TX5) (N := 13) (v := rf Λ 206) hC 204 (nR_of (by decide)) (cc_204 Λ X (yzS Y (nI (p - 1)))) in_X5_undo_X5 rfl 1 (by decide) fl_X5_undo_13 rfl dX5_undo_21 ?_
    refine v_aload_n hC dX5_undo_24 0 rfl ?_
    refine v_get (T := TX5) (N := 13) (v := .int (nI (p - 1))) hC 204 (nR_of (by decide)) (cc_204 Λ X (yzS Y (nI (p - 1)))) in_X5_undo_X5 rfl 2 (by decide) fl_X5_undo_31 rfl dX5_undo_25 ?_
    refine v_sipush (v := 451) hC dX5_undo_28 (by decide) ?_
    refine v_imul (x := nI (p - 1)) (y := 451) hC dX5_undo_31 ?_
    refine v_topi (y := nI ((p - 1) * 451)) (pk_mul (p - 1) 451) ?_
    refine v_aload_n hC dX5_undo_32 0 rfl ?_
    refine v_get (T := TX5) (N := 13) (v := rf Λ 205) hC 204 (nR_of (by decide)) (cc_204 Λ X (yzS Y (nI (p - 1)))) in_X5_undo_X5 rfl 0 (by decide) fl_X5_undo_7 rfl dX5_undo_33 ?_
    refine v_iconst (v := 0) hC dX5_undo_36 (by decide) ?_
    refine v_callSv (As := [rf Λ 206, .int (nI ((p - 1) * 451)), rf Λ 205, .int 0]) (rest := []) hC 4 (c_X5_copies Λ (CC Λ X (yzS Y (nI (p - 1)))) (a := (p - 1) * 451) (c := 0) (f := (yp Y)) (g := (yn Y)) (cc_206 Λ X (yzS Y (nI (p - 1)))) (cc_205 Λ X (yzS Y (nI (p - 1)))) (by decide) (nR_of (by decide)) (nR_of (by decide)) (by omega) (by omega) (by decide) (by decide)) gX5_undo_X5_copies rfl rfl rfl hd_X5_copies ⟨by decide, by decide⟩ rfl rfl (Nat.le_of_ble_eq_true rfl) dX5_undo_37 ?_
    refine v_mem (cs_yn Λ X (yzS Y (nI (p - 1))) (cpyK (yp Y) (yn Y) ((p - 1) * 451) 0 451)) ?_
    refine v_congr (C' := CC Λ X (ynS (yzS Y (nI (p - 1))) (fun j => (yp Y) ((p - 1) * 451 + j)))) (cg_y (Λ := Λ) (X := X) (Y := (yzS Y (nI (p - 1)))) (f := (cpyK (yp Y) (yn Y) ((p - 1) * 451) 0 451)) (f' := (fun j => (yp Y) ((p - 1) * 451 + j))) cp_a).1 ?_
    refine v_aload_n hC dX5_undo_40 0 rfl ?_
    refine v_get (T := TX5) (N := 13) (v := .int (nI (p - 1))) hC 204 (nR_of (by decide)) (cc_204 Λ X (ynS (yzS Y (nI (p - 1))) (fun j => (yp Y) ((p - 1) * 451 + j)))) in_X5_undo_X5 rfl 2 (by decide) fl_X5_undo_31 rfl dX5_undo_41 ?_
    have e : undoP Y p = (nI (p - 1), (ynS (yzS Y (nI (p - 1))) (fun j => (yp Y) ((p - 1) * 451 + j)))) := by simp [undoP, c4]
    exact v_iretP hC hR e dX5_undo_44
  · skip
    refine v_bipush (v := (-5)) hC dX5_undo_7 (by decide) ?_
    have e : undoP Y p = ((-5), Y) := by simp [undoP, c4]
    exact v_iretP hC hR e dX5_undo_9

theorem in_X5_keep_X5 : ∀ w ∈ wsX50, w ∈ wsX5_keep := by decide +kernel
theorem fl_X5_keep_7 : Cond.fieldLink RX5 7 "BoatSetsModel" "now" "[I" ∈ wsX5_keep := by decide +kernel
theorem fl_X5_keep_16 : Cond.fieldLink RX5 16 "BoatSetsModel" "kept" "[I" ∈ wsX5_keep := by decide +kernel
theorem fl_X5_keep_155 : Cond.fieldLink RX5 155 "BoatSetsModel" "isKept" "Z" ∈ wsX5_keep := by decide +kernel
theorem hd_X5_keep : yX5_keep.cls = RX5 ∧ yX5_keep.cls ≠ "java/lang/invoke/MethodHandle" ∧ yX5_keep.cls ≠ "java/lang/invoke/VarHandle" ∧ (parseMethodDescriptor yX5_keep.desc).map (fun d => d.parameters.length) = some 0 := by decide +kernel
set_option maxHeartbeats 400000 in
set_option maxRecDepth 100000 in
theorem c_X5_keep (Λ : Lk) (X : XS) (Y : YS) : Con Λ yX5_keep wsX5_keep { frames := 1, cells := 0, slots := 0, locals := 24 } [rf Λ 204] (CC Λ X Y) (some (.int ((keepP Y).1))) (CC Λ X ((keepP Y).2)) := by
  refine con_start (cc := cX5_keep) (maxL := 1) (ret := (some .int)) (by decide) rfl (Nat.le_of_ble_eq_true rfl) ?_
  intro κ hC hR
  have hC : Ok Λ { frames := 1, cells := 0, slots := 0, locals := 24 } cX5_keep wsX5_keep RX5 1 κ := hC
  refine v_args (lv' := [(0, rf Λ 204)]) rfl ?_
  refine v_aload_n hC dX5_keep_0 0 rfl ?_
  refine v_get (T := TX5) (N := 13) (v := rf Λ 205) hC 204 (nR_of (by decide)) (cc_204 Λ X Y) in_X5_keep_X5 rfl 0 (by decide) fl_X5_keep_7 rfl dX5_keep_1 ?_
  refine v_iconst (v := 0) hC dX5_keep_4 (by decide) ?_
  refine v_aload_n hC dX5_keep_5 0 rfl ?_
  refine v_get (T := TX5) (N := 13) (v := rf Λ 207) hC 204 (nR_of (by decide)) (cc_204 Λ X Y) in_X5_keep_X5 rfl 3 (by decide) fl_X5_keep_16 rfl dX5_keep_6 ?_
  refine v_iconst (v := 0) hC dX5_keep_9 (by decide) ?_
  refine v_callSv (As := [rf Λ 205, .int 0, rf Λ 207, .int 0]) (rest := []) hC 4 (c_X5_copies Λ (CC Λ X Y) (a := 0) (c := 0) (f := (yn Y)) (g := (yk Y)) (cc_205 Λ X Y) (cc_207 Λ X Y) (by decide) (nR_of (by decide)) (nR_of (by decide)) (by omega) (by omega) (by decide) (by decide)) gX5_keep_X5_copies rfl rfl rfl hd_X5_copies ⟨by decide, by decide⟩ rfl rfl (Nat.le_of_ble_eq_true rfl) dX5_keep_10 ?_
  refine v_mem (cs_yk Λ X Y (cpyK (yn Y) (yk Y) 0 0 451)) ?_
  refine v_congr (C' := CC Λ X (ykS Y (yn Y))) (cg_y (Λ := Λ) (X := X) (Y := Y) (f := (cpyK (yn Y) (yk Y) 0 0 451)) (f' := (yn Y)) cp_0).2.2 ?_
  refine v_aload_n hC dX5_keep_13 0 rfl ?_
  refine v_iconst (v := 1) hC dX5_keep_14 (by decide) ?_
  refine v_put (T := TX5) (N := 13) (v := .int 1) (ty := .boolean) hC 204 (nR_of (by decide)) (cc_204 Λ X (ykS Y (yn Y))) in_X5_keep_X5 tyX5 tyX5_ok nmX5 rfl 4 (by decide) fl_X5_keep_155 rfl (by decide +kernel) (by first | rfl | exact nar_b _) rfl (Nat.le_of_ble_eq_true rfl) dX5_keep_15 ?_
  refine v_mem (cs_yi Λ X (ykS Y (yn Y)) 1) ?_
  refine v_aload_n hC dX5_keep_18 0 rfl ?_
  refine v_get (T := TX5) (N := 13) (v := rf Λ 205) hC 204 (nR_of (by decide)) (cc_204 Λ X (yiS (ykS Y (yn Y)) 1)) in_X5_keep_X5 rfl 0 (by decide) fl_X5_keep_7 rfl dX5_keep_19 ?_
  refine v_iconst (v := 0) hC dX5_keep_22 (by decide) ?_
  refine v_iald (n := 451) (f := (yn Y)) hC 205 (nR_of (by decide)) (cc_205 Λ X (yiS (ykS Y (yn Y)) 1)) 0 rfl (by omega) (by decide) dX5_keep_23 ?_
  have e : keepP Y = ((yn Y) 0, (yiS (ykS Y (yn Y)) 1)) := by rfl
  exact v_iretP hC hR e dX5_keep_24

theorem in_X5_restore_X5 : ∀ w ∈ wsX50, w ∈ wsX5_restore := by decide +kernel
theorem fl_X5_restore_155 : Cond.fieldLink RX5 155 "BoatSetsModel" "isKept" "Z" ∈ wsX5_restore := by decide +kernel
theorem fl_X5_restore_7 : Cond.fieldLink RX5 7 "BoatSetsModel" "now" "[I" ∈ wsX5_restore := by decide +kernel
theorem fl_X5_restore_16 : Cond.fieldLink RX5 16 "BoatSetsModel" "kept" "[I" ∈ wsX5_restore := by decide +kernel
theorem hd_X5_restore : yX5_restore.cls = RX5 ∧ yX5_restore.cls ≠ "java/lang/invoke/MethodHandle" ∧ yX5_restore.cls ≠ "java/lang/invoke/VarHandle" ∧ (parseMethodDescriptor yX5_restore.desc).map (fun d => d.parameters.length) = some 0 := by decide +kernel
set_option maxHeartbeats 400000 in
set_option maxRecDepth 100000 in
theorem c_X5_restore (Λ : Lk) (X : XS) (Y : YS) {p : Nat} (hz : yz Y = nI p) (hp : p ≤ 4) : Con Λ yX5_restore wsX5_restore { frames := 2, cells := 0, slots := 0, locals := 46 } [rf Λ 204] (CC Λ X Y) (some (.int ((restP Y p).1))) (CC Λ X ((restP Y p).2)) := by
  refine con_start (cc := cX5_restore) (maxL := 1) (ret := (some .int)) (by decide) rfl (Nat.le_of_ble_eq_true rfl) ?_
  intro κ hC hR
  have hC : Ok Λ { frames := 2, cells := 0, slots := 0, locals := 46 } cX5_restore wsX5_restore RX5 1 κ := hC
  refine v_args (lv' := [(0, rf Λ 204)]) rfl ?_
  refine v_aload_n hC dX5_restore_0 0 rfl ?_
  refine v_get (T := TX5) (N := 13) (v := .int (yi Y)) hC 204 (nR_of (by decide)) (cc_204 Λ X Y) in_X5_restore_X5 rfl 4 (by decide) fl_X5_restore_155 rfl dX5_restore_1 ?_
  refine v_if_ne (tgt := 10) hC dX5_restore_4 (by decide) (fun c4 => ?_) (fun c4 => ?_)
  · skip
    refine v_aload_n hC dX5_restore_10 0 rfl ?_
    refine v_aload_n hC dX5_restore_11 0 rfl ?_
    refine v_get (T := TX5) (N := 13) (v := rf Λ 205) hC 204 (nR_of (by decide)) (cc_204 Λ X Y) in_X5_restore_X5 rfl 0 (by decide) fl_X5_restore_7 rfl dX5_restore_12 ?_
    refine v_callVv (C2 := CC Λ X (yzS (ypS Y (pushN (yp Y) (yn Y) p)) (nI (pushZ p)))) (As := [rf Λ 205]) (rest := []) hC 1 204 (c_X5_records_n Λ X Y (p := p) hz (by omega)) (nR_of (by decide)) (cc_204 Λ X Y) rfl gX5_restore_X5_records rfl rfl rfl hd_X5_records ⟨by decide, by decide⟩ rfl rfl (Nat.le_of_ble_eq_true rfl) dX5_restore_15 ?_
    refine v_aload_n hC dX5_restore_18 0 rfl ?_
    refine v_get (T := TX5) (N := 13) (v := rf Λ 207) hC 204 (nR_of (by decide)) (cc_204 Λ X (yzS (ypS Y (pushN (yp Y) (yn Y) p)) (nI (pushZ p)))) in_X5_restore_X5 rfl 3 (by decide) fl_X5_restore_16 rfl dX5_restore_19 ?_
    refine v_iconst (v := 0) hC dX5_restore_22 (by decide) ?_
    refine v_aload_n hC dX5_restore_23 0 rfl ?_
    refine v_get (T := TX5) (N := 13) (v := rf Λ 205) hC 204 (nR_of (by decide)) (cc_204 Λ X (yzS (ypS Y (pushN (yp Y) (yn Y) p)) (nI (pushZ p)))) in_X5_restore_X5 rfl 0 (by decide) fl_X5_restore_7 rfl dX5_restore_24 ?_
    refine v_iconst (v := 0) hC dX5_restore_27 (by decide) ?_
    refine v_callSv (As := [rf Λ 207, .int 0, rf Λ 205, .int 0]) (rest := []) hC 4 (c_X5_copies Λ (CC Λ X (yzS (ypS Y (pushN (yp Y) (yn Y) p)) (nI (pushZ p)))) (a := 0) (c := 0) (f := (yk Y)) (g := (yn Y)) (cc_207 Λ X (yzS (ypS Y (pushN (yp Y) (yn Y) p)) (nI (pushZ p)))) (cc_205 Λ X (yzS (ypS Y (pushN (yp Y) (yn Y) p)) (nI (pushZ p)))) (by decide) (nR_of (by decide)) (nR_of (by decide)) (by omega) (by omega) (by decide) (by decide)) gX5_restore_X5_copies rfl rfl rfl hd_X5_copies ⟨by decide, by decide⟩ rfl rfl (Nat.le_of_ble_eq_true rfl) dX5_restore_28 ?_
    refine v_mem (cs_yn Λ X (yzS (ypS Y (pushN (yp Y) (yn Y) p)) (nI (pushZ p))) (cpyK (yk Y) (yn Y) 0 0 451)) ?_
    refine v_congr (C' := CC Λ X (ynS (yzS (ypS Y (pushN (yp Y) (yn Y) p)) (nI (pushZ p))) (yk Y))) (cg_y (Λ := Λ) (X := X) (Y := (yzS (ypS Y (pushN (yp Y) (yn Y) p)) (nI (pushZ p)))) (f := (cpyK (yk Y) (yn Y) 0 0 451)) (f' := (yk Y)) cp_0).1 ?_
    refine v_aload_n hC dX5_restore_31 0 rfl ?_
    refine v_get (T := TX5) (N := 13) (v := rf Λ 205) hC 204 (nR_of (by decide)) (cc_204 Λ X (ynS (yzS (ypS Y (pushN (yp Y) (yn Y) p)) (nI (pushZ p))) (yk Y))) in_X5_restore_X5 rfl 0 (by decide) fl_X5_restore_7 rfl dX5_restore_32 ?_
    refine v_iconst (v := 0) hC dX5_restore_35 (by decide) ?_
    refine v_iald (n := 451) (f := (yk Y)) hC 205 (nR_of (by decide)) (cc_205 Λ X (ynS (yzS (ypS Y (pushN (yp Y) (yn Y) p)) (nI (pushZ p))) (yk Y))) 0 rfl (by omega) (by decide) dX5_restore_36 ?_
    have e : restP Y p = ((yk Y) 0, (ynS (yzS (ypS Y (pushN (yp Y) (yn Y) p)) (nI (pushZ p))) (yk Y))) := by simp [restP, recM, c4]
    exact v_iretP hC hR e dX5_restore_37
  · skip
    refine v_bipush (v := (-5)) hC dX5_restore_7 (by decide) ?_
    have e : restP Y p = ((-5), Y) := by simp [restP, recM, c4]
    exact v_iretP hC hR e dX5_restore_9
