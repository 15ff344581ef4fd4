theorem in_X5_ends_X5 : ∀ w ∈ wsX50, w ∈ wsX5_ends := by decide +kernel
theorem fl_X5_ends_19 : Cond.fieldLink RX5 19 "BoatSetsModel" "trial" "[I" ∈ wsX5_ends := by decide +kernel
theorem fl_X5_ends_7 : Cond.fieldLink RX5 7 "BoatSetsModel" "now" "[I" ∈ wsX5_ends := by decide +kernel
theorem hd_X5_ends : yX5_ends.cls = RX5 ∧ yX5_ends.cls ≠ "java/lang/invoke/MethodHandle" ∧ yX5_ends.cls ≠ "java/lang/invoke/VarHandle" ∧ (parseMethodDescriptor yX5_ends.desc).map (fun d => d.parameters.length) = some 1 := by decide +kernel
set_option maxHeartbeats 400000 in
set_option maxRecDepth 100000 in
theorem c_X5_ends (Λ : Lk) (X : XS) (Y : YS) {m : Int32} {p : Nat} (hz : yz Y = nI p) (hp : p ≤ 4) : Con Λ yX5_ends wsX5_ends { frames := 2, cells := 0, slots := 0, locals := 46 } [rf Λ 204, .int m] (CC Λ X Y) (some (.int ((endsM Y p m).1))) (CC Λ X ((endsM Y p m).2)) := by
  refine con_start (cc := cX5_ends) (maxL := 2) (ret := (some .int)) (by decide) rfl (Nat.le_of_ble_eq_true rfl) ?_
  intro κ hC hR
  have hC : Ok Λ { frames := 2, cells := 0, slots := 0, locals := 46 } cX5_ends wsX5_ends RX5 2 κ := hC
  refine v_args (lv' := [(0, rf Λ 204), (1, .int m)]) rfl ?_
  refine v_iload_n hC dX5_ends_0 1 rfl ?_
  refine v_if_gt (tgt := 29) hC dX5_ends_1 (by decide) (fun c1 => ?_) (fun c1 => ?_)
  · have c1' := Int32.not_le.mpr c1
    refine v_aload_n hC dX5_ends_29 0 rfl ?_
    refine v_aload_n hC dX5_ends_30 0 rfl ?_
    refine v_get (T := TX5) (N := 13) (v := rf Λ 208) hC 204 (nR_of (by decide)) (cc_204 Λ X Y) in_X5_ends_X5 rfl 5 (by decide) fl_X5_ends_19 rfl dX5_ends_31 ?_
    refine v_callVv (C2 := CC Λ X (yzS (ypS Y (pushN (yp Y) (yt Y) p)) (nI (pushZ p)))) (As := [rf Λ 208]) (rest := []) hC 1 204 (c_X5_records_t Λ X Y (p := p) hz (by omega)) (nR_of (by decide)) (cc_204 Λ X Y) rfl gX5_ends_X5_records rfl rfl rfl hd_X5_records ⟨by decide, by decide⟩ rfl rfl (Nat.le_of_ble_eq_true rfl) dX5_ends_34 ?_
    refine v_iload_n hC dX5_ends_37 1 rfl ?_
    have e : endsM Y p m = (m, (yzS (ypS Y (pushN (yp Y) (yt Y) p)) (nI (pushZ p)))) := by simp [endsM, c1, c1']
    exact v_iretP hC hR e dX5_ends_38
  · have c1' := Int32.not_lt.mp c1
    refine v_aload_n hC dX5_ends_4 0 rfl ?_
    refine v_get (T := TX5) (N := 13) (v := rf Λ 208) hC 204 (nR_of (by decide)) (cc_204 Λ X Y) in_X5_ends_X5 rfl 5 (by decide) fl_X5_ends_19 rfl dX5_ends_5 ?_
    refine v_iconst (v := 0) hC dX5_ends_8 (by decide) ?_
    refine v_aload_n hC dX5_ends_9 0 rfl ?_
    refine v_get (T := TX5) (N := 13) (v := rf Λ 205) hC 204 (nR_of (by decide)) (cc_204 Λ X Y) in_X5_ends_X5 rfl 0 (by decide) fl_X5_ends_7 rfl dX5_ends_10 ?_
    refine v_iconst (v := 0) hC dX5_ends_13 (by decide) ?_
    refine v_callSv (As := [rf Λ 208, .int 0, rf Λ 205, .int 0]) (rest := []) hC 4 (c_X5_copies Λ (CC Λ X Y) (a := 0) (c := 0) (f := (yt Y)) (g := (yn Y)) (cc_208 Λ X Y) (cc_205 Λ X Y) (by decide) (nR_of (by decide)) (nR_of (by decide)) (by omega) (by omega) (by decide) (by decide)) gX5_ends_X5_copies rfl rfl rfl hd_X5_copies ⟨by decide, by decide⟩ rfl rfl (Nat.le_of_ble_eq_true rfl) dX5_ends_14 ?_
    refine v_mem (cs_yn Λ X Y (cpyK (yt Y) (yn Y) 0 0 451)) ?_
    refine v_congr (C' := CC Λ X (ynS Y (yt Y))) (cg_y (Λ := Λ) (X := X) (Y := Y) (f := (cpyK (yt Y) (yn Y) 0 0 451)) (f' := (yt Y)) cp_0).1 ?_
    refine v_iload_n hC dX5_ends_17 1 rfl ?_
    refine v_if_ne (tgt := 26) hC dX5_ends_18 (by decide) (fun c18 => ?_) (fun c18 => ?_)
    · skip
      refine v_bipush (v := (-3)) hC dX5_ends_26 (by decide) ?_
      have e : endsM Y p m = ((-3), (ynS Y (yt Y))) := by simp [endsM, c1, c1', c18]
      exact v_iretP hC hR e dX5_ends_28
    · skip
      refine v_bipush (v := (-5)) hC dX5_ends_21 (by decide) ?_
      refine v_goto (tgt := 28) hC dX5_ends_23 (by decide) ?_
      have e : endsM Y p m = ((-5), (ynS Y (yt Y))) := by simp [endsM, c1, c1', c18]
      exact v_iretP hC hR e dX5_ends_28

theorem hd_X5_sizeOf : yX5_sizeOf.cls = RX5 ∧ yX5_sizeOf.cls ≠ "java/lang/invoke/MethodHandle" ∧ yX5_sizeOf.cls ≠ "java/lang/invoke/VarHandle" ∧ (parseMethodDescriptor yX5_sizeOf.desc).map (fun d => d.parameters.length) = some 3 := by decide +kernel
set_option maxHeartbeats 400000 in
set_option maxRecDepth 100000 in
theorem c_X5_sizeOf (Λ : Lk) (X : XS) (Y : YS) {how : Int32} {s : Int32} {o : Int32} {ns : Nat} (h0 : yn Y 0 = nI ns) (hns : ns ≤ 6) : Con Λ yX5_sizeOf wsX5_sizeOf { frames := 3, cells := 0, slots := 0, locals := 69 } [rf Λ 204, .int how, .int s, .int o] (CC Λ X Y) (some (.int ((sizeP Y how s o).1))) (CC Λ X ((sizeP Y how s o).2)) := by
  refine con_start (cc := cX5_sizeOf) (maxL := 4) (ret := (some .int)) (by decide) rfl (Nat.le_of_ble_eq_true rfl) ?_
  intro κ hC hR
  have hC : Ok Λ { frames := 3, cells := 0, slots := 0, locals := 69 } cX5_sizeOf wsX5_sizeOf RX5 4 κ := hC
  refine v_args (lv' := [(0, rf Λ 204), (1, .int how), (2, .int s), (3, .int o)]) rfl ?_
  refine v_aload_n hC dX5_sizeOf_0 0 rfl ?_
  refine v_iload_n hC dX5_sizeOf_1 2 rfl ?_
  refine v_callVr (v := .int (bI (isSBm (yn Y) s))) (C2 := CC Λ X Y) (As := [.int s]) (rest := []) hC 1 204 (c_X5_isSet Λ X Y (s := s)) (nR_of (by decide)) (cc_204 Λ X Y) rfl gX5_sizeOf_X5_isSet rfl rfl rfl hd_X5_isSet ⟨by decide, by decide⟩ rfl rfl (Nat.le_of_ble_eq_true rfl) dX5_sizeOf_2 ?_
  refine v_beq (b := isSBm (yn Y) s) (tgt := 16) hC dX5_sizeOf_5 (by decide) (fun c5 => ?_) (fun c5 => ?_)
  · skip
    refine v_iconst (v := (-1)) hC dX5_sizeOf_16 (by decide) ?_
    refine v_goto (tgt := 41) hC dX5_sizeOf_17 (by decide) ?_
    have e : sizeP Y how s o = ((-1), Y) := by simp [sizeP, c5]
    exact v_iretP hC hR e dX5_sizeOf_41
  · skip
    obtain ⟨k, hk, rfl⟩ := isS_of h0 hns c5
    have hik : ix (nI k) = k := ix_nI (by omega)
    refine v_aload_n hC dX5_sizeOf_8 0 rfl ?_
    refine v_iload_n hC dX5_sizeOf_9 3 rfl ?_
    refine v_callVr (v := .int (bI (isSBm (yn Y) o))) (C2 := CC Λ X Y) (As := [.int o]) (rest := []) hC 1 204 (c_X5_isSet Λ X Y (s := o)) (nR_of (by decide)) (cc_204 Λ X Y) rfl gX5_sizeOf_X5_isSet rfl rfl rfl hd_X5_isSet ⟨by decide, by decide⟩ rfl rfl (Nat.le_of_ble_eq_true rfl) dX5_sizeOf_10 ?_
    refine v_bne (b := isSBm (yn Y) o) (tgt := 20) hC dX5_sizeOf_13 (by decide) (fun c13 => ?_) (fun c13 => ?_)
    · skip
      obtain ⟨k2, hk2, rfl⟩ := isS_of h0 hns c13
      have hik2 : ix (nI k2) = k2 := ix_nI (by omega)
      refine v_iload_n hC dX5_sizeOf_20 1 rfl ?_
      refine v_iconst (v := 0) hC dX5_sizeOf_21 (by decide) ?_
      refine v_iconst (v := 3) hC dX5_sizeOf_22 (by decide) ?_
      refine v_callSr (v := .int (bI (inB how 0 3))) (C2 := CC Λ X Y) (As := [.int how, .int 0, .int 3]) (rest := []) hC 3 (c_X5_in Λ X Y (v := how) (lo := 0) (hi := 3)) gX5_sizeOf_X5_in rfl rfl rfl hd_X5_in ⟨by decide, by decide⟩ rfl rfl (Nat.le_of_ble_eq_true rfl) dX5_sizeOf_23 ?_
      refine v_bne (b := inB how 0 3) (tgt := 34) hC dX5_sizeOf_26 (by decide) (fun c26 => ?_) (fun c26 => ?_)
      · skip
        refine v_aload_n hC dX5_sizeOf_34 0 rfl ?_
        refine v_iload_n hC dX5_sizeOf_35 1 rfl ?_
        refine v_iload_n hC dX5_sizeOf_36 2 rfl ?_
        refine v_iload_n hC dX5_sizeOf_37 3 rfl ?_
        refine v_callVr (v := .int (nI (cnt (gbN (yn Y) how k k2) 0 2048))) (C2 := CC Λ X (ygS Y (gvN (gbN (yn Y) how k k2) (yg Y) 2048))) (As := [.int how, .int (nI k), .int (nI k2)]) (rest := []) hC 3 204 (c_X5_laysGiven Λ X Y (how := how) (s := k) (o := k2) (by omega) (by omega)) (nR_of (by decide)) (cc_204 Λ X Y) rfl gX5_sizeOf_X5_laysGiven rfl rfl rfl hd_X5_laysGiven ⟨by decide, by decide⟩ rfl rfl (Nat.le_of_ble_eq_true rfl) dX5_sizeOf_38 ?_
        have hg38 := cnt_le (gbN (yn Y) how k k2) 0 2048
        have e : sizeP Y how (nI k) (nI k2) = (nI (cnt (gbN (yn Y) how k k2) 0 2048), (ygS Y (gvN (gbN (yn Y) how k k2) (yg Y) 2048))) := by simp [sizeP, c5, hik, c13, hik2, c26]
        exact v_iretP hC hR e dX5_sizeOf_41
      · skip
        refine v_bipush (v := (-2)) hC dX5_sizeOf_29 (by decide) ?_
        refine v_goto (tgt := 41) hC dX5_sizeOf_31 (by decide) ?_
        have e : sizeP Y how (nI k) (nI k2) = ((-2), Y) := by simp [sizeP, c5, hik, c13, hik2, c26]
        exact v_iretP hC hR e dX5_sizeOf_41
    · skip
      refine v_iconst (v := (-1)) hC dX5_sizeOf_16 (by decide) ?_
      refine v_goto (tgt := 41) hC dX5_sizeOf_17 (by decide) ?_
      have e : sizeP Y how (nI k) o = ((-1), Y) := by simp [sizeP, c5, hik, c13]
      exact v_iretP hC hR e dX5_sizeOf_41

theorem in_X5_overAll_X5 : ∀ w ∈ wsX50, w ∈ wsX5_overAll := by decide +kernel
theorem fl_X5_overAll_7 : Cond.fieldLink RX5 7 "BoatSetsModel" "now" "[I" ∈ wsX5_overAll := by decide +kernel
theorem hd_X5_overAll : yX5_overAll.cls = RX5 ∧ yX5_overAll.cls ≠ "java/lang/invoke/MethodHandle" ∧ yX5_overAll.cls ≠ "java/lang/invoke/VarHandle" ∧ (parseMethodDescriptor yX5_overAll.desc).map (fun d => d.parameters.length) = some 1 := by decide +kernel
set_option maxHeartbeats 400000 in
set_option maxRecDepth 100000 in
theorem c_X5_overAll (Λ : Lk) (X : XS) (Y : YS) {what : Int32} {ns : Nat} (h0 : yn Y 0 = nI ns) (hns : ns ≤ 6) : Con Λ yX5_overAll wsX5_overAll { frames := 5, cells := 0, slots := 0, locals := 116 } [rf Λ 204, .int what] (CC Λ X Y) (some (.int (ovN (yn Y) what ns))) (CC Λ X Y) := by
  refine con_start (cc := cX5_overAll) (maxL := 5) (ret := (some .int)) (by decide) rfl (Nat.le_of_ble_eq_true rfl) ?_
  intro κ hC hR
  have hC : Ok Λ { frames := 5, cells := 0, slots := 0, locals := 116 } cX5_overAll wsX5_overAll RX5 5 κ := hC
  refine v_args (lv' := [(0, rf Λ 204), (1, .int what)]) rfl ?_
  refine v_iconst (v := 0) hC dX5_overAll_0 (by decide) ?_
  refine v_istore_n (lv' := [(2, .int 0), (0, rf Λ 204), (1, .int what)]) hC dX5_overAll_1 (by decide) rfl ?_
  refine v_iconst (v := 0) hC dX5_overAll_2 (by decide) ?_
  refine v_istore_n (lv' := [(3, .int 0), (2, .int 0), (0, rf Λ 204), (1, .int what)]) hC dX5_overAll_3 (by decide) rfl ?_
  have L4 : ∀ (fu4 : Nat) (j : Nat) (x2 : Int32) (x3 : Int32), j ≤ ns → x2 = ovN (yn Y) what j → x3 = nI j → ns - j < fu4 → V Λ κ (CC Λ X Y) 4 [(0, rf Λ 204), (1, .int what), (2, .int x2), (3, .int x3)] [] := by
    intro fu4
    induction fu4 with
    | zero => intro j x2 x3 hj e2 e3 hfu4; exact absurd hfu4 (Nat.not_lt_zero _)
    | succ fu4 ih4 =>
      intro j x2 x3 hj e2 e3 hfu4
      subst e2
      subst e3
      refine v_iload_n hC dX5_overAll_4 3 rfl ?_
      refine v_aload_n hC dX5_overAll_5 0 rfl ?_
      refine v_get (T := TX5) (N := 13) (v := rf Λ 205) hC 204 (nR_of (by decide)) (cc_204 Λ X Y) in_X5_overAll_X5 rfl 0 (by decide) fl_X5_overAll_7 rfl dX5_overAll_6 ?_
      refine v_iconst (v := 0) hC dX5_overAll_9 (by decide) ?_
      refine v_iald (n := 451) (f := (yn Y)) hC 205 (nR_of (by decide)) (cc_205 Λ X Y) 0 rfl (by omega) (by decide) dX5_overAll_10 ?_
      refine v_topi (y := nI ns) h0 ?_
      refine v_nge (a := j) (b := ns) (tgt := 76) hC dX5_overAll_11 (by decide) rfl rfl (by omega) (by omega) (fun c11 => ?_) (fun c11 => ?_)
      · have c11' := Nat.not_lt.mpr c11
        refine v_iload_n hC dX5_overAll_76 2 rfl ?_
        exact v_iret hC hR (congrArg (fun z : Int32 => some (Value.int z)) (by have e : j = ns := (by omega); subst e; rfl)) rfl dX5_overAll_77
      · have c11' := Nat.not_le.mpr c11
        refine v_iload_n hC dX5_overAll_14 1 rfl ?_
        refine v_bipush (v := 20) hC dX5_overAll_15 (by decide) ?_
        refine v_icmp_ge (x := what) (y := 20) (tgt := 32) hC dX5_overAll_17 (by decide) (fun c17 => ?_) (fun c17 => ?_)
        · have c17' := Int32.not_lt.mpr c17
          refine v_iconst (v := 0) hC dX5_overAll_32 (by decide) ?_
          refine v_istore (lv' := [(4, .int 0), (0, rf Λ 204), (1, .int what), (2, .int (ovN (yn Y) what j)), (3, .int (nI j))]) hC dX5_overAll_33 (by decide) rfl ?_
          have L35 : ∀ (fu35 : Nat) (i : Nat) (x2 : Int32) (x4 : Int32), i ≤ 8 → x2 = ovN (yn Y) what j + kbN (yn Y) j (what - 20) i → x4 = nI i → 8 - i < fu35 → V Λ κ (CC Λ X Y) 35 [(0, rf Λ 204), (1, .int what), (2, .int x2), (3, .int (nI j)), (4, .int x4)] [] := by
            intro fu35
            induction fu35 with
            | zero => intro i x2 x4 hi e2 e4 hfu35; exact absurd hfu35 (Nat.not_lt_zero _)
            | succ fu35 ih35 =>
              intro i x2 x4 hi e2 e4 hfu35
              subst e2
              subst e4
              refine v_iload hC dX5_overAll_35 4 rfl ?_
              refine v_bipush (v := 8) hC dX5_overAll_37 (by decide) ?_
              refine v_nge (a := i) (b := 8) (tgt := 70) hC dX5_overAll_39 (by decide) rfl rfl (by omega) (by omega) (fun c39 => ?_) (fun c39 => ?_)
              · have c39' := Nat.not_lt.mpr c39
                have e_i : i = 8 := by omega
                subst e_i
                refine v_iinc (j := 3) (v := nI (j + 1)) (lv' := [(3, .int (nI (j + 1))), (0, rf Λ 204), (1, .int what), (2, .int (ovN (yn Y) what j + kbN (yn Y) j (what - 20) 8)), (4, .int (nI 8))]) hC dX5_overAll_70 rfl (nI_add j 1) (by decide) rfl ?_
                refine v_goto (tgt := 4) hC dX5_overAll_73 (by decide) ?_
                refine v_sub (lv' := [(0, rf Λ 204), (1, .int what), (2, .int (ovN (yn Y) what j + kbN (yn Y) j (what - 20) 8)), (3, .int (nI (j + 1)))]) [1, 2, 3, 0] rfl ?_
                exact ih4 (j + 1) _ _ (by omega) (by simp [ovN, setM, isS_nI h0 hns (show j < ns by omega), ix_nI (show j < 2 ^ 31 by omega), c11, c11', c17, c17', c39, c39']) rfl (by omega)
              · have c39' := Nat.not_le.mpr c39
                refine v_iload_n hC dX5_overAll_42 2 rfl ?_
                refine v_aload_n hC dX5_overAll_43 0 rfl ?_
                refine v_iload_n hC dX5_overAll_44 3 rfl ?_
                refine v_iload hC dX5_overAll_45 4 rfl ?_
                refine v_callVr (v := .int (kindN (yn Y) j i)) (C2 := CC Λ X Y) (As := [.int (nI j), .int (nI i)]) (rest := [.int (ovN (yn Y) what j + kbN (yn Y) j (what - 20) i)]) hC 2 204 (c_X5_kindOf Λ X Y (s := j) (b := i) (by omega) (by omega)) (nR_of (by decide)) (cc_204 Λ X Y) rfl gX5_overAll_X5_kindOf rfl rfl rfl hd_X5_kindOf ⟨by decide, by decide⟩ rfl rfl (Nat.le_of_ble_eq_true rfl) dX5_overAll_47 ?_
                refine v_iload_n hC dX5_overAll_50 1 rfl ?_
                refine v_bipush (v := 20) hC dX5_overAll_51 (by decide) ?_
                refine v_isub (x := what) (y := 20) hC dX5_overAll_53 ?_
                refine v_icmp_ne (x := kindN (yn Y) j i) (y := what - 20) (tgt := 61) hC dX5_overAll_54 (by decide) (fun c54 => ?_) (fun c54 => ?_)
                · skip
                  refine v_iconst (v := 0) hC dX5_overAll_61 (by decide) ?_
                  refine v_iadd (x := ovN (yn Y) what j + kbN (yn Y) j (what - 20) i) (y := 0) hC dX5_overAll_62 ?_
                  refine v_istore_n (lv' := [(2, .int ((ovN (yn Y) what j + kbN (yn Y) j (what - 20) i) + 0)), (0, rf Λ 204), (1, .int what), (3, .int (nI j)), (4, .int (nI i))]) hC dX5_overAll_63 (by decide) rfl ?_
                  refine v_iinc (j := 4) (v := nI (i + 1)) (lv' := [(4, .int (nI (i + 1))), (2, .int ((ovN (yn Y) what j + kbN (yn Y) j (what - 20) i) + 0)), (0, rf Λ 204), (1, .int what), (3, .int (nI j))]) hC dX5_overAll_64 rfl (nI_add i 1) (by decide) rfl ?_
                  refine v_goto (tgt := 35) hC dX5_overAll_67 (by decide) ?_
                  refine v_sub (lv' := [(0, rf Λ 204), (1, .int what), (2, .int ((ovN (yn Y) what j + kbN (yn Y) j (what - 20) i) + 0)), (3, .int (nI j)), (4, .int (nI (i + 1)))]) [2, 3, 1, 4, 0] rfl ?_
                  exact ih35 (i + 1) _ _ (by omega) (by rw [kbN, ← Int32.add_assoc]; simp [c11, c11', c17, c17', c39, c39', c54]) rfl (by omega)
                · skip
                  refine v_iconst (v := 1) hC dX5_overAll_57 (by decide) ?_
                  refine v_goto (tgt := 62) hC dX5_overAll_58 (by decide) ?_
                  refine v_iadd (x := ovN (yn Y) what j + kbN (yn Y) j (what - 20) i) (y := 1) hC dX5_overAll_62 ?_
                  refine v_istore_n (lv' := [(2, .int ((ovN (yn Y) what j + kbN (yn Y) j (what - 20) i) + 1)), (0, rf Λ 204), (1, .int what), (3, .int (nI j)), (4, .int (nI i))]) hC dX5_overAll_63 (by decide) rfl ?_
                  refine v_iinc (j := 4) (v := nI (i + 1)) (lv' := [(4, .int (nI (i + 1))), (2, .int ((ovN (yn Y) what j + kbN (yn Y) j (what - 20) i) + 1)), (0, rf Λ 204), (1, .int what), (3, .int (nI j))]) hC dX5_overAll_64 rfl (nI_add i 1) (by decide) rfl ?_
                  refine v_goto (tgt := 35) hC dX5_overAll_67 (by decide) ?_
                  refine v_sub (lv' := [(0, rf Λ 204), (1, .int what), (2, .int ((ovN (yn Y) what j + kbN (yn Y) j (what - 20) i) + 1)), (3, .int (nI j)), (4, .int (nI (i + 1)))]) [2, 3, 1, 4, 0] rfl ?_
                  exact ih35 (i + 1) _ _ (by omega) (by rw [kbN, ← Int32.add_assoc]; simp [c11, c11', c17, c17', c39, c39', c54]) rfl (by omega)
          refine v_sub (lv' := [(0, rf Λ 204), (1, .int what), (2, .int (ovN (yn Y) what j)), (3, .int (nI j)), (4, .int 0)]) [1, 2, 3, 4, 0] rfl ?_
          exact L35 _ 0 _ _ (by omega) (by simp [kbN]) rfl (Nat.lt_succ_self _)
        · have c17' := Int32.not_le.mp c17
          refine v_iload_n hC dX5_overAll_20 2 rfl ?_
          refine v_aload_n hC dX5_overAll_21 0 rfl ?_
          refine v_iload_n hC dX5_overAll_22 3 rfl ?_
          refine v_iload_n hC dX5_overAll_23 1 rfl ?_
          refine v_callVr (v := .int (setM (yn Y) (nI j) what)) (C2 := CC Λ X Y) (As := [.int (nI j), .int what]) (rest := [.int (ovN (yn Y) what j)]) hC 2 204 (c_X5_set Λ X Y (s := nI j) (what := what) h0 hns) (nR_of (by decide)) (cc_204 Λ X Y) rfl gX5_overAll_X5_set rfl rfl rfl hd_X5_set ⟨by decide, by decide⟩ rfl rfl (Nat.le_of_ble_eq_true rfl) dX5_overAll_24 ?_
          refine v_iadd (x := ovN (yn Y) what j) (y := setM (yn Y) (nI j) what) hC dX5_overAll_27 ?_
          refine v_istore_n (lv' := [(2, .int ((ovN (yn Y) what j) + (setM (yn Y) (nI j) what))), (0, rf Λ 204), (1, .int what), (3, .int (nI j))]) hC dX5_overAll_28 (by decide) rfl ?_
          refine v_goto (tgt := 70) hC dX5_overAll_29 (by decide) ?_
          refine v_iinc (j := 3) (v := nI (j + 1)) (lv' := [(3, .int (nI (j + 1))), (2, .int ((ovN (yn Y) what j) + (setM (yn Y) (nI j) what))), (0, rf Λ 204), (1, .int what)]) hC dX5_overAll_70 rfl (nI_add j 1) (by decide) rfl ?_
          refine v_goto (tgt := 4) hC dX5_overAll_73 (by decide) ?_
          refine v_sub (lv' := [(0, rf Λ 204), (1, .int what), (2, .int ((ovN (yn Y) what j) + (setM (yn Y) (nI j) what))), (3, .int (nI (j + 1)))]) [2, 3, 1, 0] rfl ?_
          exact ih4 (j + 1) _ _ (by omega) (by simp [ovN, setM, isS_nI h0 hns (show j < ns by omega), ix_nI (show j < 2 ^ 31 by omega), c11, c11', c17, c17']) rfl (by omega)
  refine v_sub (lv' := [(0, rf Λ 204), (1, .int what), (2, .int 0), (3, .int 0)]) [2, 3, 1, 0] rfl ?_
  exact L4 _ 0 _ _ (by omega) rfl rfl (Nat.lt_succ_self _)

theorem in_X5_count_X5 : ∀ w ∈ wsX50, w ∈ wsX5_count := by decide +kernel
theorem fl_X5_count_7 : Cond.fieldLink RX5 7 "BoatSetsModel" "now" "[I" ∈ wsX5_count := by decide +kernel
theorem fl_X5_count_31 : Cond.fieldLink RX5 31 "BoatSetsModel" "pasts" "I" ∈ wsX5_count := by decide +kernel
theorem fl_X5_count_136 : Cond.fieldLink RX5 136 "BoatSetsModel" "typed" "I" ∈ wsX5_count := by decide +kernel
theorem hd_X5_count : yX5_count.cls = RX5 ∧ yX5_count.cls ≠ "java/lang/invoke/MethodHandle" ∧ yX5_count.cls ≠ "java/lang/invoke/VarHandle" ∧ (parseMethodDescriptor yX5_count.desc).map (fun d => d.parameters.length) = some 1 := by decide +kernel
set_option maxHeartbeats 400000 in
set_option maxRecDepth 100000 in
theorem c_X5_count (Λ : Lk) (X : XS) (Y : YS) {what : Int32} {ns : Nat} (h0 : yn Y 0 = nI ns) (hns : ns ≤ 6) : Con Λ yX5_count wsX5_count { frames := 6, cells := 0, slots := 0, locals := 140 } [rf Λ 204, .int what] (CC Λ X Y) (some (.int (countM Y ns what))) (CC Λ X Y) := by
  refine con_start (cc := cX5_count) (maxL := 2) (ret := (some .int)) (by decide) rfl (Nat.le_of_ble_eq_true rfl) ?_
  intro κ hC hR
  have hC : Ok Λ { frames := 6, cells := 0, slots := 0, locals := 140 } cX5_count wsX5_count RX5 2 κ := hC
  refine v_args (lv' := [(0, rf Λ 204), (1, .int what)]) rfl ?_
  refine v_iload_n hC dX5_count_0 1 rfl ?_
  by_cases c1_0 : what = 0
  · refine v_topi c1_0 ?_
    refine v_tabIn (x := 0) (tgt := 60) hC dX5_count_1 (by decide) (by decide) rfl (by decide) ?_
    refine v_aload_n hC dX5_count_60 0 rfl ?_
    refine v_get (T := TX5) (N := 13) (v := rf Λ 205) hC 204 (nR_of (by decide)) (cc_204 Λ X Y) in_X5_count_X5 rfl 0 (by decide) fl_X5_count_7 rfl dX5_count_61 ?_
    refine v_iconst (v := 0) hC dX5_count_64 (by decide) ?_
    refine v_iald (n := 451) (f := (yn Y)) hC 205 (nR_of (by decide)) (cc_205 Λ X Y) 0 rfl (by omega) (by decide) dX5_count_65 ?_
    refine v_topi (y := nI ns) h0 ?_
    exact v_iret hC hR (congrArg (fun z : Int32 => some (Value.int z)) (by simp [countM, c1_0])) rfl dX5_count_66
  by_cases c1_1 : what = 1
  · refine v_topi c1_1 ?_
    refine v_tabIn (x := 1) (tgt := 67) hC dX5_count_1 (by decide) (by decide) rfl (by decide) ?_
    refine v_aload_n hC dX5_count_67 0 rfl ?_
    refine v_iconst (v := 4) hC dX5_count_68 (by decide) ?_
    refine v_callVr (v := .int (ovN (yn Y) 4 ns)) (C2 := CC Λ X Y) (As := [.int 4]) (rest := []) hC 1 204 (c_X5_overAll Λ X Y (what := 4) h0 hns) (nR_of (by decide)) (cc_204 Λ X Y) rfl gX5_count_X5_overAll rfl rfl rfl hd_X5_overAll ⟨by decide, by decide⟩ rfl rfl (Nat.le_of_ble_eq_true rfl) dX5_count_69 ?_
    exact v_iret hC hR (congrArg (fun z : Int32 => some (Value.int z)) (by simp [countM, c1_1])) rfl dX5_count_72
  by_cases c1_2 : what = 2
  · refine v_topi c1_2 ?_
    refine v_tabIn (x := 2) (tgt := 73) hC dX5_count_1 (by decide) (by decide) rfl (by decide) ?_
    refine v_aload_n hC dX5_count_73 0 rfl ?_
    refine v_bipush (v := 18) hC dX5_count_74 (by decide) ?_
    refine v_iload_n hC dX5_count_76 1 rfl ?_
    refine v_iadd (x := 18) (y := what) hC dX5_count_77 ?_
    refine v_callVr (v := .int (ovN (yn Y) (18 + what) ns)) (C2 := CC Λ X Y) (As := [.int (18 + what)]) (rest := []) hC 1 204 (c_X5_overAll Λ X Y (what := 18 + what) h0 hns) (nR_of (by decide)) (cc_204 Λ X Y) rfl gX5_count_X5_overAll rfl rfl rfl hd_X5_overAll ⟨by decide, by decide⟩ rfl rfl (Nat.le_of_ble_eq_true rfl) dX5_count_78 ?_
    exact v_iret hC hR (congrArg (fun z : Int32 => some (Value.int z)) (by simp [countM, c1_2])) rfl dX5_count_81
  by_cases c1_3 : what = 3
  · refine v_topi c1_3 ?_
    refine v_tabIn (x := 3) (tgt := 73) hC dX5_count_1 (by decide) (by decide) rfl (by decide) ?_
    refine v_aload_n hC dX5_count_73 0 rfl ?_
    refine v_bipush (v := 18) hC dX5_count_74 (by decide) ?_
    refine v_iload_n hC dX5_count_76 1 rfl ?_
    refine v_iadd (x := 18) (y := what) hC dX5_count_77 ?_
    refine v_callVr (v := .int (ovN (yn Y) (18 + what) ns)) (C2 := CC Λ X Y) (As := [.int (18 + what)]) (rest := []) hC 1 204 (c_X5_overAll Λ X Y (what := 18 + what) h0 hns) (nR_of (by decide)) (cc_204 Λ X Y) rfl gX5_count_X5_overAll rfl rfl rfl hd_X5_overAll ⟨by decide, by decide⟩ rfl rfl (Nat.le_of_ble_eq_true rfl) dX5_count_78 ?_
    exact v_iret hC hR (congrArg (fun z : Int32 => some (Value.int z)) (by simp [countM, c1_3])) rfl dX5_count_81
  by_cases c1_4 : what = 4
  · refine v_topi c1_4 ?_
    refine v_tabIn (x := 4) (tgt := 73) hC dX5_count_1 (by decide) (by decide) rfl (by decide) ?_
    refine v_aload_n hC dX5_count_73 0 rfl ?_
    refine v_bipush (v := 18) hC dX5_count_74 (by decide) ?_
    refine v_iload_n hC dX5_count_76 1 rfl ?_
    refine v_iadd (x := 18) (y := what) hC dX5_count_77 ?_
    refine v_callVr (v := .int (ovN (yn Y) (18 + what) ns)) (C2 := CC Λ X Y) (As := [.int (18 + what)]) (rest := []) hC 1 204 (c_X5_overAll Λ X Y (what := 18 + what) h0 hns) (nR_of (by decide)) (cc_204 Λ X Y) rfl gX5_count_X5_overAll rfl rfl rfl hd_X5_overAll ⟨by decide, by decide⟩ rfl rfl (Nat.le_of_ble_eq_true rfl) dX5_count_78 ?_
    exact v_iret hC hR (congrArg (fun z : Int32 => some (Value.int z)) (by simp [countM, c1_4])) rfl dX5_count_81
  by_cases c1_5 : what = 5
  · refine v_topi c1_5 ?_
    refine v_tabIn (x := 5) (tgt := 82) hC dX5_count_1 (by decide) (by decide) rfl (by decide) ?_
    refine v_aload_n hC dX5_count_82 0 rfl ?_
    refine v_iconst (v := 2) hC dX5_count_83 (by decide) ?_
    refine v_callVr (v := .int (ovN (yn Y) 2 ns)) (C2 := CC Λ X Y) (As := [.int 2]) (rest := []) hC 1 204 (c_X5_overAll Λ X Y (what := 2) h0 hns) (nR_of (by decide)) (cc_204 Λ X Y) rfl gX5_count_X5_overAll rfl rfl rfl hd_X5_overAll ⟨by decide, by decide⟩ rfl rfl (Nat.le_of_ble_eq_true rfl) dX5_count_84 ?_
    exact v_iret hC hR (congrArg (fun z : Int32 => some (Value.int z)) (by simp [countM, c1_5])) rfl dX5_count_87
  by_cases c1_6 : what = 6
  · refine v_topi c1_6 ?_
    refine v_tabIn (x := 6) (tgt := 88) hC dX5_count_1 (by decide) (by decide) rfl (by decide) ?_
    refine v_aload_n hC dX5_count_88 0 rfl ?_
    refine v_iconst (v := 0) hC dX5_count_89 (by decide) ?_
    refine v_callVr (v := .int (ovN (yn Y) 0 ns)) (C2 := CC Λ X Y) (As := [.int 0]) (rest := []) hC 1 204 (c_X5_overAll Λ X Y (what := 0) h0 hns) (nR_of (by decide)) (cc_204 Λ X Y) rfl gX5_count_X5_overAll rfl rfl rfl hd_X5_overAll ⟨by decide, by decide⟩ rfl rfl (Nat.le_of_ble_eq_true rfl) dX5_count_90 ?_
    exact v_iret hC hR (congrArg (fun z : Int32 => some (Value.int z)) (by simp [countM, c1_6])) rfl dX5_count_93
  by_cases c1_7 : what = 7
  · refine v_topi c1_7 ?_
    refine v_tabIn (x := 7) (tgt := 94) hC dX5_count_1 (by decide) (by decide) rfl (by decide) ?_
    refine v_aload_n hC dX5_count_94 0 rfl ?_
    refine v_callVr (v := .int (nI (diffN (yn Y) ns))) (C2 := CC Λ X Y) (As := []) (rest := []) hC 0 204 (c_X5_different Λ X Y h0 hns) (nR_of (by decide)) (cc_204 Λ X Y) rfl gX5_count_X5_different rfl rfl rfl hd_X5_different ⟨by decide, by decide⟩ rfl rfl (Nat.le_of_ble_eq_true rfl) dX5_count_95 ?_
    exact v_iret hC hR (congrArg (fun z : Int32 => some (Value.int z)) (by simp [countM, c1_7])) rfl dX5_count_98
  by_cases c1_8 : what = 8
  · refine v_topi c1_8 ?_
    refine v_tabIn (x := 8) (tgt := 99) hC dX5_count_1 (by decide) (by decide) rfl (by decide) ?_
    refine v_aload_n hC dX5_count_99 0 rfl ?_
    refine v_iconst (v := 5) hC dX5_count_100 (by decide) ?_
    refine v_callVr (v := .int (ovN (yn Y) 5 ns)) (C2 := CC Λ X Y) (As := [.int 5]) (rest := []) hC 1 204 (c_X5_overAll Λ X Y (what := 5) h0 hns) (nR_of (by decide)) (cc_204 Λ X Y) rfl gX5_count_X5_overAll rfl rfl rfl hd_X5_overAll ⟨by decide, by decide⟩ rfl rfl (Nat.le_of_ble_eq_true rfl) dX5_count_101 ?_
    exact v_iret hC hR (congrArg (fun z : Int32 => some (Value.int z)) (by simp [countM, c1_8])) rfl dX5_count_104
  by_cases c1_9 : what = 9
  · refine v_topi c1_9 ?_
    refine v_tabIn (x := 9) (tgt := 105) hC dX5_count_1 (by decide) (by decide) rfl (by decide) ?_
    refine v_aload_n hC dX5_count_105 0 rfl ?_
    refine v_get (T := TX5) (N := 13) (v := .int (yz Y)) hC 204 (nR_of (by decide)) (cc_204 Λ X Y) in_X5_count_X5 rfl 2 (by decide) fl_X5_count_31 rfl dX5_count_106 ?_
    exact v_iret hC hR (congrArg (fun z : Int32 => some (Value.int z)) (by simp [countM, c1_9])) rfl dX5_count_109
  by_cases c1_10 : what = 10
  · refine v_topi c1_10 ?_
    refine v_tabIn (x := 10) (tgt := 110) hC dX5_count_1 (by decide) (by decide) rfl (by decide) ?_
    refine v_aload_n hC dX5_count_110 0 rfl ?_
    refine v_get (T := TX5) (N := 13) (v := .int (yy Y)) hC 204 (nR_of (by decide)) (cc_204 Λ X Y) in_X5_count_X5 rfl 7 (by decide) fl_X5_count_136 rfl dX5_count_111 ?_
    exact v_iret hC hR (congrArg (fun z : Int32 => some (Value.int z)) (by simp [countM, c1_10])) rfl dX5_count_114
  refine v_tabOut (tgt := 115) hC dX5_count_1 (by have q0 := i32_ne (n := 0) c1_0 (by decide); have q1 := i32_ne (n := 1) c1_1 (by decide); have q2 := i32_ne (n := 2) c1_2 (by decide); have q3 := i32_ne (n := 3) c1_3 (by decide); have q4 := i32_ne (n := 4) c1_4 (by decide); have q5 := i32_ne (n := 5) c1_5 (by decide); have q6 := i32_ne (n := 6) c1_6 (by decide); have q7 := i32_ne (n := 7) c1_7 (by decide); have q8 := i32_ne (n := 8) c1_8 (by decide); have q9 := i32_ne (n := 9) c1_9 (by decide); have q10 := i32_ne (n := 10) c1_10 (by decide); omega) (by decide) ?_
  refine v_bipush (v := (-2)) hC dX5_count_115 (by decide) ?_
  exact v_iret hC hR (congrArg (fun z : Int32 => some (Value.int z)) (by simp [countM, c1_0, c1_1, c1_2, c1_3, c1_4, c1_5, c1_6, c1_7, c1_8, c1_9, c1_10])) rfl dX5_count_117

theorem hd_X5_boat : yX5_boat.cls = RX5 ∧ yX5_boat.cls ≠ "java/lang/invoke/MethodHandle" ∧ yX5_boat.cls ≠ "java/lang/invoke/VarHandle" ∧ (parseMethodDescriptor yX5_boat.desc).map (fun d => d.parameters.length) = some 3 := by decide +kernel
set_option maxHeartbeats 400000 in
set_option maxRecDepth 100000 in
theorem c_X5_boat (Λ : Lk) (X : XS) (Y : YS) {s : Int32} {b : Int32} {what : Int32} {ns : Nat} (h0 : yn Y 0 = nI ns) (hns : ns ≤ 6) : Con Λ yX5_boat wsX5_boat { frames := 5, cells := 0, slots := 0, locals := 113 } [rf Λ 204, .int s, .int b, .int what] (CC Λ X Y) (some (.int (boatM (yn Y) s b what))) (CC Λ X Y) := by
  refine con_start (cc := cX5_boat) (maxL := 4) (ret := (some .int)) (by decide) rfl (Nat.le_of_ble_eq_true rfl) ?_
  intro κ hC hR
  have hC : Ok Λ { frames := 5, cells := 0, slots := 0, locals := 113 } cX5_boat wsX5_boat RX5 4 κ := hC
  refine v_args (lv' := [(0, rf Λ 204), (1, .int s), (2, .int b), (3, .int what)]) rfl ?_
  refine v_aload_n hC dX5_boat_0 0 rfl ?_
  refine v_iload_n hC dX5_boat_1 1 rfl ?_
  refine v_callVr (v := .int (bI (isSBm (yn Y) s))) (C2 := CC Λ X Y) (As := [.int s]) (rest := []) hC 1 204 (c_X5_isSet Λ X Y (s := s)) (nR_of (by decide)) (cc_204 Λ X Y) rfl gX5_boat_X5_isSet rfl rfl rfl hd_X5_isSet ⟨by decide, by decide⟩ rfl rfl (Nat.le_of_ble_eq_true rfl) dX5_boat_2 ?_
  refine v_bne (b := isSBm (yn Y) s) (tgt := 10) hC dX5_boat_5 (by decide) (fun c5 => ?_) (fun c5 => ?_)
  · skip
    obtain ⟨k, hk, rfl⟩ := isS_of h0 hns c5
    have hik : ix (nI k) = k := ix_nI (by omega)
    refine v_iload_n hC dX5_boat_10 2 rfl ?_
    refine v_iconst (v := 0) hC dX5_boat_11 (by decide) ?_
    refine v_bipush (v := 7) hC dX5_boat_12 (by decide) ?_
    refine v_callSr (v := .int (bI (inB b 0 7))) (C2 := CC Λ X Y) (As := [.int b, .int 0, .int 7]) (rest := []) hC 3 (c_X5_in Λ X Y (v := b) (lo := 0) (hi := 7)) gX5_boat_X5_in rfl rfl rfl hd_X5_in ⟨by decide, by decide⟩ rfl rfl (Nat.le_of_ble_eq_true rfl) dX5_boat_14 ?_
    refine v_beq (b := inB b 0 7) (tgt := 29) hC dX5_boat_17 (by decide) (fun c17 => ?_) (fun c17 => ?_)
    · skip
      refine v_bipush (v := (-2)) hC dX5_boat_29 (by decide) ?_
      exact v_iret hC hR (congrArg (fun z : Int32 => some (Value.int z)) (by simp [boatM, boatV, show inB 0 0 5 = true by decide, show inB 1 0 5 = true by decide, show inB 2 0 5 = true by decide, show inB 3 0 5 = true by decide, show inB 4 0 5 = true by decide, c5, hik, c17])) rfl dX5_boat_31
    · skip
      obtain ⟨q, hq, rfl⟩ := inR_of (hi := 7) c17 (by decide)
      have hiq : ix (nI q) = q := ix_nI (by omega)
      refine v_iload_n hC dX5_boat_20 3 rfl ?_
      refine v_iconst (v := 0) hC dX5_boat_21 (by decide) ?_
      refine v_iconst (v := 5) hC dX5_boat_22 (by decide) ?_
      refine v_callSr (v := .int (bI (inB what 0 5))) (C2 := CC Λ X Y) (As := [.int what, .int 0, .int 5]) (rest := []) hC 3 (c_X5_in Λ X Y (v := what) (lo := 0) (hi := 5)) gX5_boat_X5_in rfl rfl rfl hd_X5_in ⟨by decide, by decide⟩ rfl rfl (Nat.le_of_ble_eq_true rfl) dX5_boat_23 ?_
      refine v_bne (b := inB what 0 5) (tgt := 32) hC dX5_boat_26 (by decide) (fun c26 => ?_) (fun c26 => ?_)
      · skip
        refine v_aload_n hC dX5_boat_32 0 rfl ?_
        refine v_iload_n hC dX5_boat_33 1 rfl ?_
        refine v_iload_n hC dX5_boat_34 2 rfl ?_
        refine v_callVr (v := .int (kindN (yn Y) k q)) (C2 := CC Λ X Y) (As := [.int (nI k), .int (nI q)]) (rest := []) hC 2 204 (c_X5_kindOf Λ X Y (s := k) (b := q) (by omega) (by omega)) (nR_of (by decide)) (cc_204 Λ X Y) rfl gX5_boat_X5_kindOf rfl rfl rfl hd_X5_kindOf ⟨by decide, by decide⟩ rfl rfl (Nat.le_of_ble_eq_true rfl) dX5_boat_35 ?_
        refine v_if_ge (tgt := 44) hC dX5_boat_38 (by decide) (fun c38 => ?_) (fun c38 => ?_)
        · have c38' := Int32.not_lt.mpr c38
          refine v_iload_n hC dX5_boat_44 3 rfl ?_
          by_cases c45_0 : what = 0
          · refine v_topi c45_0 ?_
            refine v_tabIn (x := 0) (tgt := 80) hC dX5_boat_45 (by decide) (by decide) rfl (by decide) ?_
            refine v_aload_n hC dX5_boat_80 0 rfl ?_
            refine v_iload_n hC dX5_boat_81 1 rfl ?_
            refine v_iload_n hC dX5_boat_82 2 rfl ?_
            refine v_callVr (v := .int (kindN (yn Y) k q)) (C2 := CC Λ X Y) (As := [.int (nI k), .int (nI q)]) (rest := []) hC 2 204 (c_X5_kindOf Λ X Y (s := k) (b := q) (by omega) (by omega)) (nR_of (by decide)) (cc_204 Λ X Y) rfl gX5_boat_X5_kindOf rfl rfl rfl hd_X5_kindOf ⟨by decide, by decide⟩ rfl rfl (Nat.le_of_ble_eq_true rfl) dX5_boat_83 ?_
            exact v_iret hC hR (congrArg (fun z : Int32 => some (Value.int z)) (by simp [boatM, boatV, show inB 0 0 5 = true by decide, show inB 1 0 5 = true by decide, show inB 2 0 5 = true by decide, show inB 3 0 5 = true by decide, show inB 4 0 5 = true by decide, c5, hik, c17, hiq, c26, c38, c38', c45_0])) rfl dX5_boat_86
          by_cases c45_1 : what = 1
          · refine v_topi c45_1 ?_
            refine v_tabIn (x := 1) (tgt := 87) hC dX5_boat_45 (by decide) (by decide) rfl (by decide) ?_
            refine v_aload_n hC dX5_boat_87 0 rfl ?_
            refine v_iload_n hC dX5_boat_88 1 rfl ?_
            refine v_iload_n hC dX5_boat_89 2 rfl ?_
            refine v_callVr (v := .int (nI (manyN (yn Y) k q))) (C2 := CC Λ X Y) (As := [.int (nI k), .int (nI q)]) (rest := []) hC 2 204 (c_X5_manyIn Λ X Y (s := k) (b := q) (by omega) (by omega)) (nR_of (by decide)) (cc_204 Λ X Y) rfl gX5_boat_X5_manyIn rfl rfl rfl hd_X5_manyIn ⟨by decide, by decide⟩ rfl rfl (Nat.le_of_ble_eq_true rfl) dX5_boat_90 ?_
            have hm90 := manyN_le (yn Y) k q
            exact v_iret hC hR (congrArg (fun z : Int32 => some (Value.int z)) (by simp [boatM, boatV, show inB 0 0 5 = true by decide, show inB 1 0 5 = true by decide, show inB 2 0 5 = true by decide, show inB 3 0 5 = true by decide, show inB 4 0 5 = true by decide, c5, hik, c17, hiq, c26, c38, c38', c45_1])) rfl dX5_boat_93
          by_cases c45_2 : what = 2
          · refine v_topi c45_2 ?_
            refine v_tabIn (x := 2) (tgt := 94) hC dX5_boat_45 (by decide) (by decide) rfl (by decide) ?_
            refine v_aload_n hC dX5_boat_94 0 rfl ?_
            refine v_iload_n hC dX5_boat_95 1 rfl ?_
            refine v_iload_n hC dX5_boat_96 2 rfl ?_
            refine v_callVr (v := .int (nI (runsN (yn Y) k q))) (C2 := CC Λ X Y) (As := [.int (nI k), .int (nI q)]) (rest := []) hC 2 204 (c_X5_runsIn Λ X Y (s := k) (b := q) (by omega) (by omega)) (nR_of (by decide)) (cc_204 Λ X Y) rfl gX5_boat_X5_runsIn rfl rfl rfl hd_X5_runsIn ⟨by decide, by decide⟩ rfl rfl (Nat.le_of_ble_eq_true rfl) dX5_boat_97 ?_
            have hm97 := runsN_le (yn Y) k q
            exact v_iret hC hR (congrArg (fun z : Int32 => some (Value.int z)) (by simp [boatM, boatV, show inB 0 0 5 = true by decide, show inB 1 0 5 = true by decide, show inB 2 0 5 = true by decide, show inB 3 0 5 = true by decide, show inB 4 0 5 = true by decide, c5, hik, c17, hiq, c26, c38, c38', c45_2])) rfl dX5_boat_100
          by_cases c45_3 : what = 3
          · refine v_topi c45_3 ?_
            refine v_tabIn (x := 3) (tgt := 101) hC dX5_boat_45 (by decide) (by decide) rfl (by decide) ?_
            refine v_aload_n hC dX5_boat_101 0 rfl ?_
            refine v_iload_n hC dX5_boat_102 1 rfl ?_
            refine v_iload_n hC dX5_boat_103 2 rfl ?_
            refine v_callVr (v := .int (unitsN (yn Y) k q)) (C2 := CC Λ X Y) (As := [.int (nI k), .int (nI q)]) (rest := []) hC 2 204 (c_X5_unitsOf Λ X Y (s := k) (b := q) (by omega) (by omega)) (nR_of (by decide)) (cc_204 Λ X Y) rfl gX5_boat_X5_unitsOf rfl rfl rfl hd_X5_unitsOf ⟨by decide, by decide⟩ rfl rfl (Nat.le_of_ble_eq_true rfl) dX5_boat_104 ?_
            exact v_iret hC hR (congrArg (fun z : Int32 => some (Value.int z)) (by simp [boatM, boatV, show inB 0 0 5 = true by decide, show inB 1 0 5 = true by decide, show inB 2 0 5 = true by decide, show inB 3 0 5 = true by decide, show inB 4 0 5 = true by decide, c5, hik, c17, hiq, c26, c38, c38', c45_3])) rfl dX5_boat_107
          by_cases c45_4 : what = 4
          · refine v_topi c45_4 ?_
            refine v_tabIn (x := 4) (tgt := 108) hC dX5_boat_45 (by decide) (by decide) rfl (by decide) ?_
            refine v_aload_n hC dX5_boat_108 0 rfl ?_
            refine v_iload_n hC dX5_boat_109 1 rfl ?_
            refine v_iload_n hC dX5_boat_110 2 rfl ?_
            refine v_callVr (v := .int (bestN (yn Y) k q)) (C2 := CC Λ X Y) (As := [.int (nI k), .int (nI q)]) (rest := []) hC 2 204 (c_X5_bestOf Λ X Y (s := k) (b := q) (by omega) (by omega)) (nR_of (by decide)) (cc_204 Λ X Y) rfl gX5_boat_X5_bestOf rfl rfl rfl hd_X5_bestOf ⟨by decide, by decide⟩ rfl rfl (Nat.le_of_ble_eq_true rfl) dX5_boat_111 ?_
            exact v_iret hC hR (congrArg (fun z : Int32 => some (Value.int z)) (by simp [boatM, boatV, show inB 0 0 5 = true by decide, show inB 1 0 5 = true by decide, show inB 2 0 5 = true by decide, show inB 3 0 5 = true by decide, show inB 4 0 5 = true by decide, c5, hik, c17, hiq, c26, c38, c38', c45_4])) rfl dX5_boat_114
          refine v_tabOut (tgt := 115) hC dX5_boat_45 (by have q0 := i32_ne (n := 0) c45_0 (by decide); have q1 := i32_ne (n := 1) c45_1 (by decide); have q2 := i32_ne (n := 2) c45_2 (by decide); have q3 := i32_ne (n := 3) c45_3 (by decide); have q4 := i32_ne (n := 4) c45_4 (by decide); omega) (by decide) ?_
          refine v_aload_n hC dX5_boat_115 0 rfl ?_
          refine v_iload_n hC dX5_boat_116 1 rfl ?_
          refine v_iload_n hC dX5_boat_117 2 rfl ?_
          refine v_callVr (v := .int (tollN (yn Y) k q)) (C2 := CC Λ X Y) (As := [.int (nI k), .int (nI q)]) (rest := []) hC 2 204 (c_X5_tollOf Λ X Y (s := k) (b := q) (by omega) (by omega)) (nR_of (by decide)) (cc_204 Λ X Y) rfl gX5_boat_X5_tollOf rfl rfl rfl hd_X5_tollOf ⟨by decide, by decide⟩ rfl rfl (Nat.le_of_ble_eq_true rfl) dX5_boat_118 ?_
          exact v_iret hC hR (congrArg (fun z : Int32 => some (Value.int z)) (by simp [boatM, boatV, show inB 0 0 5 = true by decide, show inB 1 0 5 = true by decide, show inB 2 0 5 = true by decide, show inB 3 0 5 = true by decide, show inB 4 0 5 = true by decide, c5, hik, c17, hiq, c26, c38, c38', c45_0, c45_1, c45_2, c45_3, c45_4])) rfl dX5_boat_121
        · have c38' := Int32.not_le.mp c38
          refine v_bipush (v := (-5)) hC dX5_boat_41 (by decide) ?_
          exact v_iret hC hR (congrArg (fun z : Int32 => some (Value.int z)) (by simp [boatM, boatV, show inB 0 0 5 = true by decide, show inB 1 0 5 = true by decide, show inB 2 0 5 = true by decide, show inB 3 0 5 = true by decide, show inB 4 0 5 = true by decide, c5, hik, c17, hiq, c26, c38, c38'])) rfl dX5_boat_43
      · skip
        refine v_bipush (v := (-2)) hC dX5_boat_29 (by decide) ?_
        exact v_iret hC hR (congrArg (fun z : Int32 => some (Value.int z)) (by simp [boatM, boatV, show inB 0 0 5 = true by decide, show inB 1 0 5 = true by decide, show inB 2 0 5 = true by decide, show inB 3 0 5 = true by decide, show inB 4 0 5 = true by decide, c5, hik, c17, hiq, c26])) rfl dX5_boat_31
  · skip
    refine v_iconst (v := (-1)) hC dX5_boat_8 (by decide) ?_
    exact v_iret hC hR (congrArg (fun z : Int32 => some (Value.int z)) (by simp [boatM, boatV, show inB 0 0 5 = true by decide, show inB 1 0 5 = true by decide, show inB 2 0 5 = true by decide, show inB 3 0 5 = true by decide, show inB 4 0 5 = true by decide, c5])) rfl dX5_boat_9

theorem in_X5_type_X5 : ∀ w ∈ wsX50, w ∈ wsX5_type := by decide +kernel
theorem fl_X5_type_136 : Cond.fieldLink RX5 136 "BoatSetsModel" "typed" "I" ∈ wsX5_type := by decide +kernel
theorem fl_X5_type_22 : Cond.fieldLink RX5 22 "BoatSetsModel" "text" "[I" ∈ wsX5_type := by decide +kernel
theorem hd_X5_type : yX5_type.cls = RX5 ∧ yX5_type.cls ≠ "java/lang/invoke/MethodHandle" ∧ yX5_type.cls ≠ "java/lang/invoke/VarHandle" ∧ (parseMethodDescriptor yX5_type.desc).map (fun d => d.parameters.length) = some 1 := by decide +kernel
set_option maxHeartbeats 400000 in
set_option maxRecDepth 100000 in
theorem c_X5_type (Λ : Lk) (X : XS) (Y : YS) {ch : Int32} {ty : Nat} (hy : yy Y = nI ty) (hty : ty ≤ 60) : Con Λ yX5_type wsX5_type { frames := 0, cells := 0, slots := 0, locals := 0 } [rf Λ 204, .int ch] (CC Λ X Y) (some (.int ((typeP Y ty ch).1))) (CC Λ X ((typeP Y ty ch).2)) := by
  refine con_start (cc := cX5_type) (maxL := 2) (ret := (some .int)) (by decide) rfl (Nat.le_of_ble_eq_true rfl) ?_
  intro κ hC hR
  have hC : Ok Λ { frames := 0, cells := 0, slots := 0, locals := 0 } cX5_type wsX5_type RX5 2 κ := hC
  refine v_args (lv' := [(0, rf Λ 204), (1, .int ch)]) rfl ?_
  refine v_aload_n hC dX5_type_0 0 rfl ?_
  refine v_get (T := TX5) (N := 13) (v := .int (yy Y)) hC 204 (nR_of (by decide)) (cc_204 Λ X Y) in_X5_type_X5 rfl 7 (by decide) fl_X5_type_136 rfl dX5_type_1 ?_
  refine v_topi (y := nI ty) hy ?_
  refine v_bipush (v := 60) hC dX5_type_4 (by decide) ?_
  refine v_nne (a := ty) (b := 60) (tgt := 12) hC dX5_type_6 (by decide) rfl rfl (by omega) (by omega) (fun c6 => ?_) (fun c6 => ?_)
  · skip
    refine v_aload_n hC dX5_type_12 0 rfl ?_
    refine v_get (T := TX5) (N := 13) (v := rf Λ 209) hC 204 (nR_of (by decide)) (cc_204 Λ X Y) in_X5_type_X5 rfl 6 (by decide) fl_X5_type_22 rfl dX5_type_13 ?_
    refine v_aload_n hC dX5_type_16 0 rfl ?_
    refine v_get (T := TX5) (N := 13) (v := .int (yy Y)) hC 204 (nR_of (by decide)) (cc_204 Λ X Y) in_X5_type_X5 rfl 7 (by decide) fl_X5_type_136 rfl dX5_type_17 ?_
    refine v_topi (y := nI ty) hy ?_
    refine v_iload_n hC dX5_type_20 1 rfl ?_
    refine v_iast (n := 60) (f := (yx Y)) hC 209 (nR_of (by decide)) (cc_209 Λ X Y) ty rfl (by omega) (by decide) dX5_type_21 ?_
    refine v_mem (cs_yx Λ X Y (upd (yx Y) ty ch)) ?_
    refine v_aload_n hC dX5_type_22 0 rfl ?_
    refine v_dup hC dX5_type_23 rfl ?_
    refine v_get (T := TX5) (N := 13) (v := .int (yy Y)) hC 204 (nR_of (by decide)) (cc_204 Λ X (yxS Y (upd (yx Y) ty ch))) in_X5_type_X5 rfl 7 (by decide) fl_X5_type_136 rfl dX5_type_24 ?_
    refine v_topi (y := nI ty) hy ?_
    refine v_iconst (v := 1) hC dX5_type_27 (by decide) ?_
    refine v_iadd (x := nI ty) (y := 1) hC dX5_type_28 ?_
    refine v_topi (y := nI (ty + 1)) (nI_add ty 1) ?_
    refine v_put (T := TX5) (N := 13) (v := .int (nI (ty + 1))) (ty := .int) hC 204 (nR_of (by decide)) (cc_204 Λ X (yxS Y (upd (yx Y) ty ch))) in_X5_type_X5 tyX5 tyX5_ok nmX5 rfl 7 (by decide) fl_X5_type_136 rfl (by decide +kernel) rfl rfl (Nat.le_of_ble_eq_true rfl) dX5_type_29 ?_
    refine v_mem (cs_yy Λ X (yxS Y (upd (yx Y) ty ch)) (nI (ty + 1))) ?_
    refine v_aload_n hC dX5_type_32 0 rfl ?_
    refine v_get (T := TX5) (N := 13) (v := .int (nI (ty + 1))) hC 204 (nR_of (by decide)) (cc_204 Λ X (yyS (yxS Y (upd (yx Y) ty ch)) (nI (ty + 1)))) in_X5_type_X5 rfl 7 (by decide) fl_X5_type_136 rfl dX5_type_33 ?_
    have e : typeP Y ty ch = (nI (ty + 1), (yyS (yxS Y (upd (yx Y) ty ch)) (nI (ty + 1)))) := by simp [typeP, c6]
    exact v_iretP hC hR e dX5_type_36
  · skip
    refine v_bipush (v := (-3)) hC dX5_type_9 (by decide) ?_
    have e : typeP Y ty ch = ((-3), Y) := by simp [typeP, c6]
    exact v_iretP hC hR e dX5_type_11

theorem in_X5_clearText_X5 : ∀ w ∈ wsX50, w ∈ wsX5_clearText := by decide +kernel
theorem fl_X5_clearText_136 : Cond.fieldLink RX5 136 "BoatSetsModel" "typed" "I" ∈ wsX5_clearText := by decide +kernel
theorem hd_X5_clearText : yX5_clearText.cls = RX5 ∧ yX5_clearText.cls ≠ "java/lang/invoke/MethodHandle" ∧ yX5_clearText.cls ≠ "java/lang/invoke/VarHandle" ∧ (parseMethodDescriptor yX5_clearText.desc).map (fun d => d.parameters.length) = some 0 := by decide +kernel
set_option maxHeartbeats 400000 in
set_option maxRecDepth 100000 in
theorem c_X5_clearText (Λ : Lk) (X : XS) (Y : YS) {ty : Nat} (hy : yy Y = nI ty) (hty : ty ≤ 60) : Con Λ yX5_clearText wsX5_clearText { frames := 0, cells := 0, slots := 0, locals := 0 } [rf Λ 204] (CC Λ X Y) (some (.int ((((nI ty, yyS Y 0) : Int32 × YS)).1))) (CC Λ X ((((nI ty, yyS Y 0) : Int32 × YS)).2)) := by
  refine con_start (cc := cX5_clearText) (maxL := 2) (ret := (some .int)) (by decide) rfl (Nat.le_of_ble_eq_true rfl) ?_
  intro κ hC hR
  have hC : Ok Λ { frames := 0, cells := 0, slots := 0, locals := 0 } cX5_clearText wsX5_clearText RX5 2 κ := hC
  refine v_args (lv' := [(0, rf Λ 204)]) rfl ?_
  refine v_aload_n hC dX5_clearText_0 0 rfl ?_
  refine v_get (T := TX5) (N := 13) (v := .int (yy Y)) hC 204 (nR_of (by decide)) (cc_204 Λ X Y) in_X5_clearText_X5 rfl 7 (by decide) fl_X5_clearText_136 rfl dX5_clearText_1 ?_
  refine v_topi (y := nI ty) hy ?_
  refine v_istore_n (lv' := [(1, .int (nI ty)), (0, rf Λ 204)]) hC dX5_clearText_4 (by decide) rfl ?_
  refine v_aload_n hC dX5_clearText_5 1 rfl ?_
  refine v_iconst (v := 0) hC dX5_clearText_6 (by decide) ?_
  refine v_put (T := TX5) (N := 13) (v := .int 0) (ty := .int) hC 204 (nR_of (by decide)) (cc_204 Λ X Y) in_X5_clearText_X5 tyX5 tyX5_ok nmX5 rfl 7 (by decide) fl_X5_clearText_136 rfl (by decide +kernel) rfl rfl (Nat.le_of_ble_eq_true rfl) dX5_clearText_7 ?_
  refine v_mem (cs_yy Λ X Y 0) ?_
  refine v_iload_n hC dX5_clearText_10 0 rfl ?_
  have e : ((nI ty, yyS Y 0) : Int32 × YS) = (nI ty, (yyS Y 0)) := by rfl
  exact v_iretP hC hR e dX5_clearText_11
