theorem in_X5_ranges_X5 : ∀ w ∈ wsX50, w ∈ wsX5_ranges := by decide +kernel
theorem fl_X5_ranges_7 : Cond.fieldLink RX5 7 "BoatSetsModel" "now" "[I" ∈ wsX5_ranges := by decide +kernel
theorem fl_X5_ranges_19 : Cond.fieldLink RX5 19 "BoatSetsModel" "trial" "[I" ∈ wsX5_ranges := by decide +kernel
theorem hd_X5_ranges : yX5_ranges.cls = RX5 ∧ yX5_ranges.cls ≠ "java/lang/invoke/MethodHandle" ∧ yX5_ranges.cls ≠ "java/lang/invoke/VarHandle" ∧ (parseMethodDescriptor yX5_ranges.desc).map (fun d => d.parameters.length) = some 4 := by decide +kernel
set_option maxHeartbeats 400000 in
set_option maxRecDepth 100000 in
theorem c_X5_ranges (Λ : Lk) (X : XS) (Y : YS) {s : Int32} {lo : Int32} {hi : Int32} {c : Bool} {ns : Nat} {p : Nat} (h0 : yn Y 0 = nI ns) (hns : ns ≤ 6) (hz : yz Y = nI p) (hp : p ≤ 4) : Con Λ yX5_ranges wsX5_ranges { frames := 8, cells := 0, slots := 0, locals := 186 } [rf Λ 204, .int s, .int lo, .int hi, .int (bI c)] (CC Λ X Y) (some (.int ((rngP Y p s lo hi c).1))) (CC Λ X ((rngP Y p s lo hi c).2)) := by
  refine con_start (cc := cX5_ranges) (maxL := 5) (ret := (some .int)) (by decide) rfl (Nat.le_of_ble_eq_true rfl) ?_
  intro κ hC hR
  have hC : Ok Λ { frames := 8, cells := 0, slots := 0, locals := 186 } cX5_ranges wsX5_ranges RX5 5 κ := hC
  refine v_args (lv' := [(0, rf Λ 204), (1, .int s), (2, .int lo), (3, .int hi), (4, .int (bI c))]) rfl ?_
  refine v_aload_n hC dX5_ranges_0 0 rfl ?_
  refine v_iload_n hC dX5_ranges_1 1 rfl ?_
  refine v_callVr (v := .int (bI (isSBm (yn Y) s))) (C2 := CC Λ X Y) (As := [.int s]) (rest := []) hC 1 204 (c_X5_isSet Λ X Y (s := s)) (nR_of (by decide)) (cc_204 Λ X Y) rfl gX5_ranges_X5_isSet rfl rfl rfl hd_X5_isSet ⟨by decide, by decide⟩ rfl rfl (Nat.le_of_ble_eq_true rfl) dX5_ranges_2 ?_
  refine v_bne (b := isSBm (yn Y) s) (tgt := 10) hC dX5_ranges_5 (by decide) (fun c5 => ?_) (fun c5 => ?_)
  · skip
    obtain ⟨k, hk, rfl⟩ := isS_of h0 hns c5
    have hik : ix (nI k) = k := ix_nI (by omega)
    refine v_iload_n hC dX5_ranges_10 2 rfl ?_
    refine v_callSr (v := .int (bI (inB lo 0 2047))) (C2 := CC Λ X Y) (As := [.int lo]) (rest := []) hC 1 (c_X5_isNumber Λ X Y (v := lo)) gX5_ranges_X5_isNumber rfl rfl rfl hd_X5_isNumber ⟨by decide, by decide⟩ rfl rfl (Nat.le_of_ble_eq_true rfl) dX5_ranges_11 ?_
    refine v_beq (b := inB lo 0 2047) (tgt := 28) hC dX5_ranges_14 (by decide) (fun c14 => ?_) (fun c14 => ?_)
    · skip
      refine v_bipush (v := (-2)) hC dX5_ranges_28 (by decide) ?_
      have e : rngP Y p (nI k) lo hi c = ((-2), Y) := by simp [rngP, c5, hik, c14]
      exact v_iretP hC hR e dX5_ranges_30
    · skip
      obtain ⟨q, hq, rfl⟩ := isN_of c14
      have hiq : ix (nI q) = q := ix_nI (by omega)
      refine v_iload_n hC dX5_ranges_17 3 rfl ?_
      refine v_iload_n hC dX5_ranges_18 2 rfl ?_
      refine v_sipush (v := 2047) hC dX5_ranges_19 (by decide) ?_
      refine v_callSr (v := .int (bI (inB hi (nI q) 2047))) (C2 := CC Λ X Y) (As := [.int hi, .int (nI q), .int 2047]) (rest := []) hC 3 (c_X5_in Λ X Y (v := hi) (lo := nI q) (hi := 2047)) gX5_ranges_X5_in rfl rfl rfl hd_X5_in ⟨by decide, by decide⟩ rfl rfl (Nat.le_of_ble_eq_true rfl) dX5_ranges_22 ?_
      refine v_bne (b := inB hi (nI q) 2047) (tgt := 31) hC dX5_ranges_25 (by decide) (fun c25 => ?_) (fun c25 => ?_)
      · skip
        obtain ⟨q2, hq2, hq3, rfl⟩ := inL_of c25 (by omega)
        have hiq2 : ix (nI q2) = q2 := ix_nI (by omega)
        refine v_aload_n hC dX5_ranges_31 0 rfl ?_
        refine v_get (T := TX5) (N := 13) (v := rf Λ 205) hC 204 (nR_of (by decide)) (cc_204 Λ X Y) in_X5_ranges_X5 rfl 0 (by decide) fl_X5_ranges_7 rfl dX5_ranges_32 ?_
        refine v_iconst (v := 0) hC dX5_ranges_35 (by decide) ?_
        refine v_aload_n hC dX5_ranges_36 0 rfl ?_
        refine v_get (T := TX5) (N := 13) (v := rf Λ 208) hC 204 (nR_of (by decide)) (cc_204 Λ X Y) in_X5_ranges_X5 rfl 5 (by decide) fl_X5_ranges_19 rfl dX5_ranges_37 ?_
        refine v_iconst (v := 0) hC dX5_ranges_40 (by decide) ?_
        refine v_callSv (As := [rf Λ 205, .int 0, rf Λ 208, .int 0]) (rest := []) hC 4 (c_X5_copies Λ (CC Λ X Y) (a := 0) (c := 0) (f := (yn Y)) (g := (yt Y)) (cc_205 Λ X Y) (cc_208 Λ X Y) (by decide) (nR_of (by decide)) (nR_of (by decide)) (by omega) (by omega) (by decide) (by decide)) gX5_ranges_X5_copies rfl rfl rfl hd_X5_copies ⟨by decide, by decide⟩ rfl rfl (Nat.le_of_ble_eq_true rfl) dX5_ranges_41 ?_
        refine v_mem (cs_yt Λ X Y (cpyK (yn Y) (yt Y) 0 0 451)) ?_
        refine v_congr (C' := CC Λ X (ytS Y (yn Y))) (cg_y (Λ := Λ) (X := X) (Y := Y) (f := (cpyK (yn Y) (yt Y) 0 0 451)) (f' := (yn Y)) cp_0).2.1 ?_
        refine v_aload_n hC dX5_ranges_44 0 rfl ?_
        refine v_aload_n hC dX5_ranges_45 0 rfl ?_
        refine v_iload_n hC dX5_ranges_46 1 rfl ?_
        refine v_iload_n hC dX5_ranges_47 2 rfl ?_
        refine v_iload_n hC dX5_ranges_48 3 rfl ?_
        refine v_iload hC dX5_ranges_49 4 rfl ?_
        refine v_callVr (v := .int ((gaN k c (q2 + 1 - q) q 0 (yn Y)).2)) (C2 := CC Λ X (ynS (ytS Y (yn Y)) ((gaN k c (q2 + 1 - q) q 0 (yn Y)).1))) (As := [.int (nI k), .int (nI q), .int (nI q2), .int (bI c)]) (rest := [rf Λ 204]) hC 4 204 (c_X5_goesAll Λ X (ytS Y (yn Y)) (s := k) (lo := q) (hi := q2) (comes := c) (by omega) (by omega) (by omega)) (nR_of (by decide)) (cc_204 Λ X (ytS Y (yn Y))) rfl gX5_ranges_X5_goesAll rfl rfl rfl hd_X5_goesAll ⟨by decide, by decide⟩ rfl rfl (Nat.le_of_ble_eq_true rfl) dX5_ranges_51 ?_
        refine v_callVr (v := .int ((endsM (ynS (ytS Y (yn Y)) ((gaN k c (q2 + 1 - q) q 0 (yn Y)).1)) p ((gaN k c (q2 + 1 - q) q 0 (yn Y)).2)).1)) (C2 := CC Λ X ((endsM (ynS (ytS Y (yn Y)) ((gaN k c (q2 + 1 - q) q 0 (yn Y)).1)) p ((gaN k c (q2 + 1 - q) q 0 (yn Y)).2)).2)) (As := [.int ((gaN k c (q2 + 1 - q) q 0 (yn Y)).2)]) (rest := []) hC 1 204 (c_X5_ends Λ X (ynS (ytS Y (yn Y)) ((gaN k c (q2 + 1 - q) q 0 (yn Y)).1)) (m := (gaN k c (q2 + 1 - q) q 0 (yn Y)).2) hz (by omega)) (nR_of (by decide)) (cc_204 Λ X (ynS (ytS Y (yn Y)) ((gaN k c (q2 + 1 - q) q 0 (yn Y)).1))) rfl gX5_ranges_X5_ends rfl rfl rfl hd_X5_ends ⟨by decide, by decide⟩ rfl rfl (Nat.le_of_ble_eq_true rfl) dX5_ranges_54 ?_
        have e : rngP Y p (nI k) (nI q) (nI q2) c = ((endsM (ynS (ytS Y (yn Y)) ((gaN k c (q2 + 1 - q) q 0 (yn Y)).1)) p ((gaN k c (q2 + 1 - q) q 0 (yn Y)).2)).1, (endsM (ynS (ytS Y (yn Y)) ((gaN k c (q2 + 1 - q) q 0 (yn Y)).1)) p ((gaN k c (q2 + 1 - q) q 0 (yn Y)).2)).2) := by simp [rngP, c5, hik, c14, hiq, c25, hiq2]
        exact v_iretP hC hR e dX5_ranges_57
      · skip
        refine v_bipush (v := (-2)) hC dX5_ranges_28 (by decide) ?_
        have e : rngP Y p (nI k) (nI q) hi c = ((-2), Y) := by simp [rngP, c5, hik, c14, hiq, c25]
        exact v_iretP hC hR e dX5_ranges_30
  · skip
    refine v_iconst (v := (-1)) hC dX5_ranges_8 (by decide) ?_
    have e : rngP Y p s lo hi c = ((-1), Y) := by simp [rngP, c5]
    exact v_iretP hC hR e dX5_ranges_9

theorem hd_X5_addRange : yX5_addRange.cls = RX5 ∧ yX5_addRange.cls ≠ "java/lang/invoke/MethodHandle" ∧ yX5_addRange.cls ≠ "java/lang/invoke/VarHandle" ∧ (parseMethodDescriptor yX5_addRange.desc).map (fun d => d.parameters.length) = some 3 := by decide +kernel
set_option maxHeartbeats 400000 in
set_option maxRecDepth 100000 in
theorem c_X5_addRange (Λ : Lk) (X : XS) (Y : YS) {s : Int32} {lo : Int32} {hi : Int32} {ns : Nat} {p : Nat} (h0 : yn Y 0 = nI ns) (hns : ns ≤ 6) (hz : yz Y = nI p) (hp : p ≤ 4) : Con Λ yX5_addRange wsX5_addRange { frames := 9, cells := 0, slots := 0, locals := 210 } [rf Λ 204, .int s, .int lo, .int hi] (CC Λ X Y) (some (.int ((rngP Y p s lo hi true).1))) (CC Λ X ((rngP Y p s lo hi true).2)) := by
  refine con_start (cc := cX5_addRange) (maxL := 4) (ret := (some .int)) (by decide) rfl (Nat.le_of_ble_eq_true rfl) ?_
  intro κ hC hR
  have hC : Ok Λ { frames := 9, cells := 0, slots := 0, locals := 210 } cX5_addRange wsX5_addRange RX5 4 κ := hC
  refine v_args (lv' := [(0, rf Λ 204), (1, .int s), (2, .int lo), (3, .int hi)]) rfl ?_
  refine v_aload_n hC dX5_addRange_0 0 rfl ?_
  refine v_iload_n hC dX5_addRange_1 1 rfl ?_
  refine v_iload_n hC dX5_addRange_2 2 rfl ?_
  refine v_iload_n hC dX5_addRange_3 3 rfl ?_
  refine v_iconst (v := 1) hC dX5_addRange_4 (by decide) ?_
  refine v_callVr (v := .int ((rngP Y p s lo hi true).1)) (C2 := CC Λ X ((rngP Y p s lo hi true).2)) (As := [.int s, .int lo, .int hi, .int 1]) (rest := []) hC 4 204 (c_X5_ranges Λ X Y (s := s) (lo := lo) (hi := hi) (c := true) h0 hns hz (by omega)) (nR_of (by decide)) (cc_204 Λ X Y) rfl gX5_addRange_X5_ranges rfl rfl rfl hd_X5_ranges ⟨by decide, by decide⟩ rfl rfl (Nat.le_of_ble_eq_true rfl) dX5_addRange_5 ?_
  have e : rngP Y p s lo hi true = ((rngP Y p s lo hi true).1, (rngP Y p s lo hi true).2) := by rfl
  exact v_iretP hC hR e dX5_addRange_8

theorem hd_X5_removeRange : yX5_removeRange.cls = RX5 ∧ yX5_removeRange.cls ≠ "java/lang/invoke/MethodHandle" ∧ yX5_removeRange.cls ≠ "java/lang/invoke/VarHandle" ∧ (parseMethodDescriptor yX5_removeRange.desc).map (fun d => d.parameters.length) = some 3 := by decide +kernel
set_option maxHeartbeats 400000 in
set_option maxRecDepth 100000 in
theorem c_X5_removeRange (Λ : Lk) (X : XS) (Y : YS) {s : Int32} {lo : Int32} {hi : Int32} {ns : Nat} {p : Nat} (h0 : yn Y 0 = nI ns) (hns : ns ≤ 6) (hz : yz Y = nI p) (hp : p ≤ 4) : Con Λ yX5_removeRange wsX5_removeRange { frames := 9, cells := 0, slots := 0, locals := 210 } [rf Λ 204, .int s, .int lo, .int hi] (CC Λ X Y) (some (.int ((rngP Y p s lo hi false).1))) (CC Λ X ((rngP Y p s lo hi false).2)) := by
  refine con_start (cc := cX5_removeRange) (maxL := 4) (ret := (some .int)) (by decide) rfl (Nat.le_of_ble_eq_true rfl) ?_
  intro κ hC hR
  have hC : Ok Λ { frames := 9, cells := 0, slots := 0, locals := 210 } cX5_removeRange wsX5_removeRange RX5 4 κ := hC
  refine v_args (lv' := [(0, rf Λ 204), (1, .int s), (2, .int lo), (3, .int hi)]) rfl ?_
  refine v_aload_n hC dX5_removeRange_0 0 rfl ?_
  refine v_iload_n hC dX5_removeRange_1 1 rfl ?_
  refine v_iload_n hC dX5_removeRange_2 2 rfl ?_
  refine v_iload_n hC dX5_removeRange_3 3 rfl ?_
  refine v_iconst (v := 0) hC dX5_removeRange_4 (by decide) ?_
  refine v_callVr (v := .int ((rngP Y p s lo hi false).1)) (C2 := CC Λ X ((rngP Y p s lo hi false).2)) (As := [.int s, .int lo, .int hi, .int 0]) (rest := []) hC 4 204 (c_X5_ranges Λ X Y (s := s) (lo := lo) (hi := hi) (c := false) h0 hns hz (by omega)) (nR_of (by decide)) (cc_204 Λ X Y) rfl gX5_removeRange_X5_ranges rfl rfl rfl hd_X5_ranges ⟨by decide, by decide⟩ rfl rfl (Nat.le_of_ble_eq_true rfl) dX5_removeRange_5 ?_
  have e : rngP Y p s lo hi false = ((rngP Y p s lo hi false).1, (rngP Y p s lo hi false).2) := by rfl
  exact v_iretP hC hR e dX5_removeRange_8

theorem in_X5_combine_X5 : ∀ w ∈ wsX50, w ∈ wsX5_combine := by decide +kernel
theorem fl_X5_combine_7 : Cond.fieldLink RX5 7 "BoatSetsModel" "now" "[I" ∈ wsX5_combine := by decide +kernel
theorem fl_X5_combine_25 : Cond.fieldLink RX5 25 "BoatSetsModel" "given" "[I" ∈ wsX5_combine := by decide +kernel
theorem hd_X5_combine : yX5_combine.cls = RX5 ∧ yX5_combine.cls ≠ "java/lang/invoke/MethodHandle" ∧ yX5_combine.cls ≠ "java/lang/invoke/VarHandle" ∧ (parseMethodDescriptor yX5_combine.desc).map (fun d => d.parameters.length) = some 4 := by decide +kernel
set_option maxHeartbeats 400000 in
set_option maxRecDepth 100000 in
theorem c_X5_combine (Λ : Lk) (X : XS) (Y : YS) {how : Int32} {t : Int32} {s : Int32} {o : Int32} {ns : Nat} {p : Nat} (h0 : yn Y 0 = nI ns) (hns : ns ≤ 6) (hz : yz Y = nI p) (hp : p ≤ 4) : Con Λ yX5_combine wsX5_combine { frames := 4, cells := 0, slots := 0, locals := 90 } [rf Λ 204, .int how, .int t, .int s, .int o] (CC Λ X Y) (some (.int ((combP Y p how t s o).1))) (CC Λ X ((combP Y p how t s o).2)) := by
  refine con_start (cc := cX5_combine) (maxL := 7) (ret := (some .int)) (by decide) rfl (Nat.le_of_ble_eq_true rfl) ?_
  intro κ hC hR
  have hC : Ok Λ { frames := 4, cells := 0, slots := 0, locals := 90 } cX5_combine wsX5_combine RX5 7 κ := hC
  refine v_args (lv' := [(0, rf Λ 204), (1, .int how), (2, .int t), (3, .int s), (4, .int o)]) rfl ?_
  refine v_aload_n hC dX5_combine_0 0 rfl ?_
  refine v_iload_n hC dX5_combine_1 2 rfl ?_
  refine v_callVr (v := .int (bI (isSBm (yn Y) t))) (C2 := CC Λ X Y) (As := [.int t]) (rest := []) hC 1 204 (c_X5_isSet Λ X Y (s := t)) (nR_of (by decide)) (cc_204 Λ X Y) rfl gX5_combine_X5_isSet rfl rfl rfl hd_X5_isSet ⟨by decide, by decide⟩ rfl rfl (Nat.le_of_ble_eq_true rfl) dX5_combine_2 ?_
  refine v_beq (b := isSBm (yn Y) t) (tgt := 25) hC dX5_combine_5 (by decide) (fun c5 => ?_) (fun c5 => ?_)
  · skip
    refine v_iconst (v := (-1)) hC dX5_combine_25 (by decide) ?_
    have e : combP Y p how t s o = ((-1), Y) := by simp [combP, recM, c5]
    exact v_iretP hC hR e dX5_combine_26
  · skip
    obtain ⟨k, hk, rfl⟩ := isS_of h0 hns c5
    have hik : ix (nI k) = k := ix_nI (by omega)
    refine v_aload_n hC dX5_combine_8 0 rfl ?_
    refine v_iload_n hC dX5_combine_9 3 rfl ?_
    refine v_callVr (v := .int (bI (isSBm (yn Y) s))) (C2 := CC Λ X Y) (As := [.int s]) (rest := []) hC 1 204 (c_X5_isSet Λ X Y (s := s)) (nR_of (by decide)) (cc_204 Λ X Y) rfl gX5_combine_X5_isSet rfl rfl rfl hd_X5_isSet ⟨by decide, by decide⟩ rfl rfl (Nat.le_of_ble_eq_true rfl) dX5_combine_10 ?_
    refine v_beq (b := isSBm (yn Y) s) (tgt := 25) hC dX5_combine_13 (by decide) (fun c13 => ?_) (fun c13 => ?_)
    · skip
      refine v_iconst (v := (-1)) hC dX5_combine_25 (by decide) ?_
      have e : combP Y p how (nI k) s o = ((-1), Y) := by simp [combP, recM, c5, hik, c13]
      exact v_iretP hC hR e dX5_combine_26
    · skip
      obtain ⟨k2, hk2, rfl⟩ := isS_of h0 hns c13
      have hik2 : ix (nI k2) = k2 := ix_nI (by omega)
      refine v_aload_n hC dX5_combine_16 0 rfl ?_
      refine v_iload hC dX5_combine_17 4 rfl ?_
      refine v_callVr (v := .int (bI (isSBm (yn Y) o))) (C2 := CC Λ X Y) (As := [.int o]) (rest := []) hC 1 204 (c_X5_isSet Λ X Y (s := o)) (nR_of (by decide)) (cc_204 Λ X Y) rfl gX5_combine_X5_isSet rfl rfl rfl hd_X5_isSet ⟨by decide, by decide⟩ rfl rfl (Nat.le_of_ble_eq_true rfl) dX5_combine_19 ?_
      refine v_bne (b := isSBm (yn Y) o) (tgt := 27) hC dX5_combine_22 (by decide) (fun c22 => ?_) (fun c22 => ?_)
      · skip
        obtain ⟨k3, hk3, rfl⟩ := isS_of h0 hns c22
        have hik3 : ix (nI k3) = k3 := ix_nI (by omega)
        refine v_iload_n hC dX5_combine_27 1 rfl ?_
        refine v_iconst (v := 0) hC dX5_combine_28 (by decide) ?_
        refine v_iconst (v := 3) hC dX5_combine_29 (by decide) ?_
        refine v_callSr (v := .int (bI (inB how 0 3))) (C2 := CC Λ X Y) (As := [.int how, .int 0, .int 3]) (rest := []) hC 3 (c_X5_in Λ X Y (v := how) (lo := 0) (hi := 3)) gX5_combine_X5_in rfl rfl rfl hd_X5_in ⟨by decide, by decide⟩ rfl rfl (Nat.le_of_ble_eq_true rfl) dX5_combine_30 ?_
        refine v_bne (b := inB how 0 3) (tgt := 39) hC dX5_combine_33 (by decide) (fun c33 => ?_) (fun c33 => ?_)
        · skip
          refine v_aload_n hC dX5_combine_39 0 rfl ?_
          refine v_iload_n hC dX5_combine_40 2 rfl ?_
          refine v_iconst (v := 1) hC dX5_combine_41 (by decide) ?_
          refine v_callVr (v := .int (ofN (yn Y) k 1)) (C2 := CC Λ X Y) (As := [.int (nI k), .int 1]) (rest := []) hC 2 204 (c_X5_of Λ X Y (s := k) (w := 1) (by omega) (by omega)) (nR_of (by decide)) (cc_204 Λ X Y) rfl gX5_combine_X5_of rfl rfl rfl hd_X5_of ⟨by decide, by decide⟩ rfl rfl (Nat.le_of_ble_eq_true rfl) dX5_combine_42 ?_
          refine v_iconst (v := 1) hC dX5_combine_45 (by decide) ?_
          refine v_icmp_ne (x := ofN (yn Y) k 1) (y := 1) (tgt := 52) hC dX5_combine_46 (by decide) (fun c46 => ?_) (fun c46 => ?_)
          · skip
            refine v_aload_n hC dX5_combine_52 0 rfl ?_
            refine v_aload_n hC dX5_combine_53 0 rfl ?_
            refine v_get (T := TX5) (N := 13) (v := rf Λ 205) hC 204 (nR_of (by decide)) (cc_204 Λ X Y) in_X5_combine_X5 rfl 0 (by decide) fl_X5_combine_7 rfl dX5_combine_54 ?_
            refine v_callVv (C2 := CC Λ X (yzS (ypS Y (pushN (yp Y) (yn Y) p)) (nI (pushZ p)))) (As := [rf Λ 205]) (rest := []) hC 1 204 (c_X5_records_n Λ X Y (p := p) hz (by omega)) (nR_of (by decide)) (cc_204 Λ X Y) rfl gX5_combine_X5_records rfl rfl rfl hd_X5_records ⟨by decide, by decide⟩ rfl rfl (Nat.le_of_ble_eq_true rfl) dX5_combine_57 ?_
            refine v_aload_n hC dX5_combine_60 0 rfl ?_
            refine v_iload_n hC dX5_combine_61 1 rfl ?_
            refine v_iload_n hC dX5_combine_62 3 rfl ?_
            refine v_iload hC dX5_combine_63 4 rfl ?_
            refine v_callVr (v := .int (nI (cnt (gbN (yn Y) how k2 k3) 0 2048))) (C2 := CC Λ X (ygS (yzS (ypS Y (pushN (yp Y) (yn Y) p)) (nI (pushZ p))) (gvN (gbN (yn Y) how k2 k3) (yg Y) 2048))) (As := [.int how, .int (nI k2), .int (nI k3)]) (rest := []) hC 3 204 (c_X5_laysGiven Λ X (yzS (ypS Y (pushN (yp Y) (yn Y) p)) (nI (pushZ p))) (how := how) (s := k2) (o := k3) (by omega) (by omega)) (nR_of (by decide)) (cc_204 Λ X (yzS (ypS Y (pushN (yp Y) (yn Y) p)) (nI (pushZ p)))) rfl gX5_combine_X5_laysGiven rfl rfl rfl hd_X5_laysGiven ⟨by decide, by decide⟩ rfl rfl (Nat.le_of_ble_eq_true rfl) dX5_combine_65 ?_
            have hg65 := cnt_le (gbN (yn Y) how k2 k3) 0 2048
            refine v_istore (lv' := [(5, .int (nI (cnt (gbN (yn Y) how k2 k3) 0 2048))), (0, rf Λ 204), (1, .int how), (2, .int (nI k)), (3, .int (nI k2)), (4, .int (nI k3))]) hC dX5_combine_68 (by decide) rfl ?_
            refine v_iconst (v := 0) hC dX5_combine_70 (by decide) ?_
            refine v_istore (lv' := [(6, .int 0), (5, .int (nI (cnt (gbN (yn Y) how k2 k3) 0 2048))), (0, rf Λ 204), (1, .int how), (2, .int (nI k)), (3, .int (nI k2)), (4, .int (nI k3))]) hC dX5_combine_71 (by decide) rfl ?_
            have L73 : ∀ (fu73 : Nat) (i : Nat) (x6 : Int32), i ≤ 64 → x6 = nI i → 64 - i < fu73 → V Λ κ (CC Λ X (ynS (ygS (yzS (ypS Y (pushN (yp Y) (yn Y) p)) (nI (pushZ p))) (gvN (gbN (yn Y) how k2 k3) (yg Y) 2048)) (layG (yn Y) (gvN (gbN (yn Y) how k2 k3) (yg Y) 2048) k i))) 73 [(0, rf Λ 204), (1, .int how), (2, .int (nI k)), (3, .int (nI k2)), (4, .int (nI k3)), (5, .int (nI (cnt (gbN (yn Y) how k2 k3) 0 2048))), (6, .int x6)] [] := by
              intro fu73
              induction fu73 with
              | zero => intro i x6 hi e6 hfu73; exact absurd hfu73 (Nat.not_lt_zero _)
              | succ fu73 ih73 =>
                intro i x6 hi e6 hfu73
                subst e6
                refine v_iload hC dX5_combine_73 6 rfl ?_
                refine v_bipush (v := 64) hC dX5_combine_75 (by decide) ?_
                refine v_nge (a := i) (b := 64) (tgt := 103) hC dX5_combine_77 (by decide) rfl rfl (by omega) (by omega) (fun c77 => ?_) (fun c77 => ?_)
                · have c77' := Nat.not_lt.mpr c77
                  have e_i : i = 64 := by omega
                  subst e_i
                  refine v_iconst (v := 0) hC dX5_combine_103 (by decide) ?_
                  refine v_istore (lv' := [(6, .int 0), (0, rf Λ 204), (1, .int how), (2, .int (nI k)), (3, .int (nI k2)), (4, .int (nI k3)), (5, .int (nI (cnt (gbN (yn Y) how k2 k3) 0 2048)))]) hC dX5_combine_104 (by decide) rfl ?_
                  have L106 : ∀ (fu106 : Nat) (j : Nat) (x6 : Int32), j ≤ 8 → x6 = nI j → 8 - j < fu106 → V Λ κ (CC Λ X (ynS (ygS (yzS (ypS Y (pushN (yp Y) (yn Y) p)) (nI (pushZ p))) (gvN (gbN (yn Y) how k2 k3) (yg Y) 2048)) (layK (layG (yn Y) (gvN (gbN (yn Y) how k2 k3) (yg Y) 2048) k 64) k j))) 106 [(0, rf Λ 204), (1, .int how), (2, .int (nI k)), (3, .int (nI k2)), (4, .int (nI k3)), (5, .int (nI (cnt (gbN (yn Y) how k2 k3) 0 2048))), (6, .int x6)] [] := by
                    intro fu106
                    induction fu106 with
                    | zero => intro j x6 hj e6 hfu106; exact absurd hfu106 (Nat.not_lt_zero _)
                    | succ fu106 ih106 =>
                      intro j x6 hj e6 hfu106
                      subst e6
                      refine v_iload hC dX5_combine_106 6 rfl ?_
                      refine v_bipush (v := 8) hC dX5_combine_108 (by decide) ?_
                      refine v_nge (a := j) (b := 8) (tgt := 151) hC dX5_combine_110 (by decide) rfl rfl (by omega) (by omega) (fun c110 => ?_) (fun c110 => ?_)
                      · have c110' := Nat.not_lt.mpr c110
                        have e_j : j = 8 := by omega
                        subst e_j
                        refine v_iload hC dX5_combine_151 5 rfl ?_
                        have e : combP Y p how (nI k) (nI k2) (nI k3) = (nI (cnt (gbN (yn Y) how k2 k3) 0 2048), (ynS (ygS (yzS (ypS Y (pushN (yp Y) (yn Y) p)) (nI (pushZ p))) (gvN (gbN (yn Y) how k2 k3) (yg Y) 2048)) (layK (layG (yn Y) (gvN (gbN (yn Y) how k2 k3) (yg Y) 2048) k 64) k 8))) := by simp [combP, recM, c5, hik, c13, hik2, c22, hik3, c33, c46, c77, c77', c110, c110']
                        exact v_iretP hC hR e dX5_combine_153
                      · have c110' := Nat.not_le.mpr c110
                        refine v_aload_n hC dX5_combine_113 0 rfl ?_
                        refine v_iload_n hC dX5_combine_114 2 rfl ?_
                        refine v_iconst (v := 3) hC dX5_combine_115 (by decide) ?_
                        refine v_iload hC dX5_combine_116 6 rfl ?_
                        refine v_iadd (x := 3) (y := nI j) hC dX5_combine_118 ?_
                        refine v_topi (y := nI (3 + j)) (nI_add 3 j) ?_
                        refine v_aload_n hC dX5_combine_119 0 rfl ?_
                        refine v_iload_n hC dX5_combine_120 2 rfl ?_
                        refine v_iload hC dX5_combine_121 6 rfl ?_
                        refine v_callVr (v := .int (nI (manyN (layK (layG (yn Y) (gvN (gbN (yn Y) how k2 k3) (yg Y) 2048) k 64) k j) k j))) (C2 := CC Λ X (ynS (ygS (yzS (ypS Y (pushN (yp Y) (yn Y) p)) (nI (pushZ p))) (gvN (gbN (yn Y) how k2 k3) (yg Y) 2048)) (layK (layG (yn Y) (gvN (gbN (yn Y) how k2 k3) (yg Y) 2048) k 64) k j))) (As := [.int (nI k), .int (nI j)]) (rest := [.int (nI (3 + j)), .int (nI k), rf Λ 204]) hC 2 204 (c_X5_manyIn Λ X (ynS (ygS (yzS (ypS Y (pushN (yp Y) (yn Y) p)) (nI (pushZ p))) (gvN (gbN (yn Y) how k2 k3) (yg Y) 2048)) (layK (layG (yn Y) (gvN (gbN (yn Y) how k2 k3) (yg Y) 2048) k 64) k j)) (s := k) (b := j) (by omega) (by omega)) (nR_of (by decide)) (cc_204 Λ X (ynS (ygS (yzS (ypS Y (pushN (yp Y) (yn Y) p)) (nI (pushZ p))) (gvN (gbN (yn Y) how k2 k3) (yg Y) 2048)) (layK (layG (yn Y) (gvN (gbN (yn Y) how k2 k3) (yg Y) 2048) k 64) k j))) rfl gX5_combine_X5_manyIn rfl rfl rfl hd_X5_manyIn ⟨by decide, by decide⟩ rfl rfl (Nat.le_of_ble_eq_true rfl) dX5_combine_123 ?_
                        have hm123 := manyN_le (layK (layG (yn Y) (gvN (gbN (yn Y) how k2 k3) (yg Y) 2048) k 64) k j) k j
                        refine v_zne (a := manyN (layK (layG (yn Y) (gvN (gbN (yn Y) how k2 k3) (yg Y) 2048) k 64) k j) k j) (tgt := 133) hC dX5_combine_126 (by decide) rfl (by omega) (fun c126 => ?_) (fun c126 => ?_)
                        · skip
                          refine v_aload_n hC dX5_combine_133 0 rfl ?_
                          refine v_iload_n hC dX5_combine_134 2 rfl ?_
                          refine v_iload hC dX5_combine_135 6 rfl ?_
                          refine v_callVr (v := .int (bestN (layK (layG (yn Y) (gvN (gbN (yn Y) how k2 k3) (yg Y) 2048) k 64) k j) k j)) (C2 := CC Λ X (ynS (ygS (yzS (ypS Y (pushN (yp Y) (yn Y) p)) (nI (pushZ p))) (gvN (gbN (yn Y) how k2 k3) (yg Y) 2048)) (layK (layG (yn Y) (gvN (gbN (yn Y) how k2 k3) (yg Y) 2048) k 64) k j))) (As := [.int (nI k), .int (nI j)]) (rest := [.int (nI (3 + j)), .int (nI k), rf Λ 204]) hC 2 204 (c_X5_bestOf Λ X (ynS (ygS (yzS (ypS Y (pushN (yp Y) (yn Y) p)) (nI (pushZ p))) (gvN (gbN (yn Y) how k2 k3) (yg Y) 2048)) (layK (layG (yn Y) (gvN (gbN (yn Y) how k2 k3) (yg Y) 2048) k 64) k j)) (s := k) (b := j) (by omega) (by omega)) (nR_of (by decide)) (cc_204 Λ X (ynS (ygS (yzS (ypS Y (pushN (yp Y) (yn Y) p)) (nI (pushZ p))) (gvN (gbN (yn Y) how k2 k3) (yg Y) 2048)) (layK (layG (yn Y) (gvN (gbN (yn Y) how k2 k3) (yg Y) 2048) k 64) k j))) rfl gX5_combine_X5_bestOf rfl rfl rfl hd_X5_bestOf ⟨by decide, by decide⟩ rfl rfl (Nat.le_of_ble_eq_true rfl) dX5_combine_137 ?_
                          refine v_iconst (v := 1) hC dX5_combine_140 (by decide) ?_
                          refine v_iadd (x := bestN (layK (layG (yn Y) (gvN (gbN (yn Y) how k2 k3) (yg Y) 2048) k 64) k j) k j) (y := 1) hC dX5_combine_141 ?_
                          refine v_callVv (C2 := CC Λ X (ynS (ynS (ygS (yzS (ypS Y (pushN (yp Y) (yn Y) p)) (nI (pushZ p))) (gvN (gbN (yn Y) how k2 k3) (yg Y) 2048)) (layK (layG (yn Y) (gvN (gbN (yn Y) how k2 k3) (yg Y) 2048) k 64) k j)) (layN (layK (layG (yn Y) (gvN (gbN (yn Y) how k2 k3) (yg Y) 2048) k 64) k j) k (3 + j) ((bestN (layK (layG (yn Y) (gvN (gbN (yn Y) how k2 k3) (yg Y) 2048) k 64) k j) k j) + 1)))) (As := [.int (nI k), .int (nI (3 + j)), .int ((bestN (layK (layG (yn Y) (gvN (gbN (yn Y) how k2 k3) (yg Y) 2048) k 64) k j) k j) + 1)]) (rest := []) hC 3 204 (c_X5_lays Λ X (ynS (ygS (yzS (ypS Y (pushN (yp Y) (yn Y) p)) (nI (pushZ p))) (gvN (gbN (yn Y) how k2 k3) (yg Y) 2048)) (layK (layG (yn Y) (gvN (gbN (yn Y) how k2 k3) (yg Y) 2048) k 64) k j)) (s := k) (w := 3 + j) (v := (bestN (layK (layG (yn Y) (gvN (gbN (yn Y) how k2 k3) (yg Y) 2048) k 64) k j) k j) + 1) (by omega) (by omega)) (nR_of (by decide)) (cc_204 Λ X (ynS (ygS (yzS (ypS Y (pushN (yp Y) (yn Y) p)) (nI (pushZ p))) (gvN (gbN (yn Y) how k2 k3) (yg Y) 2048)) (layK (layG (yn Y) (gvN (gbN (yn Y) how k2 k3) (yg Y) 2048) k 64) k j))) rfl gX5_combine_X5_lays rfl rfl rfl hd_X5_lays ⟨by decide, by decide⟩ rfl rfl (Nat.le_of_ble_eq_true rfl) dX5_combine_142 ?_
                          refine v_iinc (j := 6) (v := nI (j + 1)) (lv' := [(6, .int (nI (j + 1))), (0, rf Λ 204), (1, .int how), (2, .int (nI k)), (3, .int (nI k2)), (4, .int (nI k3)), (5, .int (nI (cnt (gbN (yn Y) how k2 k3) 0 2048)))]) hC dX5_combine_145 rfl (nI_add j 1) (by decide) rfl ?_
                          refine v_goto (tgt := 106) hC dX5_combine_148 (by decide) ?_
                          refine v_sub (lv' := [(0, rf Λ 204), (1, .int how), (2, .int (nI k)), (3, .int (nI k2)), (4, .int (nI k3)), (5, .int (nI (cnt (gbN (yn Y) how k2 k3) 0 2048))), (6, .int (nI (j + 1)))]) [1, 2, 3, 4, 5, 6, 0] rfl ?_
                          refine v_mem (C' := CC Λ X (ynS (ygS (yzS (ypS Y (pushN (yp Y) (yn Y) p)) (nI (pushZ p))) (gvN (gbN (yn Y) how k2 k3) (yg Y) 2048)) (layK (layG (yn Y) (gvN (gbN (yn Y) how k2 k3) (yg Y) 2048) k 64) k (j + 1)))) (mem_n (by simp only [layK, if_neg c126])) ?_
                          exact ih106 (j + 1) _ (by omega) rfl (by omega)
                        · skip
                          refine v_iconst (v := 0) hC dX5_combine_129 (by decide) ?_
                          refine v_goto (tgt := 142) hC dX5_combine_130 (by decide) ?_
                          refine v_callVv (C2 := CC Λ X (ynS (ynS (ygS (yzS (ypS Y (pushN (yp Y) (yn Y) p)) (nI (pushZ p))) (gvN (gbN (yn Y) how k2 k3) (yg Y) 2048)) (layK (layG (yn Y) (gvN (gbN (yn Y) how k2 k3) (yg Y) 2048) k 64) k j)) (layN (layK (layG (yn Y) (gvN (gbN (yn Y) how k2 k3) (yg Y) 2048) k 64) k j) k (3 + j) 0))) (As := [.int (nI k), .int (nI (3 + j)), .int 0]) (rest := []) hC 3 204 (c_X5_lays Λ X (ynS (ygS (yzS (ypS Y (pushN (yp Y) (yn Y) p)) (nI (pushZ p))) (gvN (gbN (yn Y) how k2 k3) (yg Y) 2048)) (layK (layG (yn Y) (gvN (gbN (yn Y) how k2 k3) (yg Y) 2048) k 64) k j)) (s := k) (w := 3 + j) (v := 0) (by omega) (by omega)) (nR_of (by decide)) (cc_204 Λ X (ynS (ygS (yzS (ypS Y (pushN (yp Y) (yn Y) p)) (nI (pushZ p))) (gvN (gbN (yn Y) how k2 k3) (yg Y) 2048)) (layK (layG (yn Y) (gvN (gbN (yn Y) how k2 k3) (yg Y) 2048) k 64) k j))) rfl gX5_combine_X5_lays rfl rfl rfl hd_X5_lays ⟨by decide, by decide⟩ rfl rfl (Nat.le_of_ble_eq_true rfl) dX5_combine_142 ?_
                          refine v_iinc (j := 6) (v := nI (j + 1)) (lv' := [(6, .int (nI (j + 1))), (0, rf Λ 204), (1, .int how), (2, .int (nI k)), (3, .int (nI k2)), (4, .int (nI k3)), (5, .int (nI (cnt (gbN (yn Y) how k2 k3) 0 2048)))]) hC dX5_combine_145 rfl (nI_add j 1) (by decide) rfl ?_
                          refine v_goto (tgt := 106) hC dX5_combine_148 (by decide) ?_
                          refine v_sub (lv' := [(0, rf Λ 204), (1, .int how), (2, .int (nI k)), (3, .int (nI k2)), (4, .int (nI k3)), (5, .int (nI (cnt (gbN (yn Y) how k2 k3) 0 2048))), (6, .int (nI (j + 1)))]) [1, 2, 3, 4, 5, 6, 0] rfl ?_
                          refine v_mem (C' := CC Λ X (ynS (ygS (yzS (ypS Y (pushN (yp Y) (yn Y) p)) (nI (pushZ p))) (gvN (gbN (yn Y) how k2 k3) (yg Y) 2048)) (layK (layG (yn Y) (gvN (gbN (yn Y) how k2 k3) (yg Y) 2048) k 64) k (j + 1)))) (mem_n (by simp only [layK, if_pos c126])) ?_
                          exact ih106 (j + 1) _ (by omega) rfl (by omega)
                  refine v_sub (lv' := [(0, rf Λ 204), (1, .int how), (2, .int (nI k)), (3, .int (nI k2)), (4, .int (nI k3)), (5, .int (nI (cnt (gbN (yn Y) how k2 k3) 0 2048))), (6, .int 0)]) [1, 2, 3, 4, 5, 6, 0] rfl ?_
                  refine v_mem (C' := CC Λ X (ynS (ygS (yzS (ypS Y (pushN (yp Y) (yn Y) p)) (nI (pushZ p))) (gvN (gbN (yn Y) how k2 k3) (yg Y) 2048)) (layK (layG (yn Y) (gvN (gbN (yn Y) how k2 k3) (yg Y) 2048) k 64) k 0))) rfl ?_
                  exact L106 _ 0 _ (by omega) rfl (Nat.lt_succ_self _)
                · have c77' := Nat.not_le.mpr c77
                  refine v_aload_n hC dX5_combine_80 0 rfl ?_
                  refine v_iload_n hC dX5_combine_81 2 rfl ?_
                  refine v_bipush (v := 11) hC dX5_combine_82 (by decide) ?_
                  refine v_iload hC dX5_combine_84 6 rfl ?_
                  refine v_iadd (x := 11) (y := nI i) hC dX5_combine_86 ?_
                  refine v_topi (y := nI (11 + i)) (nI_add 11 i) ?_
                  refine v_aload_n hC dX5_combine_87 0 rfl ?_
                  refine v_get (T := TX5) (N := 13) (v := rf Λ 210) hC 204 (nR_of (by decide)) (cc_204 Λ X (ynS (ygS (yzS (ypS Y (pushN (yp Y) (yn Y) p)) (nI (pushZ p))) (gvN (gbN (yn Y) how k2 k3) (yg Y) 2048)) (layG (yn Y) (gvN (gbN (yn Y) how k2 k3) (yg Y) 2048) k i))) in_X5_combine_X5 rfl 9 (by decide) fl_X5_combine_25 rfl dX5_combine_88 ?_
                  refine v_iload hC dX5_combine_91 6 rfl ?_
                  refine v_iald (n := 64) (f := (gvN (gbN (yn Y) how k2 k3) (yg Y) 2048)) hC 210 (nR_of (by decide)) (cc_210 Λ X (ynS (ygS (yzS (ypS Y (pushN (yp Y) (yn Y) p)) (nI (pushZ p))) (gvN (gbN (yn Y) how k2 k3) (yg Y) 2048)) (layG (yn Y) (gvN (gbN (yn Y) how k2 k3) (yg Y) 2048) k i))) i rfl (by omega) (by decide) dX5_combine_93 ?_
                  refine v_callVv (C2 := CC Λ X (ynS (ynS (ygS (yzS (ypS Y (pushN (yp Y) (yn Y) p)) (nI (pushZ p))) (gvN (gbN (yn Y) how k2 k3) (yg Y) 2048)) (layG (yn Y) (gvN (gbN (yn Y) how k2 k3) (yg Y) 2048) k i)) (layN (layG (yn Y) (gvN (gbN (yn Y) how k2 k3) (yg Y) 2048) k i) k (11 + i) ((gvN (gbN (yn Y) how k2 k3) (yg Y) 2048) i)))) (As := [.int (nI k), .int (nI (11 + i)), .int ((gvN (gbN (yn Y) how k2 k3) (yg Y) 2048) i)]) (rest := []) hC 3 204 (c_X5_lays Λ X (ynS (ygS (yzS (ypS Y (pushN (yp Y) (yn Y) p)) (nI (pushZ p))) (gvN (gbN (yn Y) how k2 k3) (yg Y) 2048)) (layG (yn Y) (gvN (gbN (yn Y) how k2 k3) (yg Y) 2048) k i)) (s := k) (w := 11 + i) (v := (gvN (gbN (yn Y) how k2 k3) (yg Y) 2048) i) (by omega) (by omega)) (nR_of (by decide)) (cc_204 Λ X (ynS (ygS (yzS (ypS Y (pushN (yp Y) (yn Y) p)) (nI (pushZ p))) (gvN (gbN (yn Y) how k2 k3) (yg Y) 2048)) (layG (yn Y) (gvN (gbN (yn Y) how k2 k3) (yg Y) 2048) k i))) rfl gX5_combine_X5_lays rfl rfl rfl hd_X5_lays ⟨by decide, by decide⟩ rfl rfl (Nat.le_of_ble_eq_true rfl) dX5_combine_94 ?_
                  refine v_iinc (j := 6) (v := nI (i + 1)) (lv' := [(6, .int (nI (i + 1))), (0, rf Λ 204), (1, .int how), (2, .int (nI k)), (3, .int (nI k2)), (4, .int (nI k3)), (5, .int (nI (cnt (gbN (yn Y) how k2 k3) 0 2048)))]) hC dX5_combine_97 rfl (nI_add i 1) (by decide) rfl ?_
                  refine v_goto (tgt := 73) hC dX5_combine_100 (by decide) ?_
                  refine v_sub (lv' := [(0, rf Λ 204), (1, .int how), (2, .int (nI k)), (3, .int (nI k2)), (4, .int (nI k3)), (5, .int (nI (cnt (gbN (yn Y) how k2 k3) 0 2048))), (6, .int (nI (i + 1)))]) [1, 2, 3, 4, 5, 6, 0] rfl ?_
                  refine v_mem (C' := CC Λ X (ynS (ygS (yzS (ypS Y (pushN (yp Y) (yn Y) p)) (nI (pushZ p))) (gvN (gbN (yn Y) how k2 k3) (yg Y) 2048)) (layG (yn Y) (gvN (gbN (yn Y) how k2 k3) (yg Y) 2048) k (i + 1)))) rfl ?_
                  exact ih73 (i + 1) _ (by omega) rfl (by omega)
            refine v_sub (lv' := [(0, rf Λ 204), (1, .int how), (2, .int (nI k)), (3, .int (nI k2)), (4, .int (nI k3)), (5, .int (nI (cnt (gbN (yn Y) how k2 k3) 0 2048))), (6, .int 0)]) [2, 3, 4, 5, 6, 1, 0] rfl ?_
            refine v_mem (C' := CC Λ X (ynS (ygS (yzS (ypS Y (pushN (yp Y) (yn Y) p)) (nI (pushZ p))) (gvN (gbN (yn Y) how k2 k3) (yg Y) 2048)) (layG (yn Y) (gvN (gbN (yn Y) how k2 k3) (yg Y) 2048) k 0))) rfl ?_
            exact L73 _ 0 _ (by omega) rfl (Nat.lt_succ_self _)
          · skip
            refine v_bipush (v := (-4)) hC dX5_combine_49 (by decide) ?_
            have e : combP Y p how (nI k) (nI k2) (nI k3) = ((-4), Y) := by simp [combP, recM, c5, hik, c13, hik2, c22, hik3, c33, c46]
            exact v_iretP hC hR e dX5_combine_51
        · skip
          refine v_bipush (v := (-2)) hC dX5_combine_36 (by decide) ?_
          have e : combP Y p how (nI k) (nI k2) (nI k3) = ((-2), Y) := by simp [combP, recM, c5, hik, c13, hik2, c22, hik3, c33]
          exact v_iretP hC hR e dX5_combine_38
      · skip
        refine v_iconst (v := (-1)) hC dX5_combine_25 (by decide) ?_
        have e : combP Y p how (nI k) (nI k2) o = ((-1), Y) := by simp [combP, recM, c5, hik, c13, hik2, c22]
        exact v_iretP hC hR e dX5_combine_26

theorem in_X5_signAt_X5 : ∀ w ∈ wsX50, w ∈ wsX5_signAt := by decide +kernel
theorem fl_X5_signAt_136 : Cond.fieldLink RX5 136 "BoatSetsModel" "typed" "I" ∈ wsX5_signAt := by decide +kernel
theorem fl_X5_signAt_22 : Cond.fieldLink RX5 22 "BoatSetsModel" "text" "[I" ∈ wsX5_signAt := by decide +kernel
theorem hd_X5_signAt : yX5_signAt.cls = RX5 ∧ yX5_signAt.cls ≠ "java/lang/invoke/MethodHandle" ∧ yX5_signAt.cls ≠ "java/lang/invoke/VarHandle" ∧ (parseMethodDescriptor yX5_signAt.desc).map (fun d => d.parameters.length) = some 1 := by decide +kernel
set_option maxHeartbeats 400000 in
set_option maxRecDepth 100000 in
theorem c_X5_signAt (Λ : Lk) (X : XS) (Y : YS) {k : Nat} {ty : Nat} (hy : yy Y = nI ty) (hty : ty ≤ 60) (hk : k ≤ 60) : Con Λ yX5_signAt wsX5_signAt { frames := 0, cells := 0, slots := 0, locals := 0 } [rf Λ 204, .int (nI k)] (CC Λ X Y) (some (.int (signM (yx Y) ty k))) (CC Λ X Y) := by
  refine con_start (cc := cX5_signAt) (maxL := 2) (ret := (some .int)) (by decide) rfl (Nat.le_of_ble_eq_true rfl) ?_
  intro κ hC hR
  have hC : Ok Λ { frames := 0, cells := 0, slots := 0, locals := 0 } cX5_signAt wsX5_signAt RX5 2 κ := hC
  refine v_args (lv' := [(0, rf Λ 204), (1, .int (nI k))]) rfl ?_
  refine v_iload_n hC dX5_signAt_0 1 rfl ?_
  refine v_aload_n hC dX5_signAt_1 0 rfl ?_
  refine v_get (T := TX5) (N := 13) (v := .int (yy Y)) hC 204 (nR_of (by decide)) (cc_204 Λ X Y) in_X5_signAt_X5 rfl 7 (by decide) fl_X5_signAt_136 rfl dX5_signAt_2 ?_
  refine v_topi (y := nI ty) hy ?_
  refine v_nge (a := k) (b := ty) (tgt := 17) hC dX5_signAt_5 (by decide) rfl rfl (by omega) (by omega) (fun c5 => ?_) (fun c5 => ?_)
  · have c5' := Nat.not_lt.mpr c5
    refine v_bipush (v := (-5)) hC dX5_signAt_17 (by decide) ?_
    exact v_iret hC hR (congrArg (fun z : Int32 => some (Value.int z)) (by simp [signM, c5, c5'])) rfl dX5_signAt_19
  · have c5' := Nat.not_le.mpr c5
    refine v_aload_n hC dX5_signAt_8 0 rfl ?_
    refine v_get (T := TX5) (N := 13) (v := rf Λ 209) hC 204 (nR_of (by decide)) (cc_204 Λ X Y) in_X5_signAt_X5 rfl 6 (by decide) fl_X5_signAt_22 rfl dX5_signAt_9 ?_
    refine v_iload_n hC dX5_signAt_12 1 rfl ?_
    refine v_iald (n := 60) (f := (yx Y)) hC 209 (nR_of (by decide)) (cc_209 Λ X Y) k rfl (by omega) (by decide) dX5_signAt_13 ?_
    refine v_goto (tgt := 19) hC dX5_signAt_14 (by decide) ?_
    exact v_iret hC hR (congrArg (fun z : Int32 => some (Value.int z)) (by simp [signM, c5, c5'])) rfl dX5_signAt_19

theorem in_X5_readsNumber_X5 : ∀ w ∈ wsX50, w ∈ wsX5_readsNumber := by decide +kernel
theorem fl_X5_readsNumber_139 : Cond.fieldLink RX5 139 "BoatSetsModel" "at" "I" ∈ wsX5_readsNumber := by decide +kernel
theorem hd_X5_readsNumber : yX5_readsNumber.cls = RX5 ∧ yX5_readsNumber.cls ≠ "java/lang/invoke/MethodHandle" ∧ yX5_readsNumber.cls ≠ "java/lang/invoke/VarHandle" ∧ (parseMethodDescriptor yX5_readsNumber.desc).map (fun d => d.parameters.length) = some 0 := by decide +kernel
set_option maxHeartbeats 400000 in
set_option maxRecDepth 100000 in
theorem c_X5_readsNumber (Λ : Lk) (X : XS) (Y : YS) {ty : Nat} {a : Nat} (hy : yy Y = nI ty) (hty : ty ≤ 60) (ha : ya Y = nI a) (haty : a ≤ ty) : Con Λ yX5_readsNumber wsX5_readsNumber { frames := 1, cells := 0, slots := 0, locals := 22 } [rf Λ 204] (CC Λ X Y) (some (.int ((rn (signM (yx Y) ty) a).1))) (CC Λ X (yaS Y (nI ((rn (signM (yx Y) ty) a).2)))) := by
  refine con_start (cc := cX5_readsNumber) (maxL := 3) (ret := (some .int)) (by decide) rfl (Nat.le_of_ble_eq_true rfl) ?_
  intro κ hC hR
  have hC : Ok Λ { frames := 1, cells := 0, slots := 0, locals := 22 } cX5_readsNumber wsX5_readsNumber RX5 3 κ := hC
  refine v_args (lv' := [(0, rf Λ 204)]) rfl ?_
  refine v_aload_n hC dX5_readsNumber_0 0 rfl ?_
  refine v_aload_n hC dX5_readsNumber_1 0 rfl ?_
  refine v_get (T := TX5) (N := 13) (v := .int (ya Y)) hC 204 (nR_of (by decide)) (cc_204 Λ X Y) in_X5_readsNumber_X5 rfl 12 (by decide) fl_X5_readsNumber_139 rfl dX5_readsNumber_2 ?_
  refine v_topi (y := nI a) ha ?_
  refine v_callVr (v := .int (signM (yx Y) ty a)) (C2 := CC Λ X Y) (As := [.int (nI a)]) (rest := []) hC 1 204 (c_X5_signAt Λ X Y (k := a) hy hty (by omega)) (nR_of (by decide)) (cc_204 Λ X Y) rfl gX5_readsNumber_X5_signAt rfl rfl rfl hd_X5_signAt ⟨by decide, by decide⟩ rfl rfl (Nat.le_of_ble_eq_true rfl) dX5_readsNumber_5 ?_
  refine v_bipush (v := 48) hC dX5_readsNumber_8 (by decide) ?_
  refine v_bipush (v := 57) hC dX5_readsNumber_10 (by decide) ?_
  refine v_callSr (v := .int (bI (inB (signM (yx Y) ty a) 48 57))) (C2 := CC Λ X Y) (As := [.int (signM (yx Y) ty a), .int 48, .int 57]) (rest := []) hC 3 (c_X5_in Λ X Y (v := signM (yx Y) ty a) (lo := 48) (hi := 57)) gX5_readsNumber_X5_in rfl rfl rfl hd_X5_in ⟨by decide, by decide⟩ rfl rfl (Nat.le_of_ble_eq_true rfl) dX5_readsNumber_12 ?_
  refine v_bne (b := inB (signM (yx Y) ty a) 48 57) (tgt := 20) hC dX5_readsNumber_15 (by decide) (fun c15 => ?_) (fun c15 => ?_)
  · skip
    have hlt := isD_lt (t := yx Y) (ty := ty) (k := a) c15
    refine v_aload_n hC dX5_readsNumber_20 0 rfl ?_
    refine v_aload_n hC dX5_readsNumber_21 0 rfl ?_
    refine v_get (T := TX5) (N := 13) (v := .int (ya Y)) hC 204 (nR_of (by decide)) (cc_204 Λ X Y) in_X5_readsNumber_X5 rfl 12 (by decide) fl_X5_readsNumber_139 rfl dX5_readsNumber_22 ?_
    refine v_topi (y := nI a) ha ?_
    refine v_callVr (v := .int (signM (yx Y) ty a)) (C2 := CC Λ X Y) (As := [.int (nI a)]) (rest := []) hC 1 204 (c_X5_signAt Λ X Y (k := a) hy hty (by omega)) (nR_of (by decide)) (cc_204 Λ X Y) rfl gX5_readsNumber_X5_signAt rfl rfl rfl hd_X5_signAt ⟨by decide, by decide⟩ rfl rfl (Nat.le_of_ble_eq_true rfl) dX5_readsNumber_25 ?_
    refine v_bipush (v := 48) hC dX5_readsNumber_28 (by decide) ?_
    refine v_isub (x := signM (yx Y) ty a) (y := 48) hC dX5_readsNumber_30 ?_
    refine v_istore_n (lv' := [(1, .int ((signM (yx Y) ty a) - 48)), (0, rf Λ 204)]) hC dX5_readsNumber_31 (by decide) rfl ?_
    refine v_aload_n hC dX5_readsNumber_32 1 rfl ?_
    refine v_dup hC dX5_readsNumber_33 rfl ?_
    refine v_get (T := TX5) (N := 13) (v := .int (ya Y)) hC 204 (nR_of (by decide)) (cc_204 Λ X Y) in_X5_readsNumber_X5 rfl 12 (by decide) fl_X5_readsNumber_139 rfl dX5_readsNumber_34 ?_
    refine v_topi (y := nI a) ha ?_
    refine v_iconst (v := 1) hC dX5_readsNumber_37 (by decide) ?_
    refine v_iadd (x := nI a) (y := 1) hC dX5_readsNumber_38 ?_
    refine v_topi (y := nI (a + 1)) (nI_add a 1) ?_
    refine v_put (T := TX5) (N := 13) (v := .int (nI (a + 1))) (ty := .int) hC 204 (nR_of (by decide)) (cc_204 Λ X Y) in_X5_readsNumber_X5 tyX5 tyX5_ok nmX5 rfl 12 (by decide) fl_X5_readsNumber_139 rfl (by decide +kernel) rfl rfl (Nat.le_of_ble_eq_true rfl) dX5_readsNumber_39 ?_
    refine v_mem (cs_ya Λ X Y (nI (a + 1))) ?_
    refine v_iconst (v := 0) hC dX5_readsNumber_42 (by decide) ?_
    refine v_istore_n (lv' := [(2, .int 0), (1, .int ((signM (yx Y) ty a) - 48)), (0, rf Λ 204)]) hC dX5_readsNumber_43 (by decide) rfl ?_
    have L44 : ∀ (fu44 : Nat) (i : Nat) (v : Int32) (c : Nat) (x2 : Int32), i ≤ 3 → c ≤ ty → rnL (signM (yx Y) ty) (3 - i) v c = rnL (signM (yx Y) ty) 3 ((signM (yx Y) ty) a - 48) (a + 1) → x2 = nI i → 3 - i < fu44 → V Λ κ (CC Λ X (yaS Y (nI c))) 44 [(0, rf Λ 204), (1, .int v), (2, .int x2)] [] := by
      intro fu44
      induction fu44 with
      | zero => intro i v c x2 hi hc hu e2 hfu44; exact absurd hfu44 (Nat.not_lt_zero _)
      | succ fu44 ih44 =>
        intro i v c x2 hi hc hu e2 hfu44
        subst e2
        refine v_iload_n hC dX5_readsNumber_44 2 rfl ?_
        refine v_iconst (v := 3) hC dX5_readsNumber_45 (by decide) ?_
        refine v_nge (a := i) (b := 3) (tgt := 104) hC dX5_readsNumber_46 (by decide) rfl rfl (by omega) (by omega) (fun c46 => ?_) (fun c46 => ?_)
        · have c46' := Nat.not_lt.mpr c46
          refine v_iload_n hC dX5_readsNumber_104 1 rfl ?_
          exact v_iret hC hR (congrArg (fun z : Int32 => some (Value.int z)) (by rw [rn, if_neg (by unfold isD; rw [c15]; decide), ← hu, show 3 - i = 0 by omega, rnL])) (mem_a (congrArg nI (by rw [rn, if_neg (by unfold isD; rw [c15]; decide), ← hu, show 3 - i = 0 by omega, rnL]))) dX5_readsNumber_105
        · have c46' := Nat.not_le.mpr c46
          refine v_iload_n hC dX5_readsNumber_49 1 rfl ?_
          refine v_if_le (tgt := 104) hC dX5_readsNumber_50 (by decide) (fun c50 => ?_) (fun c50 => ?_)
          · have c50' := Int32.not_lt.mpr c50
            refine v_iload_n hC dX5_readsNumber_104 1 rfl ?_
            exact v_iret hC hR (congrArg (fun z : Int32 => some (Value.int z)) (by rw [rn, if_neg (by unfold isD; rw [c15]; decide), ← hu, show 3 - i = (3 - (i + 1)) + 1 by omega, rnL, if_neg (fun h => c50' h.1)])) (mem_a (congrArg nI (by rw [rn, if_neg (by unfold isD; rw [c15]; decide), ← hu, show 3 - i = (3 - (i + 1)) + 1 by omega, rnL, if_neg (fun h => c50' h.1)]))) dX5_readsNumber_105
          · have c50' := Int32.not_le.mp c50
            refine v_aload_n hC dX5_readsNumber_53 0 rfl ?_
            refine v_aload_n hC dX5_readsNumber_54 0 rfl ?_
            refine v_get (T := TX5) (N := 13) (v := .int (nI c)) hC 204 (nR_of (by decide)) (cc_204 Λ X (yaS Y (nI c))) in_X5_readsNumber_X5 rfl 12 (by decide) fl_X5_readsNumber_139 rfl dX5_readsNumber_55 ?_
            refine v_callVr (v := .int (signM (yx Y) ty c)) (C2 := CC Λ X (yaS Y (nI c))) (As := [.int (nI c)]) (rest := []) hC 1 204 (c_X5_signAt Λ X (yaS Y (nI c)) (k := c) hy hty (by omega)) (nR_of (by decide)) (cc_204 Λ X (yaS Y (nI c))) rfl gX5_readsNumber_X5_signAt rfl rfl rfl hd_X5_signAt ⟨by decide, by decide⟩ rfl rfl (Nat.le_of_ble_eq_true rfl) dX5_readsNumber_58 ?_
            refine v_bipush (v := 48) hC dX5_readsNumber_61 (by decide) ?_
            refine v_bipush (v := 57) hC dX5_readsNumber_63 (by decide) ?_
            refine v_callSr (v := .int (bI (inB (signM (yx Y) ty c) 48 57))) (C2 := CC Λ X (yaS Y (nI c))) (As := [.int (signM (yx Y) ty c), .int 48, .int 57]) (rest := []) hC 3 (c_X5_in Λ X (yaS Y (nI c)) (v := signM (yx Y) ty c) (lo := 48) (hi := 57)) gX5_readsNumber_X5_in rfl rfl rfl hd_X5_in ⟨by decide, by decide⟩ rfl rfl (Nat.le_of_ble_eq_true rfl) dX5_readsNumber_65 ?_
            refine v_beq (b := inB (signM (yx Y) ty c) 48 57) (tgt := 104) hC dX5_readsNumber_68 (by decide) (fun c68 => ?_) (fun c68 => ?_)
            · skip
              refine v_iload_n hC dX5_readsNumber_104 1 rfl ?_
              exact v_iret hC hR (congrArg (fun z : Int32 => some (Value.int z)) (by rw [rn, if_neg (by unfold isD; rw [c15]; decide), ← hu, show 3 - i = (3 - (i + 1)) + 1 by omega, rnL, if_neg (fun h => by have h2 := h.2; unfold isD at h2; rw [c68] at h2; exact absurd h2 (by decide))])) (mem_a (congrArg nI (by rw [rn, if_neg (by unfold isD; rw [c15]; decide), ← hu, show 3 - i = (3 - (i + 1)) + 1 by omega, rnL, if_neg (fun h => by have h2 := h.2; unfold isD at h2; rw [c68] at h2; exact absurd h2 (by decide))]))) dX5_readsNumber_105
            · skip
              have hlt2 := isD_lt (t := yx Y) (ty := ty) (k := c) c68
              refine v_bipush (v := 10) hC dX5_readsNumber_71 (by decide) ?_
              refine v_iload_n hC dX5_readsNumber_73 1 rfl ?_
              refine v_imul (x := 10) (y := v) hC dX5_readsNumber_74 ?_
              refine v_aload_n hC dX5_readsNumber_75 0 rfl ?_
              refine v_aload_n hC dX5_readsNumber_76 0 rfl ?_
              refine v_get (T := TX5) (N := 13) (v := .int (nI c)) hC 204 (nR_of (by decide)) (cc_204 Λ X (yaS Y (nI c))) in_X5_readsNumber_X5 rfl 12 (by decide) fl_X5_readsNumber_139 rfl dX5_readsNumber_77 ?_
              refine v_callVr (v := .int (signM (yx Y) ty c)) (C2 := CC Λ X (yaS Y (nI c))) (As := [.int (nI c)]) (rest := [.int (10 * v)]) hC 1 204 (c_X5_signAt Λ X (yaS Y (nI c)) (k := c) hy hty (by omega)) (nR_of (by decide)) (cc_204 Λ X (yaS Y (nI c))) rfl gX5_readsNumber_X5_signAt rfl rfl rfl hd_X5_signAt ⟨by decide, by decide⟩ rfl rfl (Nat.le_of_ble_eq_true rfl) dX5_readsNumber_80 ?_
              refine v_iadd (x := 10 * v) (y := signM (yx Y) ty c) hC dX5_readsNumber_83 ?_
              refine v_bipush (v := 48) hC dX5_readsNumber_84 (by decide) ?_
              refine v_isub (x := (10 * v) + (signM (yx Y) ty c)) (y := 48) hC dX5_readsNumber_86 ?_
              refine v_istore_n (lv' := [(1, .int (((10 * v) + (signM (yx Y) ty c)) - 48)), (0, rf Λ 204), (2, .int (nI i))]) hC dX5_readsNumber_87 (by decide) rfl ?_
              refine v_aload_n hC dX5_readsNumber_88 1 rfl ?_
              refine v_dup hC dX5_readsNumber_89 rfl ?_
              refine v_get (T := TX5) (N := 13) (v := .int (nI c)) hC 204 (nR_of (by decide)) (cc_204 Λ X (yaS Y (nI c))) in_X5_readsNumber_X5 rfl 12 (by decide) fl_X5_readsNumber_139 rfl dX5_readsNumber_90 ?_
              refine v_iconst (v := 1) hC dX5_readsNumber_93 (by decide) ?_
              refine v_iadd (x := nI c) (y := 1) hC dX5_readsNumber_94 ?_
              refine v_topi (y := nI (c + 1)) (nI_add c 1) ?_
              refine v_put (T := TX5) (N := 13) (v := .int (nI (c + 1))) (ty := .int) hC 204 (nR_of (by decide)) (cc_204 Λ X (yaS Y (nI c))) in_X5_readsNumber_X5 tyX5 tyX5_ok nmX5 rfl 12 (by decide) fl_X5_readsNumber_139 rfl (by decide +kernel) rfl rfl (Nat.le_of_ble_eq_true rfl) dX5_readsNumber_95 ?_
              refine v_mem (cs_ya Λ X (yaS Y (nI c)) (nI (c + 1))) ?_
              refine v_iinc (j := 2) (v := nI (i + 1)) (lv' := [(2, .int (nI (i + 1))), (1, .int (((10 * v) + (signM (yx Y) ty c)) - 48)), (0, rf Λ 204)]) hC dX5_readsNumber_98 rfl (nI_add i 1) (by decide) rfl ?_
              refine v_goto (tgt := 44) hC dX5_readsNumber_101 (by decide) ?_
              refine v_sub (lv' := [(0, rf Λ 204), (1, .int (((10 * v) + (signM (yx Y) ty c)) - 48)), (2, .int (nI (i + 1)))]) [2, 1, 0] rfl ?_
              refine v_mem (C' := CC Λ X (yaS Y (nI (c + 1)))) rfl ?_
              exact ih44 (i + 1) (10 * v + (signM (yx Y) ty) c - 48) (c + 1) _ (by omega) (by omega) (by rw [← hu, show 3 - i = (3 - (i + 1)) + 1 by omega, rnL, if_pos ⟨c50', c68⟩]) rfl (by omega)
    refine v_sub (lv' := [(0, rf Λ 204), (1, .int ((signM (yx Y) ty a) - 48)), (2, .int 0)]) [2, 1, 0] rfl ?_
    refine v_mem (C' := CC Λ X (yaS Y (nI (a + 1)))) rfl ?_
    exact L44 _ 0 ((signM (yx Y) ty) a - 48) (a + 1) _ (by omega) (by omega) rfl rfl (Nat.lt_succ_self _)
  · skip
    refine v_iconst (v := (-1)) hC dX5_readsNumber_18 (by decide) ?_
    exact v_iret hC hR (congrArg (fun z : Int32 => some (Value.int z)) (by simp [rn, isD, c15])) ((mem_a (congrArg nI (show (rn (signM (yx Y) ty) a).2 = a by simp [rn, isD, c15]))).trans ((mem_a ha.symm).trans rfl)) dX5_readsNumber_19
