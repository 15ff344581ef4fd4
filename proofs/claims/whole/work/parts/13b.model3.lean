theorem hd_X5_has : yX5_has.cls = RX5 ∧ yX5_has.cls ≠ "java/lang/invoke/MethodHandle" ∧ yX5_has.cls ≠ "java/lang/invoke/VarHandle" ∧ (parseMethodDescriptor yX5_has.desc).map (fun d => d.parameters.length) = some 2 := by decide +kernel
set_option maxHeartbeats 400000 in
set_option maxRecDepth 100000 in
theorem c_X5_has (Λ : Lk) (X : XS) (Y : YS) {s : Int32} {n : Int32} {ns : Nat} (h0 : yn Y 0 = nI ns) (hns : ns ≤ 6) : Con Λ yX5_has wsX5_has { frames := 2, cells := 0, slots := 0, locals := 44 } [rf Λ 204, .int s, .int n] (CC Λ X Y) (some (.int (hasM (yn Y) s n))) (CC Λ X Y) := by
  refine con_start (cc := cX5_has) (maxL := 3) (ret := (some .int)) (by decide) rfl (Nat.le_of_ble_eq_true rfl) ?_
  intro κ hC hR
  have hC : Ok Λ { frames := 2, cells := 0, slots := 0, locals := 44 } cX5_has wsX5_has RX5 3 κ := hC
  refine v_args (lv' := [(0, rf Λ 204), (1, .int s), (2, .int n)]) rfl ?_
  refine v_aload_n hC dX5_has_0 0 rfl ?_
  refine v_iload_n hC dX5_has_1 1 rfl ?_
  refine v_callVr (v := .int (bI (isSBm (yn Y) s))) (C2 := CC Λ X Y) (As := [.int s]) (rest := []) hC 1 204 (c_X5_isSet Λ X Y (s := s)) (nR_of (by decide)) (cc_204 Λ X Y) rfl gX5_has_X5_isSet rfl rfl rfl hd_X5_isSet ⟨by decide, by decide⟩ rfl rfl (Nat.le_of_ble_eq_true rfl) dX5_has_2 ?_
  refine v_bne (b := isSBm (yn Y) s) (tgt := 12) hC dX5_has_5 (by decide) (fun c5 => ?_) (fun c5 => ?_)
  · skip
    obtain ⟨k, hk, rfl⟩ := isS_of h0 hns c5
    have hik : ix (nI k) = k := ix_nI (by omega)
    refine v_iload_n hC dX5_has_12 2 rfl ?_
    refine v_callSr (v := .int (bI (inB n 0 2047))) (C2 := CC Λ X Y) (As := [.int n]) (rest := []) hC 1 (c_X5_isNumber Λ X Y (v := n)) gX5_has_X5_isNumber rfl rfl rfl hd_X5_isNumber ⟨by decide, by decide⟩ rfl rfl (Nat.le_of_ble_eq_true rfl) dX5_has_13 ?_
    refine v_bne (b := inB n 0 2047) (tgt := 24) hC dX5_has_16 (by decide) (fun c16 => ?_) (fun c16 => ?_)
    · skip
      obtain ⟨q, hq, rfl⟩ := isN_of c16
      have hiq : ix (nI q) = q := ix_nI (by omega)
      refine v_aload_n hC dX5_has_24 0 rfl ?_
      refine v_iload_n hC dX5_has_25 1 rfl ?_
      refine v_iload_n hC dX5_has_26 2 rfl ?_
      refine v_callVr (v := .int (bI (mb (yn Y) k q))) (C2 := CC Λ X Y) (As := [.int (nI k), .int (nI q)]) (rest := []) hC 2 204 (c_X5_isIn Λ X Y (s := k) (n := q) (by omega) (by omega)) (nR_of (by decide)) (cc_204 Λ X Y) rfl gX5_has_X5_isIn rfl rfl rfl hd_X5_isIn ⟨by decide, by decide⟩ rfl rfl (Nat.le_of_ble_eq_true rfl) dX5_has_27 ?_
      refine v_beq (b := mb (yn Y) k q) (tgt := 37) hC dX5_has_30 (by decide) (fun c30 => ?_) (fun c30 => ?_)
      · skip
        refine v_iconst (v := 0) hC dX5_has_37 (by decide) ?_
        exact v_iret hC hR (congrArg (fun z : Int32 => some (Value.int z)) (by simp [hasM, bI, c5, hik, c16, hiq, c30])) rfl dX5_has_38
      · skip
        refine v_iconst (v := 1) hC dX5_has_33 (by decide) ?_
        refine v_goto (tgt := 38) hC dX5_has_34 (by decide) ?_
        exact v_iret hC hR (congrArg (fun z : Int32 => some (Value.int z)) (by simp [hasM, bI, c5, hik, c16, hiq, c30])) rfl dX5_has_38
    · skip
      refine v_bipush (v := (-2)) hC dX5_has_19 (by decide) ?_
      refine v_goto (tgt := 38) hC dX5_has_21 (by decide) ?_
      exact v_iret hC hR (congrArg (fun z : Int32 => some (Value.int z)) (by simp [hasM, bI, c5, hik, c16])) rfl dX5_has_38
  · skip
    refine v_iconst (v := (-1)) hC dX5_has_8 (by decide) ?_
    refine v_goto (tgt := 38) hC dX5_has_9 (by decide) ?_
    exact v_iret hC hR (congrArg (fun z : Int32 => some (Value.int z)) (by simp [hasM, bI, c5])) rfl dX5_has_38

theorem hd_X5_rank : yX5_rank.cls = RX5 ∧ yX5_rank.cls ≠ "java/lang/invoke/MethodHandle" ∧ yX5_rank.cls ≠ "java/lang/invoke/VarHandle" ∧ (parseMethodDescriptor yX5_rank.desc).map (fun d => d.parameters.length) = some 2 := by decide +kernel
set_option maxHeartbeats 400000 in
set_option maxRecDepth 100000 in
theorem c_X5_rank (Λ : Lk) (X : XS) (Y : YS) {s : Int32} {n : Int32} {ns : Nat} (h0 : yn Y 0 = nI ns) (hns : ns ≤ 6) : Con Λ yX5_rank wsX5_rank { frames := 3, cells := 0, slots := 0, locals := 68 } [rf Λ 204, .int s, .int n] (CC Λ X Y) (some (.int (rankM (yn Y) s n))) (CC Λ X Y) := by
  refine con_start (cc := cX5_rank) (maxL := 3) (ret := (some .int)) (by decide) rfl (Nat.le_of_ble_eq_true rfl) ?_
  intro κ hC hR
  have hC : Ok Λ { frames := 3, cells := 0, slots := 0, locals := 68 } cX5_rank wsX5_rank RX5 3 κ := hC
  refine v_args (lv' := [(0, rf Λ 204), (1, .int s), (2, .int n)]) rfl ?_
  refine v_aload_n hC dX5_rank_0 0 rfl ?_
  refine v_iload_n hC dX5_rank_1 1 rfl ?_
  refine v_callVr (v := .int (bI (isSBm (yn Y) s))) (C2 := CC Λ X Y) (As := [.int s]) (rest := []) hC 1 204 (c_X5_isSet Λ X Y (s := s)) (nR_of (by decide)) (cc_204 Λ X Y) rfl gX5_rank_X5_isSet rfl rfl rfl hd_X5_isSet ⟨by decide, by decide⟩ rfl rfl (Nat.le_of_ble_eq_true rfl) dX5_rank_2 ?_
  refine v_bne (b := isSBm (yn Y) s) (tgt := 12) hC dX5_rank_5 (by decide) (fun c5 => ?_) (fun c5 => ?_)
  · skip
    obtain ⟨k, hk, rfl⟩ := isS_of h0 hns c5
    have hik : ix (nI k) = k := ix_nI (by omega)
    refine v_iload_n hC dX5_rank_12 2 rfl ?_
    refine v_callSr (v := .int (bI (inB n 0 2047))) (C2 := CC Λ X Y) (As := [.int n]) (rest := []) hC 1 (c_X5_isNumber Λ X Y (v := n)) gX5_rank_X5_isNumber rfl rfl rfl hd_X5_isNumber ⟨by decide, by decide⟩ rfl rfl (Nat.le_of_ble_eq_true rfl) dX5_rank_13 ?_
    refine v_bne (b := inB n 0 2047) (tgt := 24) hC dX5_rank_16 (by decide) (fun c16 => ?_) (fun c16 => ?_)
    · skip
      obtain ⟨q, hq, rfl⟩ := isN_of c16
      have hiq : ix (nI q) = q := ix_nI (by omega)
      refine v_aload_n hC dX5_rank_24 0 rfl ?_
      refine v_iload_n hC dX5_rank_25 1 rfl ?_
      refine v_iload_n hC dX5_rank_26 2 rfl ?_
      refine v_callVr (v := .int (nI (cnt (mb (yn Y) k) 0 q))) (C2 := CC Λ X Y) (As := [.int (nI k), .int (nI q)]) (rest := []) hC 2 204 (c_X5_rankOf Λ X Y (s := k) (n := q) (by omega) (by omega)) (nR_of (by decide)) (cc_204 Λ X Y) rfl gX5_rank_X5_rankOf rfl rfl rfl hd_X5_rankOf ⟨by decide, by decide⟩ rfl rfl (Nat.le_of_ble_eq_true rfl) dX5_rank_27 ?_
      exact v_iret hC hR (congrArg (fun z : Int32 => some (Value.int z)) (by simp [rankM, c5, hik, c16, hiq])) rfl dX5_rank_30
    · skip
      refine v_bipush (v := (-2)) hC dX5_rank_19 (by decide) ?_
      refine v_goto (tgt := 30) hC dX5_rank_21 (by decide) ?_
      exact v_iret hC hR (congrArg (fun z : Int32 => some (Value.int z)) (by simp [rankM, c5, hik, c16])) rfl dX5_rank_30
  · skip
    refine v_iconst (v := (-1)) hC dX5_rank_8 (by decide) ?_
    refine v_goto (tgt := 30) hC dX5_rank_9 (by decide) ?_
    exact v_iret hC hR (congrArg (fun z : Int32 => some (Value.int z)) (by simp [rankM, c5])) rfl dX5_rank_30

theorem hd_X5_next : yX5_next.cls = RX5 ∧ yX5_next.cls ≠ "java/lang/invoke/MethodHandle" ∧ yX5_next.cls ≠ "java/lang/invoke/VarHandle" ∧ (parseMethodDescriptor yX5_next.desc).map (fun d => d.parameters.length) = some 2 := by decide +kernel
set_option maxHeartbeats 400000 in
set_option maxRecDepth 100000 in
theorem c_X5_next (Λ : Lk) (X : XS) (Y : YS) {s : Int32} {n : Int32} {ns : Nat} (h0 : yn Y 0 = nI ns) (hns : ns ≤ 6) : Con Λ yX5_next wsX5_next { frames := 3, cells := 0, slots := 0, locals := 68 } [rf Λ 204, .int s, .int n] (CC Λ X Y) (some (.int (nextM (yn Y) s n))) (CC Λ X Y) := by
  refine con_start (cc := cX5_next) (maxL := 3) (ret := (some .int)) (by decide) rfl (Nat.le_of_ble_eq_true rfl) ?_
  intro κ hC hR
  have hC : Ok Λ { frames := 3, cells := 0, slots := 0, locals := 68 } cX5_next wsX5_next RX5 3 κ := hC
  refine v_args (lv' := [(0, rf Λ 204), (1, .int s), (2, .int n)]) rfl ?_
  refine v_aload_n hC dX5_next_0 0 rfl ?_
  refine v_iload_n hC dX5_next_1 1 rfl ?_
  refine v_callVr (v := .int (bI (isSBm (yn Y) s))) (C2 := CC Λ X Y) (As := [.int s]) (rest := []) hC 1 204 (c_X5_isSet Λ X Y (s := s)) (nR_of (by decide)) (cc_204 Λ X Y) rfl gX5_next_X5_isSet rfl rfl rfl hd_X5_isSet ⟨by decide, by decide⟩ rfl rfl (Nat.le_of_ble_eq_true rfl) dX5_next_2 ?_
  refine v_bne (b := isSBm (yn Y) s) (tgt := 12) hC dX5_next_5 (by decide) (fun c5 => ?_) (fun c5 => ?_)
  · skip
    obtain ⟨k, hk, rfl⟩ := isS_of h0 hns c5
    have hik : ix (nI k) = k := ix_nI (by omega)
    refine v_iload_n hC dX5_next_12 2 rfl ?_
    refine v_callSr (v := .int (bI (inB n 0 2047))) (C2 := CC Λ X Y) (As := [.int n]) (rest := []) hC 1 (c_X5_isNumber Λ X Y (v := n)) gX5_next_X5_isNumber rfl rfl rfl hd_X5_isNumber ⟨by decide, by decide⟩ rfl rfl (Nat.le_of_ble_eq_true rfl) dX5_next_13 ?_
    refine v_bne (b := inB n 0 2047) (tgt := 24) hC dX5_next_16 (by decide) (fun c16 => ?_) (fun c16 => ?_)
    · skip
      obtain ⟨q, hq, rfl⟩ := isN_of c16
      have hiq : ix (nI q) = q := ix_nI (by omega)
      refine v_aload_n hC dX5_next_24 0 rfl ?_
      refine v_iload_n hC dX5_next_25 1 rfl ?_
      refine v_iload_n hC dX5_next_26 2 rfl ?_
      refine v_iconst (v := 1) hC dX5_next_27 (by decide) ?_
      refine v_callVr (v := .int (upF (mb (yn Y) k) (2048 - q) q)) (C2 := CC Λ X Y) (As := [.int (nI k), .int (nI q), .int 1]) (rest := []) hC 3 204 (c_X5_firstFrom_u Λ X Y (s := k) (n := q) (by omega) (by omega)) (nR_of (by decide)) (cc_204 Λ X Y) rfl gX5_next_X5_firstFrom rfl rfl rfl hd_X5_firstFrom ⟨by decide, by decide⟩ rfl rfl (Nat.le_of_ble_eq_true rfl) dX5_next_28 ?_
      exact v_iret hC hR (congrArg (fun z : Int32 => some (Value.int z)) (by simp [nextM, c5, hik, c16, hiq])) rfl dX5_next_31
    · skip
      refine v_bipush (v := (-2)) hC dX5_next_19 (by decide) ?_
      refine v_goto (tgt := 31) hC dX5_next_21 (by decide) ?_
      exact v_iret hC hR (congrArg (fun z : Int32 => some (Value.int z)) (by simp [nextM, c5, hik, c16])) rfl dX5_next_31
  · skip
    refine v_iconst (v := (-1)) hC dX5_next_8 (by decide) ?_
    refine v_goto (tgt := 31) hC dX5_next_9 (by decide) ?_
    exact v_iret hC hR (congrArg (fun z : Int32 => some (Value.int z)) (by simp [nextM, c5])) rfl dX5_next_31

theorem hd_X5_nearest : yX5_nearest.cls = RX5 ∧ yX5_nearest.cls ≠ "java/lang/invoke/MethodHandle" ∧ yX5_nearest.cls ≠ "java/lang/invoke/VarHandle" ∧ (parseMethodDescriptor yX5_nearest.desc).map (fun d => d.parameters.length) = some 2 := by decide +kernel
set_option maxHeartbeats 400000 in
set_option maxRecDepth 100000 in
theorem c_X5_nearest (Λ : Lk) (X : XS) (Y : YS) {s : Int32} {n : Int32} {ns : Nat} (h0 : yn Y 0 = nI ns) (hns : ns ≤ 6) : Con Λ yX5_nearest wsX5_nearest { frames := 3, cells := 0, slots := 0, locals := 68 } [rf Λ 204, .int s, .int n] (CC Λ X Y) (some (.int (nearM (yn Y) s n))) (CC Λ X Y) := by
  refine con_start (cc := cX5_nearest) (maxL := 5) (ret := (some .int)) (by decide) rfl (Nat.le_of_ble_eq_true rfl) ?_
  intro κ hC hR
  have hC : Ok Λ { frames := 3, cells := 0, slots := 0, locals := 68 } cX5_nearest wsX5_nearest RX5 5 κ := hC
  refine v_args (lv' := [(0, rf Λ 204), (1, .int s), (2, .int n)]) rfl ?_
  refine v_aload_n hC dX5_nearest_0 0 rfl ?_
  refine v_iload_n hC dX5_nearest_1 1 rfl ?_
  refine v_callVr (v := .int (bI (isSBm (yn Y) s))) (C2 := CC Λ X Y) (As := [.int s]) (rest := []) hC 1 204 (c_X5_isSet Λ X Y (s := s)) (nR_of (by decide)) (cc_204 Λ X Y) rfl gX5_nearest_X5_isSet rfl rfl rfl hd_X5_isSet ⟨by decide, by decide⟩ rfl rfl (Nat.le_of_ble_eq_true rfl) dX5_nearest_2 ?_
  refine v_bne (b := isSBm (yn Y) s) (tgt := 10) hC dX5_nearest_5 (by decide) (fun c5 => ?_) (fun c5 => ?_)
  · skip
    obtain ⟨k, hk, rfl⟩ := isS_of h0 hns c5
    have hik : ix (nI k) = k := ix_nI (by omega)
    refine v_iload_n hC dX5_nearest_10 2 rfl ?_
    refine v_callSr (v := .int (bI (inB n 0 2047))) (C2 := CC Λ X Y) (As := [.int n]) (rest := []) hC 1 (c_X5_isNumber Λ X Y (v := n)) gX5_nearest_X5_isNumber rfl rfl rfl hd_X5_isNumber ⟨by decide, by decide⟩ rfl rfl (Nat.le_of_ble_eq_true rfl) dX5_nearest_11 ?_
    refine v_bne (b := inB n 0 2047) (tgt := 20) hC dX5_nearest_14 (by decide) (fun c14 => ?_) (fun c14 => ?_)
    · skip
      obtain ⟨q, hq, rfl⟩ := isN_of c14
      have hiq : ix (nI q) = q := ix_nI (by omega)
      refine v_aload_n hC dX5_nearest_20 0 rfl ?_
      refine v_iload_n hC dX5_nearest_21 1 rfl ?_
      refine v_iload_n hC dX5_nearest_22 2 rfl ?_
      refine v_iconst (v := 1) hC dX5_nearest_23 (by decide) ?_
      refine v_callVr (v := .int (upF (mb (yn Y) k) (2048 - q) q)) (C2 := CC Λ X Y) (As := [.int (nI k), .int (nI q), .int 1]) (rest := []) hC 3 204 (c_X5_firstFrom_u Λ X Y (s := k) (n := q) (by omega) (by omega)) (nR_of (by decide)) (cc_204 Λ X Y) rfl gX5_nearest_X5_firstFrom rfl rfl rfl hd_X5_firstFrom ⟨by decide, by decide⟩ rfl rfl (Nat.le_of_ble_eq_true rfl) dX5_nearest_24 ?_
      refine v_istore_n (lv' := [(3, .int (upF (mb (yn Y) k) (2048 - q) q)), (0, rf Λ 204), (1, .int (nI k)), (2, .int (nI q))]) hC dX5_nearest_27 (by decide) rfl ?_
      refine v_aload_n hC dX5_nearest_28 1 rfl ?_
      refine v_iload_n hC dX5_nearest_29 2 rfl ?_
      refine v_iload_n hC dX5_nearest_30 3 rfl ?_
      refine v_iconst (v := (-1)) hC dX5_nearest_31 (by decide) ?_
      refine v_callVr (v := .int (dnF (mb (yn Y) k) (q + 1))) (C2 := CC Λ X Y) (As := [.int (nI k), .int (nI q), .int (-1)]) (rest := []) hC 3 204 (c_X5_firstFrom_d Λ X Y (s := k) (n := q) (by omega) (by omega)) (nR_of (by decide)) (cc_204 Λ X Y) rfl gX5_nearest_X5_firstFrom rfl rfl rfl hd_X5_firstFrom ⟨by decide, by decide⟩ rfl rfl (Nat.le_of_ble_eq_true rfl) dX5_nearest_32 ?_
      refine v_istore (lv' := [(4, .int (dnF (mb (yn Y) k) (q + 1))), (3, .int (upF (mb (yn Y) k) (2048 - q) q)), (0, rf Λ 204), (1, .int (nI k)), (2, .int (nI q))]) hC dX5_nearest_35 (by decide) rfl ?_
      refine v_iload hC dX5_nearest_37 0 rfl ?_
      refine v_bipush (v := (-5)) hC dX5_nearest_39 (by decide) ?_
      refine v_icmp_eq (x := dnF (mb (yn Y) k) (q + 1)) (y := (-5)) (tgt := 60) hC dX5_nearest_41 (by decide) (fun c41 => ?_) (fun c41 => ?_)
      · skip
        refine v_iload_n hC dX5_nearest_60 1 rfl ?_
        refine v_goto (tgt := 66) hC dX5_nearest_61 (by decide) ?_
        exact v_iret hC hR (congrArg (fun z : Int32 => some (Value.int z)) (by simp [nearM, nearV, c5, hik, c14, hiq, c41])) rfl dX5_nearest_66
      · skip
        refine v_iload_n hC dX5_nearest_44 1 rfl ?_
        refine v_bipush (v := (-5)) hC dX5_nearest_45 (by decide) ?_
        refine v_icmp_eq (x := upF (mb (yn Y) k) (2048 - q) q) (y := (-5)) (tgt := 64) hC dX5_nearest_47 (by decide) (fun c47 => ?_) (fun c47 => ?_)
        · skip
          refine v_iload hC dX5_nearest_64 0 rfl ?_
          exact v_iret hC hR (congrArg (fun z : Int32 => some (Value.int z)) (by simp [nearM, nearV, c5, hik, c14, hiq, c41, c47])) rfl dX5_nearest_66
        · skip
          refine v_iload_n hC dX5_nearest_50 1 rfl ?_
          refine v_iload_n hC dX5_nearest_51 4 rfl ?_
          refine v_isub (x := upF (mb (yn Y) k) (2048 - q) q) (y := nI q) hC dX5_nearest_52 ?_
          refine v_iload_n hC dX5_nearest_53 4 rfl ?_
          refine v_iload hC dX5_nearest_54 0 rfl ?_
          refine v_isub (x := nI q) (y := dnF (mb (yn Y) k) (q + 1)) hC dX5_nearest_56 ?_
          refine v_icmp_ge (x := (upF (mb (yn Y) k) (2048 - q) q) - (nI q)) (y := (nI q) - (dnF (mb (yn Y) k) (q + 1))) (tgt := 64) hC dX5_nearest_57 (by decide) (fun c57 => ?_) (fun c57 => ?_)
          · have c57' := Int32.not_lt.mpr c57
            refine v_iload hC dX5_nearest_64 0 rfl ?_
            exact v_iret hC hR (congrArg (fun z : Int32 => some (Value.int z)) (by simp [nearM, nearV, c5, hik, c14, hiq, c41, c47, c57, c57'])) rfl dX5_nearest_66
          · have c57' := Int32.not_le.mp c57
            refine v_iload_n hC dX5_nearest_60 1 rfl ?_
            refine v_goto (tgt := 66) hC dX5_nearest_61 (by decide) ?_
            exact v_iret hC hR (congrArg (fun z : Int32 => some (Value.int z)) (by simp [nearM, nearV, c5, hik, c14, hiq, c41, c47, c57, c57'])) rfl dX5_nearest_66
    · skip
      refine v_bipush (v := (-2)) hC dX5_nearest_17 (by decide) ?_
      exact v_iret hC hR (congrArg (fun z : Int32 => some (Value.int z)) (by simp [nearM, nearV, c5, hik, c14])) rfl dX5_nearest_19
  · skip
    refine v_iconst (v := (-1)) hC dX5_nearest_8 (by decide) ?_
    exact v_iret hC hR (congrArg (fun z : Int32 => some (Value.int z)) (by simp [nearM, nearV, c5])) rfl dX5_nearest_9

theorem hd_X5_at : yX5_at.cls = RX5 ∧ yX5_at.cls ≠ "java/lang/invoke/MethodHandle" ∧ yX5_at.cls ≠ "java/lang/invoke/VarHandle" ∧ (parseMethodDescriptor yX5_at.desc).map (fun d => d.parameters.length) = some 2 := by decide +kernel
set_option maxHeartbeats 400000 in
set_option maxRecDepth 100000 in
theorem c_X5_at (Λ : Lk) (X : XS) (Y : YS) {s : Int32} {place : Int32} {ns : Nat} (h0 : yn Y 0 = nI ns) (hns : ns ≤ 6) : Con Λ yX5_at wsX5_at { frames := 2, cells := 0, slots := 0, locals := 44 } [rf Λ 204, .int s, .int place] (CC Λ X Y) (some (.int (atM (yn Y) s place))) (CC Λ X Y) := by
  refine con_start (cc := cX5_at) (maxL := 5) (ret := (some .int)) (by decide) rfl (Nat.le_of_ble_eq_true rfl) ?_
  intro κ hC hR
  have hC : Ok Λ { frames := 2, cells := 0, slots := 0, locals := 44 } cX5_at wsX5_at RX5 5 κ := hC
  refine v_args (lv' := [(0, rf Λ 204), (1, .int s), (2, .int place)]) rfl ?_
  refine v_aload_n hC dX5_at_0 0 rfl ?_
  refine v_iload_n hC dX5_at_1 1 rfl ?_
  refine v_callVr (v := .int (bI (isSBm (yn Y) s))) (C2 := CC Λ X Y) (As := [.int s]) (rest := []) hC 1 204 (c_X5_isSet Λ X Y (s := s)) (nR_of (by decide)) (cc_204 Λ X Y) rfl gX5_at_X5_isSet rfl rfl rfl hd_X5_isSet ⟨by decide, by decide⟩ rfl rfl (Nat.le_of_ble_eq_true rfl) dX5_at_2 ?_
  refine v_bne (b := isSBm (yn Y) s) (tgt := 10) hC dX5_at_5 (by decide) (fun c5 => ?_) (fun c5 => ?_)
  · skip
    obtain ⟨k, hk, rfl⟩ := isS_of h0 hns c5
    have hik : ix (nI k) = k := ix_nI (by omega)
    refine v_iload_n hC dX5_at_10 2 rfl ?_
    refine v_if_ge (tgt := 17) hC dX5_at_11 (by decide) (fun c11 => ?_) (fun c11 => ?_)
    · have c11' := Int32.not_lt.mpr c11
      refine v_iload_n hC dX5_at_17 2 rfl ?_
      refine v_istore_n (lv' := [(3, .int place), (0, rf Λ 204), (1, .int (nI k)), (2, .int place)]) hC dX5_at_18 (by decide) rfl ?_
      refine v_iconst (v := 0) hC dX5_at_19 (by decide) ?_
      refine v_istore (lv' := [(4, .int 0), (3, .int place), (0, rf Λ 204), (1, .int (nI k)), (2, .int place)]) hC dX5_at_20 (by decide) rfl ?_
      have L22 : ∀ (fu22 : Nat) (j : Nat) (l : Int32) (x4 : Int32), j ≤ 2048 → atN (mb (yn Y) k) (2048 - j) j l = atN (mb (yn Y) k) 2048 0 place → x4 = nI j → 2048 - j < fu22 → V Λ κ (CC Λ X Y) 22 [(0, rf Λ 204), (1, .int (nI k)), (2, .int place), (3, .int l), (4, .int x4)] [] := by
        intro fu22
        induction fu22 with
        | zero => intro j l x4 hj hu e4 hfu22; exact absurd hfu22 (Nat.not_lt_zero _)
        | succ fu22 ih22 =>
          intro j l x4 hj hu e4 hfu22
          subst e4
          refine v_iload hC dX5_at_22 4 rfl ?_
          refine v_sipush (v := 2048) hC dX5_at_24 (by decide) ?_
          refine v_nge (a := j) (b := 2048) (tgt := 56) hC dX5_at_27 (by decide) rfl rfl (by omega) (by omega) (fun c27 => ?_) (fun c27 => ?_)
          · have c27' := Nat.not_lt.mpr c27
            refine v_bipush (v := (-5)) hC dX5_at_56 (by decide) ?_
            exact v_iret hC hR (congrArg (fun z : Int32 => some (Value.int z)) (by simp [atM, c5, hik, c11, c11', c27, c27']; rw [← hu, show 2048 - j = 0 by omega]; rfl)) rfl dX5_at_58
          · have c27' := Nat.not_le.mpr c27
            refine v_aload_n hC dX5_at_30 0 rfl ?_
            refine v_iload_n hC dX5_at_31 1 rfl ?_
            refine v_iload hC dX5_at_32 4 rfl ?_
            refine v_callVr (v := .int (bI (mb (yn Y) k j))) (C2 := CC Λ X Y) (As := [.int (nI k), .int (nI j)]) (rest := []) hC 2 204 (c_X5_isIn Λ X Y (s := k) (n := j) (by omega) (by omega)) (nR_of (by decide)) (cc_204 Λ X Y) rfl gX5_at_X5_isIn rfl rfl rfl hd_X5_isIn ⟨by decide, by decide⟩ rfl rfl (Nat.le_of_ble_eq_true rfl) dX5_at_34 ?_
            refine v_beq (b := mb (yn Y) k j) (tgt := 50) hC dX5_at_37 (by decide) (fun c37 => ?_) (fun c37 => ?_)
            · skip
              refine v_iinc (j := 4) (v := nI (j + 1)) (lv' := [(4, .int (nI (j + 1))), (0, rf Λ 204), (1, .int (nI k)), (2, .int place), (3, .int l)]) hC dX5_at_50 rfl (nI_add j 1) (by decide) rfl ?_
              refine v_goto (tgt := 22) hC dX5_at_53 (by decide) ?_
              refine v_sub (lv' := [(0, rf Λ 204), (1, .int (nI k)), (2, .int place), (3, .int l), (4, .int (nI (j + 1)))]) [1, 2, 3, 4, 0] rfl ?_
              exact ih22 (j + 1) l _ (by omega) (by rw [← hu, show 2048 - j = (2048 - (j + 1)) + 1 by omega, atN]; simp [c5, hik, c11, c11', c27, c27', c37]) rfl (by omega)
            · skip
              refine v_iload_n hC dX5_at_40 3 rfl ?_
              refine v_if_ne (tgt := 47) hC dX5_at_41 (by decide) (fun c41 => ?_) (fun c41 => ?_)
              · skip
                refine v_iinc (j := 3) (v := l + (-1)) (lv' := [(3, .int (l + (-1))), (0, rf Λ 204), (1, .int (nI k)), (2, .int place), (4, .int (nI j))]) hC dX5_at_47 rfl rfl (by decide) rfl ?_
                refine v_iinc (j := 4) (v := nI (j + 1)) (lv' := [(4, .int (nI (j + 1))), (3, .int (l + (-1))), (0, rf Λ 204), (1, .int (nI k)), (2, .int place)]) hC dX5_at_50 rfl (nI_add j 1) (by decide) rfl ?_
                refine v_goto (tgt := 22) hC dX5_at_53 (by decide) ?_
                refine v_sub (lv' := [(0, rf Λ 204), (1, .int (nI k)), (2, .int place), (3, .int (l + (-1))), (4, .int (nI (j + 1)))]) [2, 3, 4, 1, 0] rfl ?_
                exact ih22 (j + 1) (l + (-1)) _ (by omega) (by rw [← hu, show 2048 - j = (2048 - (j + 1)) + 1 by omega, atN]; simp [c5, hik, c11, c11', c27, c27', c37, c41]) rfl (by omega)
              · skip
                refine v_iload hC dX5_at_44 4 rfl ?_
                exact v_iret hC hR (congrArg (fun z : Int32 => some (Value.int z)) (by simp [atM, c5, hik, c11, c11', c27, c27', c37, c41]; rw [← hu, show 2048 - j = (2048 - (j + 1)) + 1 by omega, atN]; simp [c5, hik, c11, c11', c27, c27', c37, c41])) rfl dX5_at_46
      refine v_sub (lv' := [(0, rf Λ 204), (1, .int (nI k)), (2, .int place), (3, .int place), (4, .int 0)]) [2, 3, 4, 1, 0] rfl ?_
      exact L22 _ 0 place _ (by omega) rfl rfl (Nat.lt_succ_self _)
    · have c11' := Int32.not_le.mp c11
      refine v_bipush (v := (-2)) hC dX5_at_14 (by decide) ?_
      exact v_iret hC hR (congrArg (fun z : Int32 => some (Value.int z)) (by simp [atM, c5, hik, c11, c11'])) rfl dX5_at_16
  · skip
    refine v_iconst (v := (-1)) hC dX5_at_8 (by decide) ?_
    exact v_iret hC hR (congrArg (fun z : Int32 => some (Value.int z)) (by simp [atM, c5])) rfl dX5_at_9

theorem hd_X5_gap : yX5_gap.cls = RX5 ∧ yX5_gap.cls ≠ "java/lang/invoke/MethodHandle" ∧ yX5_gap.cls ≠ "java/lang/invoke/VarHandle" ∧ (parseMethodDescriptor yX5_gap.desc).map (fun d => d.parameters.length) = some 2 := by decide +kernel
set_option maxHeartbeats 400000 in
set_option maxRecDepth 100000 in
theorem c_X5_gap (Λ : Lk) (X : XS) (Y : YS) {s : Int32} {len : Int32} {ns : Nat} (h0 : yn Y 0 = nI ns) (hns : ns ≤ 6) : Con Λ yX5_gap wsX5_gap { frames := 2, cells := 0, slots := 0, locals := 44 } [rf Λ 204, .int s, .int len] (CC Λ X Y) (some (.int (gapM (yn Y) s len))) (CC Λ X Y) := by
  refine con_start (cc := cX5_gap) (maxL := 5) (ret := (some .int)) (by decide) rfl (Nat.le_of_ble_eq_true rfl) ?_
  intro κ hC hR
  have hC : Ok Λ { frames := 2, cells := 0, slots := 0, locals := 44 } cX5_gap wsX5_gap RX5 5 κ := hC
  refine v_args (lv' := [(0, rf Λ 204), (1, .int s), (2, .int len)]) rfl ?_
  refine v_aload_n hC dX5_gap_0 0 rfl ?_
  refine v_iload_n hC dX5_gap_1 1 rfl ?_
  refine v_callVr (v := .int (bI (isSBm (yn Y) s))) (C2 := CC Λ X Y) (As := [.int s]) (rest := []) hC 1 204 (c_X5_isSet Λ X Y (s := s)) (nR_of (by decide)) (cc_204 Λ X Y) rfl gX5_gap_X5_isSet rfl rfl rfl hd_X5_isSet ⟨by decide, by decide⟩ rfl rfl (Nat.le_of_ble_eq_true rfl) dX5_gap_2 ?_
  refine v_bne (b := isSBm (yn Y) s) (tgt := 10) hC dX5_gap_5 (by decide) (fun c5 => ?_) (fun c5 => ?_)
  · skip
    obtain ⟨k, hk, rfl⟩ := isS_of h0 hns c5
    have hik : ix (nI k) = k := ix_nI (by omega)
    refine v_iload_n hC dX5_gap_10 2 rfl ?_
    refine v_iconst (v := 1) hC dX5_gap_11 (by decide) ?_
    refine v_sipush (v := 2048) hC dX5_gap_12 (by decide) ?_
    refine v_callSr (v := .int (bI (inB len 1 2048))) (C2 := CC Λ X Y) (As := [.int len, .int 1, .int 2048]) (rest := []) hC 3 (c_X5_in Λ X Y (v := len) (lo := 1) (hi := 2048)) gX5_gap_X5_in rfl rfl rfl hd_X5_in ⟨by decide, by decide⟩ rfl rfl (Nat.le_of_ble_eq_true rfl) dX5_gap_15 ?_
    refine v_bne (b := inB len 1 2048) (tgt := 24) hC dX5_gap_18 (by decide) (fun c18 => ?_) (fun c18 => ?_)
    · skip
      obtain ⟨l, hl1, hl, rfl⟩ := in1_of (hi := 2048) c18 (by decide)
      have hil : ix (nI l) = l := ix_nI (by omega)
      refine v_iconst (v := 0) hC dX5_gap_24 (by decide) ?_
      refine v_istore_n (lv' := [(3, .int 0), (0, rf Λ 204), (1, .int (nI k)), (2, .int (nI l))]) hC dX5_gap_25 (by decide) rfl ?_
      refine v_iconst (v := 0) hC dX5_gap_26 (by decide) ?_
      refine v_istore (lv' := [(4, .int 0), (3, .int 0), (0, rf Λ 204), (1, .int (nI k)), (2, .int (nI l))]) hC dX5_gap_27 (by decide) rfl ?_
      have L29 : ∀ (fu29 : Nat) (j : Nat) (m : Nat) (x3 : Int32) (x4 : Int32), j ≤ 2048 → m ≤ j → gapN (mb (yn Y) k) l (2048 - j) j m = gapN (mb (yn Y) k) l 2048 0 0 → x3 = nI m → x4 = nI j → 2048 - j < fu29 → V Λ κ (CC Λ X Y) 29 [(0, rf Λ 204), (1, .int (nI k)), (2, .int (nI l)), (3, .int x3), (4, .int x4)] [] := by
        intro fu29
        induction fu29 with
        | zero => intro j m x3 x4 hj hm hu e3 e4 hfu29; exact absurd hfu29 (Nat.not_lt_zero _)
        | succ fu29 ih29 =>
          intro j m x3 x4 hj hm hu e3 e4 hfu29
          subst e3
          subst e4
          refine v_iload hC dX5_gap_29 4 rfl ?_
          refine v_sipush (v := 2048) hC dX5_gap_31 (by decide) ?_
          refine v_nge (a := j) (b := 2048) (tgt := 73) hC dX5_gap_34 (by decide) rfl rfl (by omega) (by omega) (fun c34 => ?_) (fun c34 => ?_)
          · have c34' := Nat.not_lt.mpr c34
            refine v_bipush (v := (-5)) hC dX5_gap_73 (by decide) ?_
            exact v_iret hC hR (congrArg (fun z : Int32 => some (Value.int z)) (by simp [gapM, c5, hik, c18, hil, c34, c34']; rw [← hu, show 2048 - j = 0 by omega]; rfl)) rfl dX5_gap_75
          · have c34' := Nat.not_le.mpr c34
            refine v_aload_n hC dX5_gap_37 0 rfl ?_
            refine v_iload_n hC dX5_gap_38 1 rfl ?_
            refine v_iload hC dX5_gap_39 4 rfl ?_
            refine v_callVr (v := .int (bI (mb (yn Y) k j))) (C2 := CC Λ X Y) (As := [.int (nI k), .int (nI j)]) (rest := []) hC 2 204 (c_X5_isIn Λ X Y (s := k) (n := j) (by omega) (by omega)) (nR_of (by decide)) (cc_204 Λ X Y) rfl gX5_gap_X5_isIn rfl rfl rfl hd_X5_isIn ⟨by decide, by decide⟩ rfl rfl (Nat.le_of_ble_eq_true rfl) dX5_gap_41 ?_
            refine v_beq (b := mb (yn Y) k j) (tgt := 51) hC dX5_gap_44 (by decide) (fun c44 => ?_) (fun c44 => ?_)
            · skip
              refine v_iload_n hC dX5_gap_51 3 rfl ?_
              refine v_iconst (v := 1) hC dX5_gap_52 (by decide) ?_
              refine v_iadd (x := nI m) (y := 1) hC dX5_gap_53 ?_
              refine v_topi (y := nI (m + 1)) (nI_add m 1) ?_
              refine v_istore_n (lv' := [(3, .int (nI (m + 1))), (0, rf Λ 204), (1, .int (nI k)), (2, .int (nI l)), (4, .int (nI j))]) hC dX5_gap_54 (by decide) rfl ?_
              refine v_iload_n hC dX5_gap_55 0 rfl ?_
              refine v_iload_n hC dX5_gap_56 3 rfl ?_
              refine v_nne (a := m + 1) (b := l) (tgt := 67) hC dX5_gap_57 (by decide) rfl rfl (by omega) (by omega) (fun c57 => ?_) (fun c57 => ?_)
              · skip
                refine v_iinc (j := 4) (v := nI (j + 1)) (lv' := [(4, .int (nI (j + 1))), (3, .int (nI (m + 1))), (0, rf Λ 204), (1, .int (nI k)), (2, .int (nI l))]) hC dX5_gap_67 rfl (nI_add j 1) (by decide) rfl ?_
                refine v_goto (tgt := 29) hC dX5_gap_70 (by decide) ?_
                refine v_sub (lv' := [(0, rf Λ 204), (1, .int (nI k)), (2, .int (nI l)), (3, .int (nI (m + 1))), (4, .int (nI (j + 1)))]) [2, 3, 4, 1, 0] rfl ?_
                exact ih29 (j + 1) (m + 1) _ _ (by omega) (by omega) (by rw [← hu, show 2048 - j = (2048 - (j + 1)) + 1 by omega, gapN]; simp [c5, hik, c18, hil, c34, c34', c44, c57]) rfl rfl (by omega)
              · skip
                refine v_iload hC dX5_gap_60 4 rfl ?_
                refine v_iload_n hC dX5_gap_62 3 rfl ?_
                refine v_isub (x := nI j) (y := nI l) hC dX5_gap_63 ?_
                refine v_iconst (v := 1) hC dX5_gap_64 (by decide) ?_
                refine v_iadd (x := (nI j) - (nI l)) (y := 1) hC dX5_gap_65 ?_
                exact v_iret hC hR (congrArg (fun z : Int32 => some (Value.int z)) (by simp [gapM, c5, hik, c18, hil, c34, c34', c44, c57]; rw [← hu, show 2048 - j = (2048 - (j + 1)) + 1 by omega, gapN]; simp [c5, hik, c18, hil, c34, c34', c44, c57])) rfl dX5_gap_66
            · skip
              refine v_iconst (v := 0) hC dX5_gap_47 (by decide) ?_
              refine v_goto (tgt := 54) hC dX5_gap_48 (by decide) ?_
              refine v_istore_n (lv' := [(3, .int 0), (0, rf Λ 204), (1, .int (nI k)), (2, .int (nI l)), (4, .int (nI j))]) hC dX5_gap_54 (by decide) rfl ?_
              refine v_iload_n hC dX5_gap_55 0 rfl ?_
              refine v_iload_n hC dX5_gap_56 3 rfl ?_
              refine v_nne (a := 0) (b := l) (tgt := 67) hC dX5_gap_57 (by decide) rfl rfl (by omega) (by omega) (fun c57 => ?_) (fun c57 => ?_)
              · skip
                refine v_iinc (j := 4) (v := nI (j + 1)) (lv' := [(4, .int (nI (j + 1))), (3, .int 0), (0, rf Λ 204), (1, .int (nI k)), (2, .int (nI l))]) hC dX5_gap_67 rfl (nI_add j 1) (by decide) rfl ?_
                refine v_goto (tgt := 29) hC dX5_gap_70 (by decide) ?_
                refine v_sub (lv' := [(0, rf Λ 204), (1, .int (nI k)), (2, .int (nI l)), (3, .int 0), (4, .int (nI (j + 1)))]) [2, 3, 4, 1, 0] rfl ?_
                exact ih29 (j + 1) 0 _ _ (by omega) (by omega) (by rw [← hu, show 2048 - j = (2048 - (j + 1)) + 1 by omega, gapN]; simp [c5, hik, c18, hil, c34, c34', c44, c57]) rfl rfl (by omega)
              · skip
                refine v_iload hC dX5_gap_60 4 rfl ?_
                refine v_iload_n hC dX5_gap_62 3 rfl ?_
                refine v_isub (x := nI j) (y := nI l) hC dX5_gap_63 ?_
                refine v_iconst (v := 1) hC dX5_gap_64 (by decide) ?_
                refine v_iadd (x := (nI j) - (nI l)) (y := 1) hC dX5_gap_65 ?_
                exact v_iret hC hR (congrArg (fun z : Int32 => some (Value.int z)) (by exfalso; omega)) rfl dX5_gap_66
      refine v_sub (lv' := [(0, rf Λ 204), (1, .int (nI k)), (2, .int (nI l)), (3, .int 0), (4, .int 0)]) [2, 3, 4, 1, 0] rfl ?_
      exact L29 _ 0 0 _ _ (by omega) (by omega) rfl rfl rfl (Nat.lt_succ_self _)
    · skip
      refine v_bipush (v := (-2)) hC dX5_gap_21 (by decide) ?_
      exact v_iret hC hR (congrArg (fun z : Int32 => some (Value.int z)) (by simp [gapM, c5, hik, c18])) rfl dX5_gap_23
  · skip
    refine v_iconst (v := (-1)) hC dX5_gap_8 (by decide) ?_
    exact v_iret hC hR (congrArg (fun z : Int32 => some (Value.int z)) (by simp [gapM, c5])) rfl dX5_gap_9

theorem hd_X5_ofAll : yX5_ofAll.cls = RX5 ∧ yX5_ofAll.cls ≠ "java/lang/invoke/MethodHandle" ∧ yX5_ofAll.cls ≠ "java/lang/invoke/VarHandle" ∧ (parseMethodDescriptor yX5_ofAll.desc).map (fun d => d.parameters.length) = some 1 := by decide +kernel
set_option maxHeartbeats 400000 in
set_option maxRecDepth 100000 in
theorem c_X5_ofAll (Λ : Lk) (X : XS) (Y : YS) {place : Int32} {ns : Nat} (h0 : yn Y 0 = nI ns) (hns : ns ≤ 6) : Con Λ yX5_ofAll wsX5_ofAll { frames := 3, cells := 0, slots := 0, locals := 67 } [rf Λ 204, .int place] (CC Λ X Y) (some (.int (ofAllM (yn Y) ns place))) (CC Λ X Y) := by
  refine con_start (cc := cX5_ofAll) (maxL := 5) (ret := (some .int)) (by decide) rfl (Nat.le_of_ble_eq_true rfl) ?_
  intro κ hC hR
  have hC : Ok Λ { frames := 3, cells := 0, slots := 0, locals := 67 } cX5_ofAll wsX5_ofAll RX5 5 κ := hC
  refine v_args (lv' := [(0, rf Λ 204), (1, .int place)]) rfl ?_
  refine v_iload_n hC dX5_ofAll_0 1 rfl ?_
  refine v_if_ge (tgt := 7) hC dX5_ofAll_1 (by decide) (fun c1 => ?_) (fun c1 => ?_)
  · have c1' := Int32.not_lt.mpr c1
    refine v_iload_n hC dX5_ofAll_7 1 rfl ?_
    refine v_istore_n (lv' := [(2, .int place), (0, rf Λ 204), (1, .int place)]) hC dX5_ofAll_8 (by decide) rfl ?_
    refine v_iconst (v := 0) hC dX5_ofAll_9 (by decide) ?_
    refine v_istore_n (lv' := [(3, .int 0), (2, .int place), (0, rf Λ 204), (1, .int place)]) hC dX5_ofAll_10 (by decide) rfl ?_
    have L11 : ∀ (fu11 : Nat) (j : Nat) (l : Int32) (x3 : Int32), j ≤ 2048 → oaN (swN (yn Y) ns) (2048 - j) j l = oaN (swN (yn Y) ns) 2048 0 place → x3 = nI j → 2048 - j < fu11 → V Λ κ (CC Λ X Y) 11 [(0, rf Λ 204), (1, .int place), (2, .int l), (3, .int x3)] [] := by
      intro fu11
      induction fu11 with
      | zero => intro j l x3 hj hu e3 hfu11; exact absurd hfu11 (Nat.not_lt_zero _)
      | succ fu11 ih11 =>
        intro j l x3 hj hu e3 hfu11
        subst e3
        refine v_iload_n hC dX5_ofAll_11 3 rfl ?_
        refine v_sipush (v := 2048) hC dX5_ofAll_12 (by decide) ?_
        refine v_nge (a := j) (b := 2048) (tgt := 44) hC dX5_ofAll_15 (by decide) rfl rfl (by omega) (by omega) (fun c15 => ?_) (fun c15 => ?_)
        · have c15' := Nat.not_lt.mpr c15
          refine v_bipush (v := (-5)) hC dX5_ofAll_44 (by decide) ?_
          exact v_iret hC hR (congrArg (fun z : Int32 => some (Value.int z)) (by simp [ofAllM, c1, c1', c15, c15']; rw [← hu, show 2048 - j = 0 by omega]; rfl)) rfl dX5_ofAll_46
        · have c15' := Nat.not_le.mpr c15
          refine v_aload_n hC dX5_ofAll_18 0 rfl ?_
          refine v_iload_n hC dX5_ofAll_19 3 rfl ?_
          refine v_callVr (v := .int (nI (swN (yn Y) ns j))) (C2 := CC Λ X Y) (As := [.int (nI j)]) (rest := []) hC 1 204 (c_X5_setsWith Λ X Y (n := j) h0 hns (by omega)) (nR_of (by decide)) (cc_204 Λ X Y) rfl gX5_ofAll_X5_setsWith rfl rfl rfl hd_X5_setsWith ⟨by decide, by decide⟩ rfl rfl (Nat.le_of_ble_eq_true rfl) dX5_ofAll_20 ?_
          have hw20 := swN_le (yn Y) ns j
          refine v_istore (lv' := [(4, .int (nI (swN (yn Y) ns j))), (0, rf Λ 204), (1, .int place), (2, .int l), (3, .int (nI j))]) hC dX5_ofAll_23 (by decide) rfl ?_
          refine v_iload_n hC dX5_ofAll_25 3 rfl ?_
          refine v_iload hC dX5_ofAll_26 0 rfl ?_
          refine v_icmp_ge (x := l) (y := nI (swN (yn Y) ns j)) (tgt := 33) hC dX5_ofAll_28 (by decide) (fun c28 => ?_) (fun c28 => ?_)
          · have c28' := Int32.not_lt.mpr c28
            refine v_iload_n hC dX5_ofAll_33 3 rfl ?_
            refine v_iload hC dX5_ofAll_34 0 rfl ?_
            refine v_isub (x := l) (y := nI (swN (yn Y) ns j)) hC dX5_ofAll_36 ?_
            refine v_istore_n (lv' := [(2, .int (l - (nI (swN (yn Y) ns j)))), (4, .int (nI (swN (yn Y) ns j))), (0, rf Λ 204), (1, .int place), (3, .int (nI j))]) hC dX5_ofAll_37 (by decide) rfl ?_
            refine v_iinc (j := 4) (v := nI (j + 1)) (lv' := [(3, .int (nI (j + 1))), (2, .int (l - (nI (swN (yn Y) ns j)))), (4, .int (nI (swN (yn Y) ns j))), (0, rf Λ 204), (1, .int place)]) hC dX5_ofAll_38 rfl (nI_add j 1) (by decide) rfl ?_
            refine v_goto (tgt := 11) hC dX5_ofAll_41 (by decide) ?_
            refine v_sub (lv' := [(0, rf Λ 204), (1, .int place), (2, .int (l - (nI (swN (yn Y) ns j)))), (3, .int (nI (j + 1)))]) [3, 4, 1, 0] rfl ?_
            exact ih11 (j + 1) (l - nI (swN (yn Y) ns j)) _ (by omega) (by rw [← hu, show 2048 - j = (2048 - (j + 1)) + 1 by omega, oaN]; simp [c1, c1', c15, c15', c28, c28']) rfl (by omega)
          · have c28' := Int32.not_le.mp c28
            refine v_iload_n hC dX5_ofAll_31 4 rfl ?_
            exact v_iret hC hR (congrArg (fun z : Int32 => some (Value.int z)) (by simp [ofAllM, c1, c1', c15, c15', c28, c28']; rw [← hu, show 2048 - j = (2048 - (j + 1)) + 1 by omega, oaN]; simp [c1, c1', c15, c15', c28, c28'])) rfl dX5_ofAll_32
    refine v_sub (lv' := [(0, rf Λ 204), (1, .int place), (2, .int place), (3, .int 0)]) [2, 3, 1, 0] rfl ?_
    exact L11 _ 0 place _ (by omega) rfl rfl (Nat.lt_succ_self _)
  · have c1' := Int32.not_le.mp c1
    refine v_bipush (v := (-2)) hC dX5_ofAll_4 (by decide) ?_
    exact v_iret hC hR (congrArg (fun z : Int32 => some (Value.int z)) (by simp [ofAllM, c1, c1'])) rfl dX5_ofAll_6

theorem hd_X5_most : yX5_most.cls = RX5 ∧ yX5_most.cls ≠ "java/lang/invoke/MethodHandle" ∧ yX5_most.cls ≠ "java/lang/invoke/VarHandle" ∧ (parseMethodDescriptor yX5_most.desc).map (fun d => d.parameters.length) = some 0 := by decide +kernel
set_option maxHeartbeats 400000 in
set_option maxRecDepth 100000 in
theorem c_X5_most (Λ : Lk) (X : XS) (Y : YS) {ns : Nat} (h0 : yn Y 0 = nI ns) (hns : ns ≤ 6) : Con Λ yX5_most wsX5_most { frames := 3, cells := 0, slots := 0, locals := 67 } [rf Λ 204] (CC Λ X Y) (some (.int ((mostN (swN (yn Y) ns) 2048).1))) (CC Λ X Y) := by
  refine con_start (cc := cX5_most) (maxL := 5) (ret := (some .int)) (by decide) rfl (Nat.le_of_ble_eq_true rfl) ?_
  intro κ hC hR
  have hC : Ok Λ { frames := 3, cells := 0, slots := 0, locals := 67 } cX5_most wsX5_most RX5 5 κ := hC
  refine v_args (lv' := [(0, rf Λ 204)]) rfl ?_
  refine v_bipush (v := (-5)) hC dX5_most_0 (by decide) ?_
  refine v_istore_n (lv' := [(1, .int (-5)), (0, rf Λ 204)]) hC dX5_most_2 (by decide) rfl ?_
  refine v_iconst (v := 0) hC dX5_most_3 (by decide) ?_
  refine v_istore_n (lv' := [(2, .int 0), (1, .int (-5)), (0, rf Λ 204)]) hC dX5_most_4 (by decide) rfl ?_
  refine v_iconst (v := 0) hC dX5_most_5 (by decide) ?_
  refine v_istore_n (lv' := [(3, .int 0), (2, .int 0), (1, .int (-5)), (0, rf Λ 204)]) hC dX5_most_6 (by decide) rfl ?_
  have L7 : ∀ (fu7 : Nat) (j : Nat) (x1 : Int32) (x2 : Int32) (x3 : Int32), j ≤ 2048 → x1 = (mostN (swN (yn Y) ns) j).1 → x2 = nI ((mostN (swN (yn Y) ns) j).2) → x3 = nI j → 2048 - j < fu7 → V Λ κ (CC Λ X Y) 7 [(0, rf Λ 204), (1, .int x1), (2, .int x2), (3, .int x3)] [] := by
    intro fu7
    induction fu7 with
    | zero => intro j x1 x2 x3 hj e1 e2 e3 hfu7; exact absurd hfu7 (Nat.not_lt_zero _)
    | succ fu7 ih7 =>
      intro j x1 x2 x3 hj e1 e2 e3 hfu7
      subst e1
      subst e2
      subst e3
      have hmx := mostN_le (swN (yn Y) ns) (fun n => swN_le (yn Y) ns n) j
      refine v_iload_n hC dX5_most_7 3 rfl ?_
      refine v_sipush (v := 2048) hC dX5_most_8 (by decide) ?_
      refine v_nge (a := j) (b := 2048) (tgt := 52) hC dX5_most_11 (by decide) rfl rfl (by omega) (by omega) (fun c11 => ?_) (fun c11 => ?_)
      · have c11' := Nat.not_lt.mpr c11
        refine v_iload_n hC dX5_most_52 1 rfl ?_
        exact v_iret hC hR (congrArg (fun z : Int32 => some (Value.int z)) (by have e : j = 2048 := (by omega); subst e; rfl)) rfl dX5_most_53
      · have c11' := Nat.not_le.mpr c11
        refine v_aload_n hC dX5_most_14 0 rfl ?_
        refine v_iload_n hC dX5_most_15 3 rfl ?_
        refine v_callVr (v := .int (nI (swN (yn Y) ns j))) (C2 := CC Λ X Y) (As := [.int (nI j)]) (rest := []) hC 1 204 (c_X5_setsWith Λ X Y (n := j) h0 hns (by omega)) (nR_of (by decide)) (cc_204 Λ X Y) rfl gX5_most_X5_setsWith rfl rfl rfl hd_X5_setsWith ⟨by decide, by decide⟩ rfl rfl (Nat.le_of_ble_eq_true rfl) dX5_most_16 ?_
        have hw16 := swN_le (yn Y) ns j
        refine v_istore (lv' := [(4, .int (nI (swN (yn Y) ns j))), (0, rf Λ 204), (1, .int ((mostN (swN (yn Y) ns) j).1)), (2, .int (nI ((mostN (swN (yn Y) ns) j).2))), (3, .int (nI j))]) hC dX5_most_19 (by decide) rfl ?_
        refine v_iload hC dX5_most_21 0 rfl ?_
        refine v_iload_n hC dX5_most_23 3 rfl ?_
        refine v_nle (a := swN (yn Y) ns j) (b := (mostN (swN (yn Y) ns) j).2) (tgt := 31) hC dX5_most_24 (by decide) rfl rfl (by omega) (by omega) (fun c24 => ?_) (fun c24 => ?_)
        · have c24' := Nat.not_lt.mpr c24
          refine v_iload_n hC dX5_most_31 2 rfl ?_
          refine v_istore_n (lv' := [(1, .int ((mostN (swN (yn Y) ns) j).1)), (4, .int (nI (swN (yn Y) ns j))), (0, rf Λ 204), (2, .int (nI ((mostN (swN (yn Y) ns) j).2))), (3, .int (nI j))]) hC dX5_most_32 (by decide) rfl ?_
          refine v_iload hC dX5_most_33 1 rfl ?_
          refine v_iload_n hC dX5_most_35 3 rfl ?_
          refine v_nle (a := swN (yn Y) ns j) (b := (mostN (swN (yn Y) ns) j).2) (tgt := 44) hC dX5_most_36 (by decide) rfl rfl (by omega) (by omega) (fun c36 => ?_) (fun c36 => ?_)
          · have c36' := Nat.not_lt.mpr c36
            refine v_iload_n hC dX5_most_44 3 rfl ?_
            refine v_istore_n (lv' := [(2, .int (nI ((mostN (swN (yn Y) ns) j).2))), (1, .int ((mostN (swN (yn Y) ns) j).1)), (4, .int (nI (swN (yn Y) ns j))), (0, rf Λ 204), (3, .int (nI j))]) hC dX5_most_45 (by decide) rfl ?_
            refine v_iinc (j := 4) (v := nI (j + 1)) (lv' := [(3, .int (nI (j + 1))), (2, .int (nI ((mostN (swN (yn Y) ns) j).2))), (1, .int ((mostN (swN (yn Y) ns) j).1)), (4, .int (nI (swN (yn Y) ns j))), (0, rf Λ 204)]) hC dX5_most_46 rfl (nI_add j 1) (by decide) rfl ?_
            refine v_goto (tgt := 7) hC dX5_most_49 (by decide) ?_
            refine v_sub (lv' := [(0, rf Λ 204), (1, .int ((mostN (swN (yn Y) ns) j).1)), (2, .int (nI ((mostN (swN (yn Y) ns) j).2))), (3, .int (nI (j + 1)))]) [4, 2, 1, 0] rfl ?_
            exact ih7 (j + 1) _ _ _ (by omega) (by first | (simp [mostN, c11, c11', c24, c24', c36, c36']; done) | (exfalso; omega)) (by first | (simp [mostN, c11, c11', c24, c24', c36, c36']; done) | (exfalso; omega)) rfl (by omega)
          · have c36' := Nat.not_le.mpr c36
            refine v_iload hC dX5_most_39 1 rfl ?_
            refine v_goto (tgt := 45) hC dX5_most_41 (by decide) ?_
            refine v_istore_n (lv' := [(2, .int (nI (swN (yn Y) ns j))), (1, .int ((mostN (swN (yn Y) ns) j).1)), (4, .int (nI (swN (yn Y) ns j))), (0, rf Λ 204), (3, .int (nI j))]) hC dX5_most_45 (by decide) rfl ?_
            refine v_iinc (j := 4) (v := nI (j + 1)) (lv' := [(3, .int (nI (j + 1))), (2, .int (nI (swN (yn Y) ns j))), (1, .int ((mostN (swN (yn Y) ns) j).1)), (4, .int (nI (swN (yn Y) ns j))), (0, rf Λ 204)]) hC dX5_most_46 rfl (nI_add j 1) (by decide) rfl ?_
            refine v_goto (tgt := 7) hC dX5_most_49 (by decide) ?_
            refine v_sub (lv' := [(0, rf Λ 204), (1, .int ((mostN (swN (yn Y) ns) j).1)), (2, .int (nI (swN (yn Y) ns j))), (3, .int (nI (j + 1)))]) [4, 2, 1, 0] rfl ?_
            exact ih7 (j + 1) _ _ _ (by omega) (by first | (simp [mostN, c11, c11', c24, c24', c36, c36']; done) | (exfalso; omega)) (by first | (simp [mostN, c11, c11', c24, c24', c36, c36']; done) | (exfalso; omega)) rfl (by omega)
        · have c24' := Nat.not_le.mpr c24
          refine v_iload_n hC dX5_most_27 4 rfl ?_
          refine v_goto (tgt := 32) hC dX5_most_28 (by decide) ?_
          refine v_istore_n (lv' := [(1, .int (nI j)), (4, .int (nI (swN (yn Y) ns j))), (0, rf Λ 204), (2, .int (nI ((mostN (swN (yn Y) ns) j).2))), (3, .int (nI j))]) hC dX5_most_32 (by decide) rfl ?_
          refine v_iload hC dX5_most_33 1 rfl ?_
          refine v_iload_n hC dX5_most_35 3 rfl ?_
          refine v_nle (a := swN (yn Y) ns j) (b := (mostN (swN (yn Y) ns) j).2) (tgt := 44) hC dX5_most_36 (by decide) rfl rfl (by omega) (by omega) (fun c36 => ?_) (fun c36 => ?_)
          · have c36' := Nat.not_lt.mpr c36
            refine v_iload_n hC dX5_most_44 3 rfl ?_
            refine v_istore_n (lv' := [(2, .int (nI ((mostN (swN (yn Y) ns) j).2))), (1, .int (nI j)), (4, .int (nI (swN (yn Y) ns j))), (0, rf Λ 204), (3, .int (nI j))]) hC dX5_most_45 (by decide) rfl ?_
            refine v_iinc (j := 4) (v := nI (j + 1)) (lv' := [(3, .int (nI (j + 1))), (2, .int (nI ((mostN (swN (yn Y) ns) j).2))), (1, .int (nI j)), (4, .int (nI (swN (yn Y) ns j))), (0, rf Λ 204)]) hC dX5_most_46 rfl (nI_add j 1) (by decide) rfl ?_
            refine v_goto (tgt := 7) hC dX5_most_49 (by decide) ?_
            refine v_sub (lv' := [(0, rf Λ 204), (1, .int (nI j)), (2, .int (nI ((mostN (swN (yn Y) ns) j).2))), (3, .int (nI (j + 1)))]) [4, 2, 1, 0] rfl ?_
            exact ih7 (j + 1) _ _ _ (by omega) (by first | (simp [mostN, c11, c11', c24, c24', c36, c36']; done) | (exfalso; omega)) (by first | (simp [mostN, c11, c11', c24, c24', c36, c36']; done) | (exfalso; omega)) rfl (by omega)
          · have c36' := Nat.not_le.mpr c36
            refine v_iload hC dX5_most_39 1 rfl ?_
            refine v_goto (tgt := 45) hC dX5_most_41 (by decide) ?_
            refine v_istore_n (lv' := [(2, .int (nI (swN (yn Y) ns j))), (1, .int (nI j)), (4, .int (nI (swN (yn Y) ns j))), (0, rf Λ 204), (3, .int (nI j))]) hC dX5_most_45 (by decide) rfl ?_
            refine v_iinc (j := 4) (v := nI (j + 1)) (lv' := [(3, .int (nI (j + 1))), (2, .int (nI (swN (yn Y) ns j))), (1, .int (nI j)), (4, .int (nI (swN (yn Y) ns j))), (0, rf Λ 204)]) hC dX5_most_46 rfl (nI_add j 1) (by decide) rfl ?_
            refine v_goto (tgt := 7) hC dX5_most_49 (by decide) ?_
            refine v_sub (lv' := [(0, rf Λ 204), (1, .int (nI j)), (2, .int (nI (swN (yn Y) ns j))), (3, .int (nI (j + 1)))]) [4, 2, 1, 0] rfl ?_
            exact ih7 (j + 1) _ _ _ (by omega) (by first | (simp [mostN, c11, c11', c24, c24', c36, c36']; done) | (exfalso; omega)) (by first | (simp [mostN, c11, c11', c24, c24', c36, c36']; done) | (exfalso; omega)) rfl (by omega)
  refine v_sub (lv' := [(0, rf Λ 204), (1, .int (-5)), (2, .int 0), (3, .int 0)]) [3, 2, 1, 0] rfl ?_
  exact L7 _ 0 _ _ _ (by omega) rfl rfl rfl (Nat.lt_succ_self _)

theorem hd_X5_different : yX5_different.cls = RX5 ∧ yX5_different.cls ≠ "java/lang/invoke/MethodHandle" ∧ yX5_different.cls ≠ "java/lang/invoke/VarHandle" ∧ (parseMethodDescriptor yX5_different.desc).map (fun d => d.parameters.length) = some 0 := by decide +kernel
set_option maxHeartbeats 400000 in
set_option maxRecDepth 100000 in
theorem c_X5_different (Λ : Lk) (X : XS) (Y : YS) {ns : Nat} (h0 : yn Y 0 = nI ns) (hns : ns ≤ 6) : Con Λ yX5_different wsX5_different { frames := 3, cells := 0, slots := 0, locals := 67 } [rf Λ 204] (CC Λ X Y) (some (.int (nI (diffN (yn Y) ns)))) (CC Λ X Y) := by
  refine con_start (cc := cX5_different) (maxL := 3) (ret := (some .int)) (by decide) rfl (Nat.le_of_ble_eq_true rfl) ?_
  intro κ hC hR
  have hC : Ok Λ { frames := 3, cells := 0, slots := 0, locals := 67 } cX5_different wsX5_different RX5 3 κ := hC
  refine v_args (lv' := [(0, rf Λ 204)]) rfl ?_
  refine v_iconst (v := 0) hC dX5_different_0 (by decide) ?_
  refine v_istore_n (lv' := [(1, .int 0), (0, rf Λ 204)]) hC dX5_different_1 (by decide) rfl ?_
  refine v_iconst (v := 0) hC dX5_different_2 (by decide) ?_
  refine v_istore_n (lv' := [(2, .int 0), (1, .int 0), (0, rf Λ 204)]) hC dX5_different_3 (by decide) rfl ?_
  have L4 : ∀ (fu4 : Nat) (j : Nat) (x1 : Int32) (x2 : Int32), j ≤ 2048 → x1 = nI (cnt (fun n => decide (0 < swN (yn Y) ns n)) 0 j) → x2 = nI j → 2048 - j < fu4 → V Λ κ (CC Λ X Y) 4 [(0, rf Λ 204), (1, .int x1), (2, .int x2)] [] := by
    intro fu4
    induction fu4 with
    | zero => intro j x1 x2 hj e1 e2 hfu4; exact absurd hfu4 (Nat.not_lt_zero _)
    | succ fu4 ih4 =>
      intro j x1 x2 hj e1 e2 hfu4
      subst e1
      subst e2
      have hcl := cnt_le (fun n => decide (0 < swN (yn Y) ns n)) 0 j
      refine v_iload_n hC dX5_different_4 2 rfl ?_
      refine v_sipush (v := 2048) hC dX5_different_5 (by decide) ?_
      refine v_nge (a := j) (b := 2048) (tgt := 33) hC dX5_different_8 (by decide) rfl rfl (by omega) (by omega) (fun c8 => ?_) (fun c8 => ?_)
      · have c8' := Nat.not_lt.mpr c8
        refine v_iload_n hC dX5_different_33 1 rfl ?_
        exact v_iret hC hR (congrArg (fun z : Int32 => some (Value.int z)) (by have e : j = 2048 := (by omega); subst e; rfl)) rfl dX5_different_34
      · have c8' := Nat.not_le.mpr c8
        refine v_iload_n hC dX5_different_11 1 rfl ?_
        refine v_aload_n hC dX5_different_12 0 rfl ?_
        refine v_iload_n hC dX5_different_13 2 rfl ?_
        refine v_callVr (v := .int (nI (swN (yn Y) ns j))) (C2 := CC Λ X Y) (As := [.int (nI j)]) (rest := [.int (nI (cnt (fun n => decide (0 < swN (yn Y) ns n)) 0 j))]) hC 1 204 (c_X5_setsWith Λ X Y (n := j) h0 hns (by omega)) (nR_of (by decide)) (cc_204 Λ X Y) rfl gX5_different_X5_setsWith rfl rfl rfl hd_X5_setsWith ⟨by decide, by decide⟩ rfl rfl (Nat.le_of_ble_eq_true rfl) dX5_different_14 ?_
        have hw14 := swN_le (yn Y) ns j
        refine v_zle (a := swN (yn Y) ns j) (tgt := 24) hC dX5_different_17 (by decide) rfl (by omega) (fun c17 => ?_) (fun c17 => ?_)
        · skip
          refine v_iconst (v := 0) hC dX5_different_24 (by decide) ?_
          refine v_iadd (x := nI (cnt (fun n => decide (0 < swN (yn Y) ns n)) 0 j)) (y := 0) hC dX5_different_25 ?_
          refine v_topi (y := nI (cnt (fun n => decide (0 < swN (yn Y) ns n)) 0 j + 0)) (nI_add (cnt (fun n => decide (0 < swN (yn Y) ns n)) 0 j) 0) ?_
          refine v_istore_n (lv' := [(1, .int (nI (cnt (fun n => decide (0 < swN (yn Y) ns n)) 0 j + 0))), (0, rf Λ 204), (2, .int (nI j))]) hC dX5_different_26 (by decide) rfl ?_
          refine v_iinc (j := 2) (v := nI (j + 1)) (lv' := [(2, .int (nI (j + 1))), (1, .int (nI (cnt (fun n => decide (0 < swN (yn Y) ns n)) 0 j + 0))), (0, rf Λ 204)]) hC dX5_different_27 rfl (nI_add j 1) (by decide) rfl ?_
          refine v_goto (tgt := 4) hC dX5_different_30 (by decide) ?_
          refine v_sub (lv' := [(0, rf Λ 204), (1, .int (nI (cnt (fun n => decide (0 < swN (yn Y) ns n)) 0 j + 0))), (2, .int (nI (j + 1)))]) [2, 1, 0] rfl ?_
          exact ih4 (j + 1) _ _ (by omega) (congrArg nI (cnt_F (b := fun n => decide (0 < swN (yn Y) ns n)) (a := 0) (n := j) (by rw [Nat.zero_add]; simp [c17])).symm) rfl (by omega)
        · skip
          refine v_iconst (v := 1) hC dX5_different_20 (by decide) ?_
          refine v_goto (tgt := 25) hC dX5_different_21 (by decide) ?_
          refine v_iadd (x := nI (cnt (fun n => decide (0 < swN (yn Y) ns n)) 0 j)) (y := 1) hC dX5_different_25 ?_
          refine v_topi (y := nI (cnt (fun n => decide (0 < swN (yn Y) ns n)) 0 j + 1)) (nI_add (cnt (fun n => decide (0 < swN (yn Y) ns n)) 0 j) 1) ?_
          refine v_istore_n (lv' := [(1, .int (nI (cnt (fun n => decide (0 < swN (yn Y) ns n)) 0 j + 1))), (0, rf Λ 204), (2, .int (nI j))]) hC dX5_different_26 (by decide) rfl ?_
          refine v_iinc (j := 2) (v := nI (j + 1)) (lv' := [(2, .int (nI (j + 1))), (1, .int (nI (cnt (fun n => decide (0 < swN (yn Y) ns n)) 0 j + 1))), (0, rf Λ 204)]) hC dX5_different_27 rfl (nI_add j 1) (by decide) rfl ?_
          refine v_goto (tgt := 4) hC dX5_different_30 (by decide) ?_
          refine v_sub (lv' := [(0, rf Λ 204), (1, .int (nI (cnt (fun n => decide (0 < swN (yn Y) ns n)) 0 j + 1))), (2, .int (nI (j + 1)))]) [2, 1, 0] rfl ?_
          exact ih4 (j + 1) _ _ (by omega) (congrArg nI (cnt_T (b := fun n => decide (0 < swN (yn Y) ns n)) (a := 0) (n := j) (by rw [Nat.zero_add]; simp [c17])).symm) rfl (by omega)
  refine v_sub (lv' := [(0, rf Λ 204), (1, .int 0), (2, .int 0)]) [2, 1, 0] rfl ?_
  exact L4 _ 0 _ _ (by omega) rfl rfl (Nat.lt_succ_self _)

theorem hd_X5_set : yX5_set.cls = RX5 ∧ yX5_set.cls ≠ "java/lang/invoke/MethodHandle" ∧ yX5_set.cls ≠ "java/lang/invoke/VarHandle" ∧ (parseMethodDescriptor yX5_set.desc).map (fun d => d.parameters.length) = some 2 := by decide +kernel
set_option maxHeartbeats 400000 in
set_option maxRecDepth 100000 in
theorem c_X5_set (Λ : Lk) (X : XS) (Y : YS) {s : Int32} {what : Int32} {ns : Nat} (h0 : yn Y 0 = nI ns) (hns : ns ≤ 6) : Con Λ yX5_set wsX5_set { frames := 4, cells := 0, slots := 0, locals := 94 } [rf Λ 204, .int s, .int what] (CC Λ X Y) (some (.int (setM (yn Y) s what))) (CC Λ X Y) := by
  refine con_start (cc := cX5_set) (maxL := 3) (ret := (some .int)) (by decide) rfl (Nat.le_of_ble_eq_true rfl) ?_
  intro κ hC hR
  have hC : Ok Λ { frames := 4, cells := 0, slots := 0, locals := 94 } cX5_set wsX5_set RX5 3 κ := hC
  refine v_args (lv' := [(0, rf Λ 204), (1, .int s), (2, .int what)]) rfl ?_
  refine v_aload_n hC dX5_set_0 0 rfl ?_
  refine v_iload_n hC dX5_set_1 1 rfl ?_
  refine v_callVr (v := .int (bI (isSBm (yn Y) s))) (C2 := CC Λ X Y) (As := [.int s]) (rest := []) hC 1 204 (c_X5_isSet Λ X Y (s := s)) (nR_of (by decide)) (cc_204 Λ X Y) rfl gX5_set_X5_isSet rfl rfl rfl hd_X5_isSet ⟨by decide, by decide⟩ rfl rfl (Nat.le_of_ble_eq_true rfl) dX5_set_2 ?_
  refine v_bne (b := isSBm (yn Y) s) (tgt := 10) hC dX5_set_5 (by decide) (fun c5 => ?_) (fun c5 => ?_)
  · skip
    obtain ⟨k, hk, rfl⟩ := isS_of h0 hns c5
    have hik : ix (nI k) = k := ix_nI (by omega)
    refine v_iload_n hC dX5_set_10 2 rfl ?_
    by_cases c11_0 : what = 0
    · refine v_topi c11_0 ?_
      refine v_tabIn (x := 0) (tgt := 64) hC dX5_set_11 (by decide) (by decide) rfl (by decide) ?_
      refine v_aload_n hC dX5_set_64 0 rfl ?_
      refine v_iload_n hC dX5_set_65 1 rfl ?_
      refine v_sipush (v := 2048) hC dX5_set_66 (by decide) ?_
      refine v_callVr (v := .int (nI (cnt (mb (yn Y) k) 0 2048))) (C2 := CC Λ X Y) (As := [.int (nI k), .int 2048]) (rest := []) hC 2 204 (c_X5_rankOf Λ X Y (s := k) (n := 2048) (by omega) (by omega)) (nR_of (by decide)) (cc_204 Λ X Y) rfl gX5_set_X5_rankOf rfl rfl rfl hd_X5_rankOf ⟨by decide, by decide⟩ rfl rfl (Nat.le_of_ble_eq_true rfl) dX5_set_69 ?_
      exact v_iret hC hR (congrArg (fun z : Int32 => some (Value.int z)) (by simp [setM, setV, c5, hik, c11_0])) rfl dX5_set_72
    by_cases c11_1 : what = 1
    · refine v_topi c11_1 ?_
      refine v_tabIn (x := 1) (tgt := 73) hC dX5_set_11 (by decide) (by decide) rfl (by decide) ?_
      refine v_aload_n hC dX5_set_73 0 rfl ?_
      refine v_iload_n hC dX5_set_74 1 rfl ?_
      refine v_callVr (v := .int (boatsN (yn Y) k 8)) (C2 := CC Λ X Y) (As := [.int (nI k)]) (rest := []) hC 1 204 (c_X5_boatsOf Λ X Y (s := k) (by omega)) (nR_of (by decide)) (cc_204 Λ X Y) rfl gX5_set_X5_boatsOf rfl rfl rfl hd_X5_boatsOf ⟨by decide, by decide⟩ rfl rfl (Nat.le_of_ble_eq_true rfl) dX5_set_75 ?_
      exact v_iret hC hR (congrArg (fun z : Int32 => some (Value.int z)) (by simp [setM, setV, c5, hik, c11_1])) rfl dX5_set_78
    by_cases c11_2 : what = 2
    · refine v_topi c11_2 ?_
      refine v_tabIn (x := 2) (tgt := 79) hC dX5_set_11 (by decide) (by decide) rfl (by decide) ?_
      refine v_aload_n hC dX5_set_79 0 rfl ?_
      refine v_iload_n hC dX5_set_80 1 rfl ?_
      refine v_iload_n hC dX5_set_81 2 rfl ?_
      refine v_callVr (v := .int (sumN (yn Y) k what 8)) (C2 := CC Λ X Y) (As := [.int (nI k), .int what]) (rest := []) hC 2 204 (c_X5_sumOf Λ X Y (s := k) (what := what) (by omega)) (nR_of (by decide)) (cc_204 Λ X Y) rfl gX5_set_X5_sumOf rfl rfl rfl hd_X5_sumOf ⟨by decide, by decide⟩ rfl rfl (Nat.le_of_ble_eq_true rfl) dX5_set_82 ?_
      exact v_iret hC hR (congrArg (fun z : Int32 => some (Value.int z)) (by simp [setM, setV, c5, hik, c11_2])) rfl dX5_set_85
    by_cases c11_3 : what = 3
    · refine v_topi c11_3 ?_
      refine v_tabIn (x := 3) (tgt := 86) hC dX5_set_11 (by decide) (by decide) rfl (by decide) ?_
      refine v_aload_n hC dX5_set_86 0 rfl ?_
      refine v_iload_n hC dX5_set_87 1 rfl ?_
      refine v_iconst (v := 0) hC dX5_set_88 (by decide) ?_
      refine v_callVr (v := .int (ofN (yn Y) k 0)) (C2 := CC Λ X Y) (As := [.int (nI k), .int 0]) (rest := []) hC 2 204 (c_X5_of Λ X Y (s := k) (w := 0) (by omega) (by omega)) (nR_of (by decide)) (cc_204 Λ X Y) rfl gX5_set_X5_of rfl rfl rfl hd_X5_of ⟨by decide, by decide⟩ rfl rfl (Nat.le_of_ble_eq_true rfl) dX5_set_89 ?_
      exact v_iret hC hR (congrArg (fun z : Int32 => some (Value.int z)) (by simp [setM, setV, c5, hik, c11_3])) rfl dX5_set_92
    by_cases c11_4 : what = 4
    · refine v_topi c11_4 ?_
      refine v_tabIn (x := 4) (tgt := 93) hC dX5_set_11 (by decide) (by decide) rfl (by decide) ?_
      refine v_aload_n hC dX5_set_93 0 rfl ?_
      refine v_iload_n hC dX5_set_94 1 rfl ?_
      refine v_iconst (v := 1) hC dX5_set_95 (by decide) ?_
      refine v_callVr (v := .int (ofN (yn Y) k 1)) (C2 := CC Λ X Y) (As := [.int (nI k), .int 1]) (rest := []) hC 2 204 (c_X5_of Λ X Y (s := k) (w := 1) (by omega) (by omega)) (nR_of (by decide)) (cc_204 Λ X Y) rfl gX5_set_X5_of rfl rfl rfl hd_X5_of ⟨by decide, by decide⟩ rfl rfl (Nat.le_of_ble_eq_true rfl) dX5_set_96 ?_
      exact v_iret hC hR (congrArg (fun z : Int32 => some (Value.int z)) (by simp [setM, setV, c5, hik, c11_4])) rfl dX5_set_99
    by_cases c11_5 : what = 5
    · refine v_topi c11_5 ?_
      refine v_tabIn (x := 5) (tgt := 100) hC dX5_set_11 (by decide) (by decide) rfl (by decide) ?_
      refine v_aload_n hC dX5_set_100 0 rfl ?_
      refine v_iload_n hC dX5_set_101 1 rfl ?_
      refine v_iconst (v := 2) hC dX5_set_102 (by decide) ?_
      refine v_callVr (v := .int (ofN (yn Y) k 2)) (C2 := CC Λ X Y) (As := [.int (nI k), .int 2]) (rest := []) hC 2 204 (c_X5_of Λ X Y (s := k) (w := 2) (by omega) (by omega)) (nR_of (by decide)) (cc_204 Λ X Y) rfl gX5_set_X5_of rfl rfl rfl hd_X5_of ⟨by decide, by decide⟩ rfl rfl (Nat.le_of_ble_eq_true rfl) dX5_set_103 ?_
      exact v_iret hC hR (congrArg (fun z : Int32 => some (Value.int z)) (by simp [setM, setV, c5, hik, c11_5])) rfl dX5_set_106
    by_cases c11_6 : what = 6
    · refine v_topi c11_6 ?_
      refine v_tabIn (x := 6) (tgt := 79) hC dX5_set_11 (by decide) (by decide) rfl (by decide) ?_
      refine v_aload_n hC dX5_set_79 0 rfl ?_
      refine v_iload_n hC dX5_set_80 1 rfl ?_
      refine v_iload_n hC dX5_set_81 2 rfl ?_
      refine v_callVr (v := .int (sumN (yn Y) k what 8)) (C2 := CC Λ X Y) (As := [.int (nI k), .int what]) (rest := []) hC 2 204 (c_X5_sumOf Λ X Y (s := k) (what := what) (by omega)) (nR_of (by decide)) (cc_204 Λ X Y) rfl gX5_set_X5_sumOf rfl rfl rfl hd_X5_sumOf ⟨by decide, by decide⟩ rfl rfl (Nat.le_of_ble_eq_true rfl) dX5_set_82 ?_
      exact v_iret hC hR (congrArg (fun z : Int32 => some (Value.int z)) (by simp [setM, setV, c5, hik, c11_6])) rfl dX5_set_85
    by_cases c11_7 : what = 7
    · refine v_topi c11_7 ?_
      refine v_tabIn (x := 7) (tgt := 107) hC dX5_set_11 (by decide) (by decide) rfl (by decide) ?_
      refine v_aload_n hC dX5_set_107 0 rfl ?_
      refine v_iload_n hC dX5_set_108 1 rfl ?_
      refine v_iconst (v := 0) hC dX5_set_109 (by decide) ?_
      refine v_iconst (v := 1) hC dX5_set_110 (by decide) ?_
      refine v_callVr (v := .int (upF (mb (yn Y) k) (2048 - 0) 0)) (C2 := CC Λ X Y) (As := [.int (nI k), .int 0, .int 1]) (rest := []) hC 3 204 (c_X5_firstFrom_u Λ X Y (s := k) (n := 0) (by omega) (by omega)) (nR_of (by decide)) (cc_204 Λ X Y) rfl gX5_set_X5_firstFrom rfl rfl rfl hd_X5_firstFrom ⟨by decide, by decide⟩ rfl rfl (Nat.le_of_ble_eq_true rfl) dX5_set_111 ?_
      exact v_iret hC hR (congrArg (fun z : Int32 => some (Value.int z)) (by simp [setM, setV, c5, hik, c11_7])) rfl dX5_set_114
    by_cases c11_8 : what = 8
    · refine v_topi c11_8 ?_
      refine v_tabIn (x := 8) (tgt := 115) hC dX5_set_11 (by decide) (by decide) rfl (by decide) ?_
      refine v_aload_n hC dX5_set_115 0 rfl ?_
      refine v_iload_n hC dX5_set_116 1 rfl ?_
      refine v_sipush (v := 2047) hC dX5_set_117 (by decide) ?_
      refine v_iconst (v := (-1)) hC dX5_set_120 (by decide) ?_
      refine v_callVr (v := .int (dnF (mb (yn Y) k) (2047 + 1))) (C2 := CC Λ X Y) (As := [.int (nI k), .int 2047, .int (-1)]) (rest := []) hC 3 204 (c_X5_firstFrom_d Λ X Y (s := k) (n := 2047) (by omega) (by omega)) (nR_of (by decide)) (cc_204 Λ X Y) rfl gX5_set_X5_firstFrom rfl rfl rfl hd_X5_firstFrom ⟨by decide, by decide⟩ rfl rfl (Nat.le_of_ble_eq_true rfl) dX5_set_121 ?_
      exact v_iret hC hR (congrArg (fun z : Int32 => some (Value.int z)) (by simp [setM, setV, c5, hik, c11_8])) rfl dX5_set_124
    by_cases c11_9 : what = 9
    · refine v_topi c11_9 ?_
      refine v_tabIn (x := 9) (tgt := 79) hC dX5_set_11 (by decide) (by decide) rfl (by decide) ?_
      refine v_aload_n hC dX5_set_79 0 rfl ?_
      refine v_iload_n hC dX5_set_80 1 rfl ?_
      refine v_iload_n hC dX5_set_81 2 rfl ?_
      refine v_callVr (v := .int (sumN (yn Y) k what 8)) (C2 := CC Λ X Y) (As := [.int (nI k), .int what]) (rest := []) hC 2 204 (c_X5_sumOf Λ X Y (s := k) (what := what) (by omega)) (nR_of (by decide)) (cc_204 Λ X Y) rfl gX5_set_X5_sumOf rfl rfl rfl hd_X5_sumOf ⟨by decide, by decide⟩ rfl rfl (Nat.le_of_ble_eq_true rfl) dX5_set_82 ?_
      exact v_iret hC hR (congrArg (fun z : Int32 => some (Value.int z)) (by simp [setM, setV, c5, hik, c11_9])) rfl dX5_set_85
    refine v_tabOut (tgt := 125) hC dX5_set_11 (by have q0 := i32_ne (n := 0) c11_0 (by decide); have q1 := i32_ne (n := 1) c11_1 (by decide); have q2 := i32_ne (n := 2) c11_2 (by decide); have q3 := i32_ne (n := 3) c11_3 (by decide); have q4 := i32_ne (n := 4) c11_4 (by decide); have q5 := i32_ne (n := 5) c11_5 (by decide); have q6 := i32_ne (n := 6) c11_6 (by decide); have q7 := i32_ne (n := 7) c11_7 (by decide); have q8 := i32_ne (n := 8) c11_8 (by decide); have q9 := i32_ne (n := 9) c11_9 (by decide); omega) (by decide) ?_
    refine v_bipush (v := (-2)) hC dX5_set_125 (by decide) ?_
    exact v_iret hC hR (congrArg (fun z : Int32 => some (Value.int z)) (by simp [setM, setV, c5, hik, c11_0, c11_1, c11_2, c11_3, c11_4, c11_5, c11_6, c11_7, c11_8, c11_9])) rfl dX5_set_127
  · skip
    refine v_iconst (v := (-1)) hC dX5_set_8 (by decide) ?_
    exact v_iret hC hR (congrArg (fun z : Int32 => some (Value.int z)) (by simp [setM, setV, c5])) rfl dX5_set_9
