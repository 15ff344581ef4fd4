theorem in_X4_isSet_X4 : ∀ w ∈ wsX40, w ∈ wsX4_isSet := by decide +kernel
theorem fl_X4_isSet_10 : Cond.fieldLink RX4 10 "BoatSets" "now" "LBoatSets$Harbour;" ∈ wsX4_isSet := by decide +kernel
theorem in_X4_isSet_X1 : ∀ w ∈ wsX10, w ∈ wsX4_isSet := by decide +kernel
theorem fl_X4_isSet_44 : Cond.fieldLink RX4 44 "BoatSets$Harbour" "sets" "I" ∈ wsX4_isSet := by decide +kernel
theorem hd_X4_isSet : yX4_isSet.cls = RX4 ∧ yX4_isSet.cls ≠ "java/lang/invoke/MethodHandle" ∧ yX4_isSet.cls ≠ "java/lang/invoke/VarHandle" ∧ (parseMethodDescriptor yX4_isSet.desc).map (fun d => d.parameters.length) = some 1 := by decide +kernel
set_option maxHeartbeats 400000 in
set_option maxRecDepth 100000 in
theorem c_X4_isSet (Λ : Lk) (X : XS) (Y : YS) {s : Int32} {m : Nat} (hm0 : xh X 0 = nI m) (hm : m ≤ 6) : Con Λ yX4_isSet wsX4_isSet { frames := 0, cells := 0, slots := 0, locals := 0 } [rf Λ 197, .int s] (CC Λ X Y) (some (.int (bI (isC m s)))) (CC Λ X Y) := by
  refine con_start (cc := cX4_isSet) (maxL := 2) (ret := (some .boolean)) (by decide) rfl (Nat.le_of_ble_eq_true rfl) ?_
  intro κ hC hR
  have hC : Ok Λ { frames := 0, cells := 0, slots := 0, locals := 0 } cX4_isSet wsX4_isSet RX4 2 κ := hC
  refine v_args (lv' := [(0, rf Λ 197), (1, .int s)]) rfl ?_
  refine v_iload_n hC dX4_isSet_0 1 rfl ?_
  refine v_if_lt (tgt := 19) hC dX4_isSet_1 (by decide) (fun c1 => ?_) (fun c1 => ?_)
  · have c1' := Int32.not_le.mpr c1
    refine v_iconst (v := 0) hC dX4_isSet_19 (by decide) ?_
    exact v_zret hC hR (congrArg (fun z : Int32 => some (Value.int z)) (by rw [isC_F1 c1]; rfl)) rfl rfl dX4_isSet_20
  · have c1' := Int32.not_lt.mp c1
    refine v_iload_n hC dX4_isSet_4 1 rfl ?_
    refine v_aload_n hC dX4_isSet_5 0 rfl ?_
    refine v_get (T := TX4) (N := 6) (v := rf Λ 185) hC 197 (nR_of (by decide)) (cc_197 Λ X Y) in_X4_isSet_X4 rfl 0 (by decide) fl_X4_isSet_10 rfl dX4_isSet_6 ?_
    refine v_get (T := TX1) (N := 2) (v := .int ((xh X) 0)) hC 185 (rb_h (h := 0) (by decide)) (cc_h Λ X Y (h := 0) (by decide)) in_X4_isSet_X1 rfl 1 (by decide) fl_X4_isSet_44 rfl dX4_isSet_9 ?_
    refine v_topi (y := nI m) hm0 ?_
    refine v_icmp_ge (x := s) (y := nI m) (tgt := 19) hC dX4_isSet_12 (by decide) (fun c12 => ?_) (fun c12 => ?_)
    · have c12' := Int32.not_lt.mpr c12
      refine v_iconst (v := 0) hC dX4_isSet_19 (by decide) ?_
      exact v_zret hC hR (congrArg (fun z : Int32 => some (Value.int z)) (by rw [isC_F2 c12]; rfl)) rfl rfl dX4_isSet_20
    · have c12' := Int32.not_le.mp c12
      refine v_iconst (v := 1) hC dX4_isSet_15 (by decide) ?_
      refine v_goto (tgt := 20) hC dX4_isSet_16 (by decide) ?_
      exact v_zret hC hR (congrArg (fun z : Int32 => some (Value.int z)) (by rw [isC_T c1 c12]; rfl)) rfl rfl dX4_isSet_20
theorem hd_X4_isHow : yX4_isHow.cls ≠ "java/lang/invoke/MethodHandle" ∧ yX4_isHow.cls ≠ "java/lang/invoke/VarHandle" ∧ (parseMethodDescriptor yX4_isHow.desc).map (fun d => d.parameters.length) = some 1 := by decide +kernel
set_option maxHeartbeats 400000 in
set_option maxRecDepth 100000 in
theorem c_X4_isHow (Λ : Lk) (X : XS) (Y : YS) {v : Int32} : Con Λ yX4_isHow wsX4_isHow { frames := 0, cells := 0, slots := 0, locals := 0 } [.int v] (CC Λ X Y) (some (.int (bI (inB v 0 3)))) (CC Λ X Y) := by
  refine con_start (cc := cX4_isHow) (maxL := 1) (ret := (some .boolean)) (by decide) rfl (Nat.le_of_ble_eq_true rfl) ?_
  intro κ hC hR
  have hC : Ok Λ { frames := 0, cells := 0, slots := 0, locals := 0 } cX4_isHow wsX4_isHow RX4 1 κ := hC
  refine v_args (lv' := [(0, .int v)]) rfl ?_
  refine v_iload_n hC dX4_isHow_0 0 rfl ?_
  refine v_if_lt (tgt := 13) hC dX4_isHow_1 (by decide) (fun c1 => ?_) (fun c1 => ?_)
  · have c1' := Int32.not_le.mpr c1
    refine v_iconst (v := 0) hC dX4_isHow_13 (by decide) ?_
    exact v_zret hC hR (congrArg (fun z : Int32 => some (Value.int z)) (by rw [inB_lt c1]; rfl)) rfl rfl dX4_isHow_14
  · have c1' := Int32.not_lt.mp c1
    refine v_iload_n hC dX4_isHow_4 0 rfl ?_
    refine v_iconst (v := 3) hC dX4_isHow_5 (by decide) ?_
    refine v_icmp_gt (x := v) (y := 3) (tgt := 13) hC dX4_isHow_6 (by decide) (fun c6 => ?_) (fun c6 => ?_)
    · have c6' := Int32.not_le.mpr c6
      refine v_iconst (v := 0) hC dX4_isHow_13 (by decide) ?_
      exact v_zret hC hR (congrArg (fun z : Int32 => some (Value.int z)) (by rw [inB_gt c6]; rfl)) rfl rfl dX4_isHow_14
    · have c6' := Int32.not_lt.mp c6
      refine v_iconst (v := 1) hC dX4_isHow_9 (by decide) ?_
      refine v_goto (tgt := 14) hC dX4_isHow_10 (by decide) ?_
      exact v_zret hC hR (congrArg (fun z : Int32 => some (Value.int z)) (by rw [inB_T c1 c6]; rfl)) rfl rfl dX4_isHow_14
theorem in_X4_has_X4 : ∀ w ∈ wsX40, w ∈ wsX4_has := by decide +kernel
theorem fl_X4_has_10 : Cond.fieldLink RX4 10 "BoatSets" "now" "LBoatSets$Harbour;" ∈ wsX4_has := by decide +kernel
theorem in_X4_has_X1 : ∀ w ∈ wsX10, w ∈ wsX4_has := by decide +kernel
theorem fl_X4_has_60 : Cond.fieldLink RX4 60 "BoatSets$Harbour" "fleets" "[LBoatSets$Fleet;" ∈ wsX4_has := by decide +kernel
theorem hd_X4_has : yX4_has.cls = RX4 ∧ yX4_has.cls ≠ "java/lang/invoke/MethodHandle" ∧ yX4_has.cls ≠ "java/lang/invoke/VarHandle" ∧ (parseMethodDescriptor yX4_has.desc).map (fun d => d.parameters.length) = some 2 := by decide +kernel
set_option maxHeartbeats 400000 in
set_option maxRecDepth 100000 in
theorem c_X4_has (Λ : Lk) (X : XS) (Y : YS) {s : Int32} {n : Int32} {m : Nat} (hm0 : xh X 0 = nI m) (hm : m ≤ 6) : Con Λ yX4_has wsX4_has { frames := 2, cells := 0, slots := 0, locals := 41 } [rf Λ 197, .int s, .int n] (CC Λ X Y) (some (.int (hasC X m s n))) (CC Λ X Y) := by
  refine con_start (cc := cX4_has) (maxL := 3) (ret := (some .int)) (by decide) rfl (Nat.le_of_ble_eq_true rfl) ?_
  intro κ hC hR
  have hC : Ok Λ { frames := 2, cells := 0, slots := 0, locals := 41 } cX4_has wsX4_has RX4 3 κ := hC
  refine v_args (lv' := [(0, rf Λ 197), (1, .int s), (2, .int n)]) rfl ?_
  refine v_aload_n hC dX4_has_0 0 rfl ?_
  refine v_iload_n hC dX4_has_1 1 rfl ?_
  refine v_callVr (v := .int (bI (isC m s))) (C2 := CC Λ X Y) (As := [.int s]) (rest := []) hC 1 197 (c_X4_isSet Λ X Y (s := s) hm0 hm) (nR_of (by decide)) (cc_197 Λ X Y) rfl gX4_has_X4_isSet rfl rfl rfl hd_X4_isSet ⟨by decide, by decide⟩ rfl rfl (Nat.le_of_ble_eq_true rfl) dX4_has_2 ?_
  refine v_bne (b := isC m s) (tgt := 10) hC dX4_has_5 (by decide) (fun c5 => ?_) (fun c5 => ?_)
  · skip
    obtain ⟨k, hk, rfl⟩ := isC_of hm c5
    have hik : ix (nI k) = k := ix_nI (by omega)
    refine v_iload_n hC dX4_has_10 2 rfl ?_
    refine v_callSr (v := .int (bI (inB n 0 2047))) (C2 := CC Λ X Y) (As := [.int n]) (rest := []) hC 1 (c_X4_isNumber Λ X Y (v := n)) gX4_has_X4_isNumber rfl rfl rfl hd_X4_isNumber ⟨by decide, by decide⟩ rfl rfl (Nat.le_of_ble_eq_true rfl) dX4_has_11 ?_
    refine v_bne (b := inB n 0 2047) (tgt := 20) hC dX4_has_14 (by decide) (fun c14 => ?_) (fun c14 => ?_)
    · skip
      obtain ⟨q, hq, rfl⟩ := isN_of c14
      have hiq : ix (nI q) = q := ix_nI (by omega)
      refine v_aload_n hC dX4_has_20 0 rfl ?_
      refine v_get (T := TX4) (N := 6) (v := rf Λ 185) hC 197 (nR_of (by decide)) (cc_197 Λ X Y) in_X4_has_X4 rfl 0 (by decide) fl_X4_has_10 rfl dX4_has_21 ?_
      refine v_get (T := TX1) (N := 2) (v := rf Λ (186 + 2 * 0)) hC 185 (rb_h (h := 0) (by decide)) (cc_h Λ X Y (h := 0) (by decide)) in_X4_has_X1 rfl 0 (by decide) fl_X4_has_60 rfl dX4_has_24 ?_
      refine v_iload_n hC dX4_has_27 1 rfl ?_
      refine v_aald (Cn := "BoatSets$Fleet") (n := 6) (r2 := 5 * k) hC (186 + 2 * 0) (rb_hr (h := 0) (by decide)) 3 rfl (cc_hr Λ X Y (h := 0) (by decide)) k rfl (by omega) (by decide) (by simp) dX4_has_28 ?_
      refine v_iload_n hC dX4_has_29 2 rfl ?_
      refine v_callVr (v := .int (bI (fbit (fw (X.1 k)) q))) (C2 := CC Λ X Y) (As := [.int (nI q)]) (rest := []) hC 1 (5 * k) (c_X0_holds Λ X Y (i := k) (f := (X.1 k)) (by omega) rfl (n := q) (by omega)) (rb_f0 (by omega)) (cc_f0 Λ Y (by omega) rfl) rfl gX4_has_X0_holds rfl rfl rfl hd_X0_holds ⟨by decide, by decide⟩ rfl rfl (Nat.le_of_ble_eq_true rfl) dX4_has_30 ?_
      refine v_beq (b := fbit (fw (X.1 k)) q) (tgt := 40) hC dX4_has_33 (by decide) (fun c33 => ?_) (fun c33 => ?_)
      · skip
        refine v_iconst (v := 0) hC dX4_has_40 (by decide) ?_
        exact v_iret hC hR (congrArg (fun z : Int32 => some (Value.int z)) (by simp [hasC, bI, c5, hik, c14, hiq, c33])) rfl dX4_has_41
      · skip
        refine v_iconst (v := 1) hC dX4_has_36 (by decide) ?_
        refine v_goto (tgt := 41) hC dX4_has_37 (by decide) ?_
        exact v_iret hC hR (congrArg (fun z : Int32 => some (Value.int z)) (by simp [hasC, bI, c5, hik, c14, hiq, c33])) rfl dX4_has_41
    · skip
      refine v_bipush (v := (-2)) hC dX4_has_17 (by decide) ?_
      exact v_iret hC hR (congrArg (fun z : Int32 => some (Value.int z)) (by simp [hasC, bI, c5, hik, c14])) rfl dX4_has_19
  · skip
    refine v_iconst (v := (-1)) hC dX4_has_8 (by decide) ?_
    exact v_iret hC hR (congrArg (fun z : Int32 => some (Value.int z)) (by simp [hasC, bI, c5])) rfl dX4_has_9
theorem in_X4_rank_X4 : ∀ w ∈ wsX40, w ∈ wsX4_rank := by decide +kernel
theorem fl_X4_rank_10 : Cond.fieldLink RX4 10 "BoatSets" "now" "LBoatSets$Harbour;" ∈ wsX4_rank := by decide +kernel
theorem in_X4_rank_X1 : ∀ w ∈ wsX10, w ∈ wsX4_rank := by decide +kernel
theorem fl_X4_rank_60 : Cond.fieldLink RX4 60 "BoatSets$Harbour" "fleets" "[LBoatSets$Fleet;" ∈ wsX4_rank := by decide +kernel
theorem hd_X4_rank : yX4_rank.cls = RX4 ∧ yX4_rank.cls ≠ "java/lang/invoke/MethodHandle" ∧ yX4_rank.cls ≠ "java/lang/invoke/VarHandle" ∧ (parseMethodDescriptor yX4_rank.desc).map (fun d => d.parameters.length) = some 2 := by decide +kernel
set_option maxHeartbeats 400000 in
set_option maxRecDepth 100000 in
theorem c_X4_rank (Λ : Lk) (X : XS) (Y : YS) {s : Int32} {n : Int32} {m : Nat} (hm0 : xh X 0 = nI m) (hm : m ≤ 6) : Con Λ yX4_rank wsX4_rank { frames := 2, cells := 0, slots := 0, locals := 46 } [rf Λ 197, .int s, .int n] (CC Λ X Y) (some (.int (rankC X m s n))) (CC Λ X Y) := by
  refine con_start (cc := cX4_rank) (maxL := 3) (ret := (some .int)) (by decide) rfl (Nat.le_of_ble_eq_true rfl) ?_
  intro κ hC hR
  have hC : Ok Λ { frames := 2, cells := 0, slots := 0, locals := 46 } cX4_rank wsX4_rank RX4 3 κ := hC
  refine v_args (lv' := [(0, rf Λ 197), (1, .int s), (2, .int n)]) rfl ?_
  refine v_aload_n hC dX4_rank_0 0 rfl ?_
  refine v_iload_n hC dX4_rank_1 1 rfl ?_
  refine v_callVr (v := .int (bI (isC m s))) (C2 := CC Λ X Y) (As := [.int s]) (rest := []) hC 1 197 (c_X4_isSet Λ X Y (s := s) hm0 hm) (nR_of (by decide)) (cc_197 Λ X Y) rfl gX4_rank_X4_isSet rfl rfl rfl hd_X4_isSet ⟨by decide, by decide⟩ rfl rfl (Nat.le_of_ble_eq_true rfl) dX4_rank_2 ?_
  refine v_bne (b := isC m s) (tgt := 10) hC dX4_rank_5 (by decide) (fun c5 => ?_) (fun c5 => ?_)
  · skip
    obtain ⟨k, hk, rfl⟩ := isC_of hm c5
    have hik : ix (nI k) = k := ix_nI (by omega)
    refine v_iload_n hC dX4_rank_10 2 rfl ?_
    refine v_callSr (v := .int (bI (inB n 0 2047))) (C2 := CC Λ X Y) (As := [.int n]) (rest := []) hC 1 (c_X4_isNumber Λ X Y (v := n)) gX4_rank_X4_isNumber rfl rfl rfl hd_X4_isNumber ⟨by decide, by decide⟩ rfl rfl (Nat.le_of_ble_eq_true rfl) dX4_rank_11 ?_
    refine v_bne (b := inB n 0 2047) (tgt := 20) hC dX4_rank_14 (by decide) (fun c14 => ?_) (fun c14 => ?_)
    · skip
      obtain ⟨q, hq, rfl⟩ := isN_of c14
      have hiq : ix (nI q) = q := ix_nI (by omega)
      refine v_aload_n hC dX4_rank_20 0 rfl ?_
      refine v_get (T := TX4) (N := 6) (v := rf Λ 185) hC 197 (nR_of (by decide)) (cc_197 Λ X Y) in_X4_rank_X4 rfl 0 (by decide) fl_X4_rank_10 rfl dX4_rank_21 ?_
      refine v_get (T := TX1) (N := 2) (v := rf Λ (186 + 2 * 0)) hC 185 (rb_h (h := 0) (by decide)) (cc_h Λ X Y (h := 0) (by decide)) in_X4_rank_X1 rfl 0 (by decide) fl_X4_rank_60 rfl dX4_rank_24 ?_
      refine v_iload_n hC dX4_rank_27 1 rfl ?_
      refine v_aald (Cn := "BoatSets$Fleet") (n := 6) (r2 := 5 * k) hC (186 + 2 * 0) (rb_hr (h := 0) (by decide)) 3 rfl (cc_hr Λ X Y (h := 0) (by decide)) k rfl (by omega) (by decide) (by simp) dX4_rank_28 ?_
      refine v_iload_n hC dX4_rank_29 2 rfl ?_
      refine v_callVr (v := .int (nI (rkC (fw (X.1 k)) q))) (C2 := CC Λ X Y) (As := [.int (nI q)]) (rest := []) hC 1 (5 * k) (c_X0_numbersBelow Λ X Y (i := k) (f := (X.1 k)) (by omega) rfl (n := q) (by omega)) (rb_f0 (by omega)) (cc_f0 Λ Y (by omega) rfl) rfl gX4_rank_X0_numbersBelow rfl rfl rfl hd_X0_numbersBelow ⟨by decide, by decide⟩ rfl rfl (Nat.le_of_ble_eq_true rfl) dX4_rank_30 ?_
      have hk30 := rkC_le (w := fw (X.1 k)) (n := q) (by omega)
      exact v_iret hC hR (congrArg (fun z : Int32 => some (Value.int z)) (by simp [rankC, bI, c5, hik, c14, hiq])) rfl dX4_rank_33
    · skip
      refine v_bipush (v := (-2)) hC dX4_rank_17 (by decide) ?_
      exact v_iret hC hR (congrArg (fun z : Int32 => some (Value.int z)) (by simp [rankC, bI, c5, hik, c14])) rfl dX4_rank_19
  · skip
    refine v_iconst (v := (-1)) hC dX4_rank_8 (by decide) ?_
    exact v_iret hC hR (congrArg (fun z : Int32 => some (Value.int z)) (by simp [rankC, bI, c5])) rfl dX4_rank_9
theorem in_X4_next_X4 : ∀ w ∈ wsX40, w ∈ wsX4_next := by decide +kernel
theorem fl_X4_next_10 : Cond.fieldLink RX4 10 "BoatSets" "now" "LBoatSets$Harbour;" ∈ wsX4_next := by decide +kernel
theorem in_X4_next_X1 : ∀ w ∈ wsX10, w ∈ wsX4_next := by decide +kernel
theorem fl_X4_next_60 : Cond.fieldLink RX4 60 "BoatSets$Harbour" "fleets" "[LBoatSets$Fleet;" ∈ wsX4_next := by decide +kernel
theorem hd_X4_next : yX4_next.cls = RX4 ∧ yX4_next.cls ≠ "java/lang/invoke/MethodHandle" ∧ yX4_next.cls ≠ "java/lang/invoke/VarHandle" ∧ (parseMethodDescriptor yX4_next.desc).map (fun d => d.parameters.length) = some 2 := by decide +kernel
set_option maxHeartbeats 400000 in
set_option maxRecDepth 100000 in
theorem c_X4_next (Λ : Lk) (X : XS) (Y : YS) {s : Int32} {n : Int32} {m : Nat} (hm0 : xh X 0 = nI m) (hm : m ≤ 6) : Con Λ yX4_next wsX4_next { frames := 4, cells := 0, slots := 0, locals := 91 } [rf Λ 197, .int s, .int n] (CC Λ X Y) (some (.int (nextC X m s n))) (CC Λ X Y) := by
  refine con_start (cc := cX4_next) (maxL := 3) (ret := (some .int)) (by decide) rfl (Nat.le_of_ble_eq_true rfl) ?_
  intro κ hC hR
  have hC : Ok Λ { frames := 4, cells := 0, slots := 0, locals := 91 } cX4_next wsX4_next RX4 3 κ := hC
  refine v_args (lv' := [(0, rf Λ 197), (1, .int s), (2, .int n)]) rfl ?_
  refine v_aload_n hC dX4_next_0 0 rfl ?_
  refine v_iload_n hC dX4_next_1 1 rfl ?_
  refine v_callVr (v := .int (bI (isC m s))) (C2 := CC Λ X Y) (As := [.int s]) (rest := []) hC 1 197 (c_X4_isSet Λ X Y (s := s) hm0 hm) (nR_of (by decide)) (cc_197 Λ X Y) rfl gX4_next_X4_isSet rfl rfl rfl hd_X4_isSet ⟨by decide, by decide⟩ rfl rfl (Nat.le_of_ble_eq_true rfl) dX4_next_2 ?_
  refine v_bne (b := isC m s) (tgt := 10) hC dX4_next_5 (by decide) (fun c5 => ?_) (fun c5 => ?_)
  · skip
    obtain ⟨k, hk, rfl⟩ := isC_of hm c5
    have hik : ix (nI k) = k := ix_nI (by omega)
    refine v_iload_n hC dX4_next_10 2 rfl ?_
    refine v_callSr (v := .int (bI (inB n 0 2047))) (C2 := CC Λ X Y) (As := [.int n]) (rest := []) hC 1 (c_X4_isNumber Λ X Y (v := n)) gX4_next_X4_isNumber rfl rfl rfl hd_X4_isNumber ⟨by decide, by decide⟩ rfl rfl (Nat.le_of_ble_eq_true rfl) dX4_next_11 ?_
    refine v_bne (b := inB n 0 2047) (tgt := 20) hC dX4_next_14 (by decide) (fun c14 => ?_) (fun c14 => ?_)
    · skip
      obtain ⟨q, hq, rfl⟩ := isN_of c14
      have hiq : ix (nI q) = q := ix_nI (by omega)
      refine v_aload_n hC dX4_next_20 0 rfl ?_
      refine v_get (T := TX4) (N := 6) (v := rf Λ 185) hC 197 (nR_of (by decide)) (cc_197 Λ X Y) in_X4_next_X4 rfl 0 (by decide) fl_X4_next_10 rfl dX4_next_21 ?_
      refine v_get (T := TX1) (N := 2) (v := rf Λ (186 + 2 * 0)) hC 185 (rb_h (h := 0) (by decide)) (cc_h Λ X Y (h := 0) (by decide)) in_X4_next_X1 rfl 0 (by decide) fl_X4_next_60 rfl dX4_next_24 ?_
      refine v_iload_n hC dX4_next_27 1 rfl ?_
      refine v_aald (Cn := "BoatSets$Fleet") (n := 6) (r2 := 5 * k) hC (186 + 2 * 0) (rb_hr (h := 0) (by decide)) 3 rfl (cc_hr Λ X Y (h := 0) (by decide)) k rfl (by omega) (by decide) (by simp) dX4_next_28 ?_
      refine v_iload_n hC dX4_next_29 2 rfl ?_
      refine v_callVr (v := .int (atI (fw (X.1 k)) (nI (rkC (fw (X.1 k)) q)))) (C2 := CC Λ X Y) (As := [.int (nI q)]) (rest := []) hC 1 (5 * k) (c_X0_firstFrom Λ X Y (i := k) (f := (X.1 k)) (by omega) rfl (n := q) (by omega)) (rb_f0 (by omega)) (cc_f0 Λ Y (by omega) rfl) rfl gX4_next_X0_firstFrom rfl rfl rfl hd_X0_firstFrom ⟨by decide, by decide⟩ rfl rfl (Nat.le_of_ble_eq_true rfl) dX4_next_30 ?_
      exact v_iret hC hR (congrArg (fun z : Int32 => some (Value.int z)) (by simp [nextC, bI, c5, hik, c14, hiq])) rfl dX4_next_33
    · skip
      refine v_bipush (v := (-2)) hC dX4_next_17 (by decide) ?_
      exact v_iret hC hR (congrArg (fun z : Int32 => some (Value.int z)) (by simp [nextC, bI, c5, hik, c14])) rfl dX4_next_19
  · skip
    refine v_iconst (v := (-1)) hC dX4_next_8 (by decide) ?_
    exact v_iret hC hR (congrArg (fun z : Int32 => some (Value.int z)) (by simp [nextC, bI, c5])) rfl dX4_next_9
theorem in_X4_nearest_X4 : ∀ w ∈ wsX40, w ∈ wsX4_nearest := by decide +kernel
theorem fl_X4_nearest_10 : Cond.fieldLink RX4 10 "BoatSets" "now" "LBoatSets$Harbour;" ∈ wsX4_nearest := by decide +kernel
theorem in_X4_nearest_X1 : ∀ w ∈ wsX10, w ∈ wsX4_nearest := by decide +kernel
theorem fl_X4_nearest_60 : Cond.fieldLink RX4 60 "BoatSets$Harbour" "fleets" "[LBoatSets$Fleet;" ∈ wsX4_nearest := by decide +kernel
theorem hd_X4_nearest : yX4_nearest.cls = RX4 ∧ yX4_nearest.cls ≠ "java/lang/invoke/MethodHandle" ∧ yX4_nearest.cls ≠ "java/lang/invoke/VarHandle" ∧ (parseMethodDescriptor yX4_nearest.desc).map (fun d => d.parameters.length) = some 2 := by decide +kernel
set_option maxHeartbeats 400000 in
set_option maxRecDepth 100000 in
theorem c_X4_nearest (Λ : Lk) (X : XS) (Y : YS) {s : Int32} {n : Int32} {m : Nat} (hm0 : xh X 0 = nI m) (hm : m ≤ 6) : Con Λ yX4_nearest wsX4_nearest { frames := 4, cells := 0, slots := 0, locals := 91 } [rf Λ 197, .int s, .int n] (CC Λ X Y) (some (.int (nearC X m s n))) (CC Λ X Y) := by
  refine con_start (cc := cX4_nearest) (maxL := 6) (ret := (some .int)) (by decide) rfl (Nat.le_of_ble_eq_true rfl) ?_
  intro κ hC hR
  have hC : Ok Λ { frames := 4, cells := 0, slots := 0, locals := 91 } cX4_nearest wsX4_nearest RX4 6 κ := hC
  refine v_args (lv' := [(0, rf Λ 197), (1, .int s), (2, .int n)]) rfl ?_
  refine v_aload_n hC dX4_nearest_0 0 rfl ?_
  refine v_iload_n hC dX4_nearest_1 1 rfl ?_
  refine v_callVr (v := .int (bI (isC m s))) (C2 := CC Λ X Y) (As := [.int s]) (rest := []) hC 1 197 (c_X4_isSet Λ X Y (s := s) hm0 hm) (nR_of (by decide)) (cc_197 Λ X Y) rfl gX4_nearest_X4_isSet rfl rfl rfl hd_X4_isSet ⟨by decide, by decide⟩ rfl rfl (Nat.le_of_ble_eq_true rfl) dX4_nearest_2 ?_
  refine v_bne (b := isC m s) (tgt := 10) hC dX4_nearest_5 (by decide) (fun c5 => ?_) (fun c5 => ?_)
  · skip
    obtain ⟨k, hk, rfl⟩ := isC_of hm c5
    have hik : ix (nI k) = k := ix_nI (by omega)
    refine v_iload_n hC dX4_nearest_10 2 rfl ?_
    refine v_callSr (v := .int (bI (inB n 0 2047))) (C2 := CC Λ X Y) (As := [.int n]) (rest := []) hC 1 (c_X4_isNumber Λ X Y (v := n)) gX4_nearest_X4_isNumber rfl rfl rfl hd_X4_isNumber ⟨by decide, by decide⟩ rfl rfl (Nat.le_of_ble_eq_true rfl) dX4_nearest_11 ?_
    refine v_bne (b := inB n 0 2047) (tgt := 20) hC dX4_nearest_14 (by decide) (fun c14 => ?_) (fun c14 => ?_)
    · skip
      obtain ⟨q, hq, rfl⟩ := isN_of c14
      have hiq : ix (nI q) = q := ix_nI (by omega)
      refine v_aload_n hC dX4_nearest_20 0 rfl ?_
      refine v_get (T := TX4) (N := 6) (v := rf Λ 185) hC 197 (nR_of (by decide)) (cc_197 Λ X Y) in_X4_nearest_X4 rfl 0 (by decide) fl_X4_nearest_10 rfl dX4_nearest_21 ?_
      refine v_get (T := TX1) (N := 2) (v := rf Λ (186 + 2 * 0)) hC 185 (rb_h (h := 0) (by decide)) (cc_h Λ X Y (h := 0) (by decide)) in_X4_nearest_X1 rfl 0 (by decide) fl_X4_nearest_60 rfl dX4_nearest_24 ?_
      refine v_iload_n hC dX4_nearest_27 1 rfl ?_
      refine v_aald (Cn := "BoatSets$Fleet") (n := 6) (r2 := 5 * k) hC (186 + 2 * 0) (rb_hr (h := 0) (by decide)) 3 rfl (cc_hr Λ X Y (h := 0) (by decide)) k rfl (by omega) (by decide) (by simp) dX4_nearest_28 ?_
      refine v_astore_n (lv' := [(3, rf Λ (5 * k)), (0, rf Λ 197), (1, .int (nI k)), (2, .int (nI q))]) hC dX4_nearest_29 (by decide) rfl ?_
      refine v_aload_n hC dX4_nearest_30 0 rfl ?_
      refine v_aload_n hC dX4_nearest_31 0 rfl ?_
      refine v_iload_n hC dX4_nearest_32 3 rfl ?_
      refine v_callVr (v := .int (nI (rkC (fw (X.1 k)) q))) (C2 := CC Λ X Y) (As := [.int (nI q)]) (rest := [rf Λ (5 * k)]) hC 1 (5 * k) (c_X0_numbersBelow Λ X Y (i := k) (f := (X.1 k)) (by omega) rfl (n := q) (by omega)) (rb_f0 (by omega)) (cc_f0 Λ Y (by omega) rfl) rfl gX4_nearest_X0_numbersBelow rfl rfl rfl hd_X0_numbersBelow ⟨by decide, by decide⟩ rfl rfl (Nat.le_of_ble_eq_true rfl) dX4_nearest_33 ?_
      have hk33 := rkC_le (w := fw (X.1 k)) (n := q) (by omega)
      refine v_iconst (v := 1) hC dX4_nearest_36 (by decide) ?_
      refine v_isub (x := nI (rkC (fw (X.1 k)) q)) (y := 1) hC dX4_nearest_37 ?_
      refine v_callVr (v := .int (atI (fw (X.1 k)) ((nI (rkC (fw (X.1 k)) q)) - 1))) (C2 := CC Λ X Y) (As := [.int ((nI (rkC (fw (X.1 k)) q)) - 1)]) (rest := []) hC 1 (5 * k) (c_X0_numberAt Λ X Y (i := k) (f := (X.1 k)) (by omega) rfl (p := (nI (rkC (fw (X.1 k)) q)) - 1)) (rb_f0 (by omega)) (cc_f0 Λ Y (by omega) rfl) rfl gX4_nearest_X0_numberAt rfl rfl rfl hd_X0_numberAt ⟨by decide, by decide⟩ rfl rfl (Nat.le_of_ble_eq_true rfl) dX4_nearest_38 ?_
      refine v_istore (lv' := [(4, .int (atI (fw (X.1 k)) ((nI (rkC (fw (X.1 k)) q)) - 1))), (3, rf Λ (5 * k)), (0, rf Λ 197), (1, .int (nI k)), (2, .int (nI q))]) hC dX4_nearest_41 (by decide) rfl ?_
      refine v_aload_n hC dX4_nearest_43 1 rfl ?_
      refine v_iload_n hC dX4_nearest_44 4 rfl ?_
      refine v_callVr (v := .int (atI (fw (X.1 k)) (nI (rkC (fw (X.1 k)) q)))) (C2 := CC Λ X Y) (As := [.int (nI q)]) (rest := []) hC 1 (5 * k) (c_X0_firstFrom Λ X Y (i := k) (f := (X.1 k)) (by omega) rfl (n := q) (by omega)) (rb_f0 (by omega)) (cc_f0 Λ Y (by omega) rfl) rfl gX4_nearest_X0_firstFrom rfl rfl rfl hd_X0_firstFrom ⟨by decide, by decide⟩ rfl rfl (Nat.le_of_ble_eq_true rfl) dX4_nearest_45 ?_
      refine v_istore (lv' := [(5, .int (atI (fw (X.1 k)) (nI (rkC (fw (X.1 k)) q)))), (4, .int (atI (fw (X.1 k)) ((nI (rkC (fw (X.1 k)) q)) - 1))), (3, rf Λ (5 * k)), (0, rf Λ 197), (1, .int (nI k)), (2, .int (nI q))]) hC dX4_nearest_48 (by decide) rfl ?_
      refine v_iload hC dX4_nearest_50 1 rfl ?_
      refine v_bipush (v := (-5)) hC dX4_nearest_52 (by decide) ?_
      refine v_icmp_ne (x := atI (fw (X.1 k)) ((nI (rkC (fw (X.1 k)) q)) - 1)) (y := (-5)) (tgt := 60) hC dX4_nearest_54 (by decide) (fun c54 => ?_) (fun c54 => ?_)
      · skip
        refine v_iload hC dX4_nearest_60 0 rfl ?_
        refine v_bipush (v := (-5)) hC dX4_nearest_62 (by decide) ?_
        refine v_icmp_ne (x := atI (fw (X.1 k)) (nI (rkC (fw (X.1 k)) q))) (y := (-5)) (tgt := 70) hC dX4_nearest_64 (by decide) (fun c64 => ?_) (fun c64 => ?_)
        · skip
          refine v_iload hC dX4_nearest_70 0 rfl ?_
          refine v_iload_n hC dX4_nearest_72 5 rfl ?_
          refine v_isub (x := atI (fw (X.1 k)) (nI (rkC (fw (X.1 k)) q))) (y := nI q) hC dX4_nearest_73 ?_
          refine v_iload_n hC dX4_nearest_74 5 rfl ?_
          refine v_iload hC dX4_nearest_75 1 rfl ?_
          refine v_isub (x := nI q) (y := atI (fw (X.1 k)) ((nI (rkC (fw (X.1 k)) q)) - 1)) hC dX4_nearest_77 ?_
          refine v_icmp_ge (x := (atI (fw (X.1 k)) (nI (rkC (fw (X.1 k)) q))) - (nI q)) (y := (nI q) - (atI (fw (X.1 k)) ((nI (rkC (fw (X.1 k)) q)) - 1))) (tgt := 86) hC dX4_nearest_78 (by decide) (fun c78 => ?_) (fun c78 => ?_)
          · have c78' := Int32.not_lt.mpr c78
            refine v_iload hC dX4_nearest_86 1 rfl ?_
            exact v_iret hC hR (congrArg (fun z : Int32 => some (Value.int z)) (by simp [nearC, bI, c5, hik, c14, hiq, c54, c64, c78, c78'])) rfl dX4_nearest_88
          · have c78' := Int32.not_le.mp c78
            refine v_iload hC dX4_nearest_81 0 rfl ?_
            refine v_goto (tgt := 88) hC dX4_nearest_83 (by decide) ?_
            exact v_iret hC hR (congrArg (fun z : Int32 => some (Value.int z)) (by simp [nearC, bI, c5, hik, c14, hiq, c54, c64, c78, c78'])) rfl dX4_nearest_88
        · skip
          refine v_iload hC dX4_nearest_67 1 rfl ?_
          exact v_iret hC hR (congrArg (fun z : Int32 => some (Value.int z)) (by simp [nearC, bI, c5, hik, c14, hiq, c54, c64])) rfl dX4_nearest_69
      · skip
        refine v_iload hC dX4_nearest_57 0 rfl ?_
        exact v_iret hC hR (congrArg (fun z : Int32 => some (Value.int z)) (by simp [nearC, bI, c5, hik, c14, hiq, c54])) rfl dX4_nearest_59
    · skip
      refine v_bipush (v := (-2)) hC dX4_nearest_17 (by decide) ?_
      exact v_iret hC hR (congrArg (fun z : Int32 => some (Value.int z)) (by simp [nearC, bI, c5, hik, c14])) rfl dX4_nearest_19
  · skip
    refine v_iconst (v := (-1)) hC dX4_nearest_8 (by decide) ?_
    exact v_iret hC hR (congrArg (fun z : Int32 => some (Value.int z)) (by simp [nearC, bI, c5])) rfl dX4_nearest_9
theorem in_X4_at_X4 : ∀ w ∈ wsX40, w ∈ wsX4_at := by decide +kernel
theorem fl_X4_at_10 : Cond.fieldLink RX4 10 "BoatSets" "now" "LBoatSets$Harbour;" ∈ wsX4_at := by decide +kernel
theorem in_X4_at_X1 : ∀ w ∈ wsX10, w ∈ wsX4_at := by decide +kernel
theorem fl_X4_at_60 : Cond.fieldLink RX4 60 "BoatSets$Harbour" "fleets" "[LBoatSets$Fleet;" ∈ wsX4_at := by decide +kernel
theorem hd_X4_at : yX4_at.cls = RX4 ∧ yX4_at.cls ≠ "java/lang/invoke/MethodHandle" ∧ yX4_at.cls ≠ "java/lang/invoke/VarHandle" ∧ (parseMethodDescriptor yX4_at.desc).map (fun d => d.parameters.length) = some 2 := by decide +kernel
set_option maxHeartbeats 400000 in
set_option maxRecDepth 100000 in
theorem c_X4_at (Λ : Lk) (X : XS) (Y : YS) {s : Int32} {n : Int32} {m : Nat} (hm0 : xh X 0 = nI m) (hm : m ≤ 6) : Con Λ yX4_at wsX4_at { frames := 3, cells := 0, slots := 0, locals := 70 } [rf Λ 197, .int s, .int n] (CC Λ X Y) (some (.int (placeC X m s n))) (CC Λ X Y) := by
  refine con_start (cc := cX4_at) (maxL := 3) (ret := (some .int)) (by decide) rfl (Nat.le_of_ble_eq_true rfl) ?_
  intro κ hC hR
  have hC : Ok Λ { frames := 3, cells := 0, slots := 0, locals := 70 } cX4_at wsX4_at RX4 3 κ := hC
  refine v_args (lv' := [(0, rf Λ 197), (1, .int s), (2, .int n)]) rfl ?_
  refine v_aload_n hC dX4_at_0 0 rfl ?_
  refine v_iload_n hC dX4_at_1 1 rfl ?_
  refine v_callVr (v := .int (bI (isC m s))) (C2 := CC Λ X Y) (As := [.int s]) (rest := []) hC 1 197 (c_X4_isSet Λ X Y (s := s) hm0 hm) (nR_of (by decide)) (cc_197 Λ X Y) rfl gX4_at_X4_isSet rfl rfl rfl hd_X4_isSet ⟨by decide, by decide⟩ rfl rfl (Nat.le_of_ble_eq_true rfl) dX4_at_2 ?_
  refine v_bne (b := isC m s) (tgt := 10) hC dX4_at_5 (by decide) (fun c5 => ?_) (fun c5 => ?_)
  · skip
    obtain ⟨k, hk, rfl⟩ := isC_of hm c5
    have hik : ix (nI k) = k := ix_nI (by omega)
    refine v_iload_n hC dX4_at_10 2 rfl ?_
    refine v_if_ge (tgt := 17) hC dX4_at_11 (by decide) (fun c11 => ?_) (fun c11 => ?_)
    · have c11' := Int32.not_lt.mpr c11
      refine v_aload_n hC dX4_at_17 0 rfl ?_
      refine v_get (T := TX4) (N := 6) (v := rf Λ 185) hC 197 (nR_of (by decide)) (cc_197 Λ X Y) in_X4_at_X4 rfl 0 (by decide) fl_X4_at_10 rfl dX4_at_18 ?_
      refine v_get (T := TX1) (N := 2) (v := rf Λ (186 + 2 * 0)) hC 185 (rb_h (h := 0) (by decide)) (cc_h Λ X Y (h := 0) (by decide)) in_X4_at_X1 rfl 0 (by decide) fl_X4_at_60 rfl dX4_at_21 ?_
      refine v_iload_n hC dX4_at_24 1 rfl ?_
      refine v_aald (Cn := "BoatSets$Fleet") (n := 6) (r2 := 5 * k) hC (186 + 2 * 0) (rb_hr (h := 0) (by decide)) 3 rfl (cc_hr Λ X Y (h := 0) (by decide)) k rfl (by omega) (by decide) (by simp) dX4_at_25 ?_
      refine v_iload_n hC dX4_at_26 2 rfl ?_
      refine v_callVr (v := .int (atI (fw (X.1 k)) n)) (C2 := CC Λ X Y) (As := [.int n]) (rest := []) hC 1 (5 * k) (c_X0_numberAt Λ X Y (i := k) (f := (X.1 k)) (by omega) rfl (p := n)) (rb_f0 (by omega)) (cc_f0 Λ Y (by omega) rfl) rfl gX4_at_X0_numberAt rfl rfl rfl hd_X0_numberAt ⟨by decide, by decide⟩ rfl rfl (Nat.le_of_ble_eq_true rfl) dX4_at_27 ?_
      exact v_iret hC hR (congrArg (fun z : Int32 => some (Value.int z)) (by simp [placeC, c5, hik, c11, c11'])) rfl dX4_at_30
    · have c11' := Int32.not_le.mp c11
      refine v_bipush (v := (-2)) hC dX4_at_14 (by decide) ?_
      exact v_iret hC hR (congrArg (fun z : Int32 => some (Value.int z)) (by simp [placeC, c5, hik, c11, c11'])) rfl dX4_at_16
  · skip
    refine v_iconst (v := (-1)) hC dX4_at_8 (by decide) ?_
    exact v_iret hC hR (congrArg (fun z : Int32 => some (Value.int z)) (by simp [placeC, c5])) rfl dX4_at_9
theorem in_X4_gap_X4 : ∀ w ∈ wsX40, w ∈ wsX4_gap := by decide +kernel
theorem fl_X4_gap_10 : Cond.fieldLink RX4 10 "BoatSets" "now" "LBoatSets$Harbour;" ∈ wsX4_gap := by decide +kernel
theorem in_X4_gap_X1 : ∀ w ∈ wsX10, w ∈ wsX4_gap := by decide +kernel
theorem fl_X4_gap_60 : Cond.fieldLink RX4 60 "BoatSets$Harbour" "fleets" "[LBoatSets$Fleet;" ∈ wsX4_gap := by decide +kernel
theorem hd_X4_gap : yX4_gap.cls = RX4 ∧ yX4_gap.cls ≠ "java/lang/invoke/MethodHandle" ∧ yX4_gap.cls ≠ "java/lang/invoke/VarHandle" ∧ (parseMethodDescriptor yX4_gap.desc).map (fun d => d.parameters.length) = some 2 := by decide +kernel
set_option maxHeartbeats 400000 in
set_option maxRecDepth 100000 in
theorem c_X4_gap (Λ : Lk) (X : XS) (Y : YS) {s : Int32} {len : Int32} {m : Nat} (hm0 : xh X 0 = nI m) (hm : m ≤ 6) : Con Λ yX4_gap wsX4_gap { frames := 3, cells := 0, slots := 0, locals := 64 } [rf Λ 197, .int s, .int len] (CC Λ X Y) (some (.int (gapC X m s len))) (CC Λ X Y) := by
  refine con_start (cc := cX4_gap) (maxL := 3) (ret := (some .int)) (by decide) rfl (Nat.le_of_ble_eq_true rfl) ?_
  intro κ hC hR
  have hC : Ok Λ { frames := 3, cells := 0, slots := 0, locals := 64 } cX4_gap wsX4_gap RX4 3 κ := hC
  refine v_args (lv' := [(0, rf Λ 197), (1, .int s), (2, .int len)]) rfl ?_
  refine v_aload_n hC dX4_gap_0 0 rfl ?_
  refine v_iload_n hC dX4_gap_1 1 rfl ?_
  refine v_callVr (v := .int (bI (isC m s))) (C2 := CC Λ X Y) (As := [.int s]) (rest := []) hC 1 197 (c_X4_isSet Λ X Y (s := s) hm0 hm) (nR_of (by decide)) (cc_197 Λ X Y) rfl gX4_gap_X4_isSet rfl rfl rfl hd_X4_isSet ⟨by decide, by decide⟩ rfl rfl (Nat.le_of_ble_eq_true rfl) dX4_gap_2 ?_
  refine v_bne (b := isC m s) (tgt := 10) hC dX4_gap_5 (by decide) (fun c5 => ?_) (fun c5 => ?_)
  · skip
    obtain ⟨k, hk, rfl⟩ := isC_of hm c5
    have hik : ix (nI k) = k := ix_nI (by omega)
    refine v_iload_n hC dX4_gap_10 2 rfl ?_
    refine v_iconst (v := 1) hC dX4_gap_11 (by decide) ?_
    refine v_icmp_lt (x := len) (y := 1) (tgt := 22) hC dX4_gap_12 (by decide) (fun c12 => ?_) (fun c12 => ?_)
    · have c12' := Int32.not_le.mpr c12
      refine v_bipush (v := (-2)) hC dX4_gap_22 (by decide) ?_
      exact v_iret hC hR (congrArg (fun z : Int32 => some (Value.int z)) (by simp [gapC, c5, hik, c12, c12'])) rfl dX4_gap_24
    · have c12' := Int32.not_lt.mp c12
      refine v_iload_n hC dX4_gap_15 2 rfl ?_
      refine v_sipush (v := 2048) hC dX4_gap_16 (by decide) ?_
      refine v_icmp_le (x := len) (y := 2048) (tgt := 25) hC dX4_gap_19 (by decide) (fun c19 => ?_) (fun c19 => ?_)
      · have c19' := Int32.not_lt.mpr c19
        refine v_aload_n hC dX4_gap_25 0 rfl ?_
        refine v_get (T := TX4) (N := 6) (v := rf Λ 185) hC 197 (nR_of (by decide)) (cc_197 Λ X Y) in_X4_gap_X4 rfl 0 (by decide) fl_X4_gap_10 rfl dX4_gap_26 ?_
        refine v_get (T := TX1) (N := 2) (v := rf Λ (186 + 2 * 0)) hC 185 (rb_h (h := 0) (by decide)) (cc_h Λ X Y (h := 0) (by decide)) in_X4_gap_X1 rfl 0 (by decide) fl_X4_gap_60 rfl dX4_gap_29 ?_
        refine v_iload_n hC dX4_gap_32 1 rfl ?_
        refine v_aald (Cn := "BoatSets$Fleet") (n := 6) (r2 := 5 * k) hC (186 + 2 * 0) (rb_hr (h := 0) (by decide)) 3 rfl (cc_hr Λ X Y (h := 0) (by decide)) k rfl (by omega) (by decide) (by simp) dX4_gap_33 ?_
        refine v_iload_n hC dX4_gap_34 2 rfl ?_
        refine v_callVr (v := .int (gapF (fbit (fw (X.1 k))) len 2048 0 0)) (C2 := CC Λ X Y) (As := [.int len]) (rest := []) hC 1 (5 * k) (c_X0_firstGap Λ X Y (i := k) (f := (X.1 k)) (by omega) rfl (len := len)) (rb_f0 (by omega)) (cc_f0 Λ Y (by omega) rfl) rfl gX4_gap_X0_firstGap rfl rfl rfl hd_X0_firstGap ⟨by decide, by decide⟩ rfl rfl (Nat.le_of_ble_eq_true rfl) dX4_gap_35 ?_
        exact v_iret hC hR (congrArg (fun z : Int32 => some (Value.int z)) (by simp [gapC, c5, hik, c12, c12', c19, c19'])) rfl dX4_gap_38
      · have c19' := Int32.not_le.mp c19
        refine v_bipush (v := (-2)) hC dX4_gap_22 (by decide) ?_
        exact v_iret hC hR (congrArg (fun z : Int32 => some (Value.int z)) (by simp [gapC, c5, hik, c12, c12', c19, c19'])) rfl dX4_gap_24
  · skip
    refine v_iconst (v := (-1)) hC dX4_gap_8 (by decide) ?_
    exact v_iret hC hR (congrArg (fun z : Int32 => some (Value.int z)) (by simp [gapC, c5])) rfl dX4_gap_9
theorem in_X4_set_X4 : ∀ w ∈ wsX40, w ∈ wsX4_set := by decide +kernel
theorem fl_X4_set_10 : Cond.fieldLink RX4 10 "BoatSets" "now" "LBoatSets$Harbour;" ∈ wsX4_set := by decide +kernel
theorem in_X4_set_X1 : ∀ w ∈ wsX10, w ∈ wsX4_set := by decide +kernel
theorem fl_X4_set_60 : Cond.fieldLink RX4 60 "BoatSets$Harbour" "fleets" "[LBoatSets$Fleet;" ∈ wsX4_set := by decide +kernel
theorem in_X4_set_X0 : ∀ w ∈ wsX00, w ∈ wsX4_set := by decide +kernel
theorem fl_X4_set_64 : Cond.fieldLink RX4 64 "BoatSets$Fleet" "purse" "I" ∈ wsX4_set := by decide +kernel
theorem fl_X4_set_67 : Cond.fieldLink RX4 67 "BoatSets$Fleet" "atSea" "Z" ∈ wsX4_set := by decide +kernel
theorem fl_X4_set_150 : Cond.fieldLink RX4 150 "BoatSets$Fleet" "paid" "I" ∈ wsX4_set := by decide +kernel
theorem hd_X4_set : yX4_set.cls = RX4 ∧ yX4_set.cls ≠ "java/lang/invoke/MethodHandle" ∧ yX4_set.cls ≠ "java/lang/invoke/VarHandle" ∧ (parseMethodDescriptor yX4_set.desc).map (fun d => d.parameters.length) = some 2 := by decide +kernel
set_option maxHeartbeats 400000 in
set_option maxRecDepth 100000 in
theorem c_X4_set (Λ : Lk) (X : XS) (Y : YS) {s : Int32} {v : Int32} {m : Nat} (hm0 : xh X 0 = nI m) (hm : m ≤ 6) : Con Λ yX4_set wsX4_set { frames := 3, cells := 0, slots := 0, locals := 70 } [rf Λ 197, .int s, .int v] (CC Λ X Y) (some (.int (setC X m s v))) (CC Λ X Y) := by
  refine con_start (cc := cX4_set) (maxL := 4) (ret := (some .int)) (by decide) rfl (Nat.le_of_ble_eq_true rfl) ?_
  intro κ hC hR
  have hC : Ok Λ { frames := 3, cells := 0, slots := 0, locals := 70 } cX4_set wsX4_set RX4 4 κ := hC
  refine v_args (lv' := [(0, rf Λ 197), (1, .int s), (2, .int v)]) rfl ?_
  refine v_aload_n hC dX4_set_0 0 rfl ?_
  refine v_iload_n hC dX4_set_1 1 rfl ?_
  refine v_callVr (v := .int (bI (isC m s))) (C2 := CC Λ X Y) (As := [.int s]) (rest := []) hC 1 197 (c_X4_isSet Λ X Y (s := s) hm0 hm) (nR_of (by decide)) (cc_197 Λ X Y) rfl gX4_set_X4_isSet rfl rfl rfl hd_X4_isSet ⟨by decide, by decide⟩ rfl rfl (Nat.le_of_ble_eq_true rfl) dX4_set_2 ?_
  refine v_bne (b := isC m s) (tgt := 10) hC dX4_set_5 (by decide) (fun c5 => ?_) (fun c5 => ?_)
  · skip
    obtain ⟨k, hk, rfl⟩ := isC_of hm c5
    have hik : ix (nI k) = k := ix_nI (by omega)
    refine v_aload_n hC dX4_set_10 0 rfl ?_
    refine v_get (T := TX4) (N := 6) (v := rf Λ 185) hC 197 (nR_of (by decide)) (cc_197 Λ X Y) in_X4_set_X4 rfl 0 (by decide) fl_X4_set_10 rfl dX4_set_11 ?_
    refine v_get (T := TX1) (N := 2) (v := rf Λ (186 + 2 * 0)) hC 185 (rb_h (h := 0) (by decide)) (cc_h Λ X Y (h := 0) (by decide)) in_X4_set_X1 rfl 0 (by decide) fl_X4_set_60 rfl dX4_set_14 ?_
    refine v_iload_n hC dX4_set_17 1 rfl ?_
    refine v_aald (Cn := "BoatSets$Fleet") (n := 6) (r2 := 5 * k) hC (186 + 2 * 0) (rb_hr (h := 0) (by decide)) 3 rfl (cc_hr Λ X Y (h := 0) (by decide)) k rfl (by omega) (by decide) (by simp) dX4_set_18 ?_
    refine v_astore_n (lv' := [(3, rf Λ (5 * k)), (0, rf Λ 197), (1, .int (nI k)), (2, .int v)]) hC dX4_set_19 (by decide) rfl ?_
    refine v_iload_n hC dX4_set_20 3 rfl ?_
    by_cases c21_0 : v = 0
    · refine v_topi c21_0 ?_
      refine v_tabIn (x := 0) (tgt := 76) hC dX4_set_21 (by decide) (by decide) rfl (by decide) ?_
      refine v_aload_n hC dX4_set_76 0 rfl ?_
      refine v_callVr (v := .int (sumI (fs (X.1 k)) 8)) (C2 := CC Λ X Y) (As := []) (rest := []) hC 0 (5 * k) (c_X0_numbers Λ X Y (i := k) (f := (X.1 k)) (by omega) rfl) (rb_f0 (by omega)) (cc_f0 Λ Y (by omega) rfl) rfl gX4_set_X0_numbers rfl rfl rfl hd_X0_numbers ⟨by decide, by decide⟩ rfl rfl (Nat.le_of_ble_eq_true rfl) dX4_set_77 ?_
      exact v_iret hC hR (congrArg (fun z : Int32 => some (Value.int z)) (by simp [setC, bI, c5, hik, c21_0])) rfl dX4_set_80
    by_cases c21_1 : v = 1
    · refine v_topi c21_1 ?_
      refine v_tabIn (x := 1) (tgt := 81) hC dX4_set_21 (by decide) (by decide) rfl (by decide) ?_
      refine v_aload_n hC dX4_set_81 0 rfl ?_
      refine v_callVr (v := .int (bkC (X.1 k) 0 8 + bkC (X.1 k) 1 8 + bkC (X.1 k) 2 8)) (C2 := CC Λ X Y) (As := []) (rest := []) hC 0 (5 * k) (c_X0_boats Λ X Y (i := k) (f := (X.1 k)) (by omega) rfl) (rb_f0 (by omega)) (cc_f0 Λ Y (by omega) rfl) rfl gX4_set_X0_boats rfl rfl rfl hd_X0_boats ⟨by decide, by decide⟩ rfl rfl (Nat.le_of_ble_eq_true rfl) dX4_set_82 ?_
      exact v_iret hC hR (congrArg (fun z : Int32 => some (Value.int z)) (by simp [setC, bI, c5, hik, c21_1])) rfl dX4_set_85
    by_cases c21_2 : v = 2
    · refine v_topi c21_2 ?_
      refine v_tabIn (x := 2) (tgt := 86) hC dX4_set_21 (by decide) (by decide) rfl (by decide) ?_
      refine v_aload_n hC dX4_set_86 0 rfl ?_
      refine v_callVr (v := .int (sumI (fun b => unitsC (X.1 k) b (fk (X.1 k) b)) 8)) (C2 := CC Λ X Y) (As := []) (rest := []) hC 0 (5 * k) (c_X0_units Λ X Y (i := k) (f := (X.1 k)) (by omega) rfl) (rb_f0 (by omega)) (cc_f0 Λ Y (by omega) rfl) rfl gX4_set_X0_units rfl rfl rfl hd_X0_units ⟨by decide, by decide⟩ rfl rfl (Nat.le_of_ble_eq_true rfl) dX4_set_87 ?_
      exact v_iret hC hR (congrArg (fun z : Int32 => some (Value.int z)) (by simp [setC, bI, c5, hik, c21_2])) rfl dX4_set_90
    by_cases c21_3 : v = 3
    · refine v_topi c21_3 ?_
      refine v_tabIn (x := 3) (tgt := 91) hC dX4_set_21 (by decide) (by decide) rfl (by decide) ?_
      refine v_aload_n hC dX4_set_91 0 rfl ?_
      refine v_get (T := TX0) (N := 7) (v := .int (fp (X.1 k))) hC (5 * k) (rb_f0 (by omega)) (cc_f0 Λ Y (by omega) rfl) in_X4_set_X0 rfl 4 (by decide) fl_X4_set_64 rfl dX4_set_92 ?_
      exact v_iret hC hR (congrArg (fun z : Int32 => some (Value.int z)) (by simp [setC, bI, c5, hik, c21_3])) rfl dX4_set_95
    by_cases c21_4 : v = 4
    · refine v_topi c21_4 ?_
      refine v_tabIn (x := 4) (tgt := 96) hC dX4_set_21 (by decide) (by decide) rfl (by decide) ?_
      refine v_aload_n hC dX4_set_96 0 rfl ?_
      refine v_get (T := TX0) (N := 7) (v := .int (bI (fa (X.1 k)))) hC (5 * k) (rb_f0 (by omega)) (cc_f0 Λ Y (by omega) rfl) in_X4_set_X0 rfl 6 (by decide) fl_X4_set_67 rfl dX4_set_97 ?_
      refine v_beq (b := (fa (X.1 k))) (tgt := 107) hC dX4_set_100 (by decide) (fun c100 => ?_) (fun c100 => ?_)
      · skip
        refine v_iconst (v := 0) hC dX4_set_107 (by decide) ?_
        exact v_iret hC hR (congrArg (fun z : Int32 => some (Value.int z)) (by simp [setC, bI, c5, hik, c21_4, c100])) rfl dX4_set_108
      · skip
        refine v_iconst (v := 1) hC dX4_set_103 (by decide) ?_
        refine v_goto (tgt := 108) hC dX4_set_104 (by decide) ?_
        exact v_iret hC hR (congrArg (fun z : Int32 => some (Value.int z)) (by simp [setC, bI, c5, hik, c21_4, c100])) rfl dX4_set_108
    by_cases c21_5 : v = 5
    · refine v_topi c21_5 ?_
      refine v_tabIn (x := 5) (tgt := 109) hC dX4_set_21 (by decide) (by decide) rfl (by decide) ?_
      refine v_aload_n hC dX4_set_109 0 rfl ?_
      refine v_get (T := TX0) (N := 7) (v := .int (fd (X.1 k))) hC (5 * k) (rb_f0 (by omega)) (cc_f0 Λ Y (by omega) rfl) in_X4_set_X0 rfl 5 (by decide) fl_X4_set_150 rfl dX4_set_110 ?_
      exact v_iret hC hR (congrArg (fun z : Int32 => some (Value.int z)) (by simp [setC, bI, c5, hik, c21_5])) rfl dX4_set_113
    by_cases c21_6 : v = 6
    · refine v_topi c21_6 ?_
      refine v_tabIn (x := 6) (tgt := 114) hC dX4_set_21 (by decide) (by decide) rfl (by decide) ?_
      refine v_aload_n hC dX4_set_114 0 rfl ?_
      refine v_callVr (v := .int (sumI (fr (X.1 k)) 8)) (C2 := CC Λ X Y) (As := []) (rest := []) hC 0 (5 * k) (c_X0_allRuns Λ X Y (i := k) (f := (X.1 k)) (by omega) rfl) (rb_f0 (by omega)) (cc_f0 Λ Y (by omega) rfl) rfl gX4_set_X0_allRuns rfl rfl rfl hd_X0_allRuns ⟨by decide, by decide⟩ rfl rfl (Nat.le_of_ble_eq_true rfl) dX4_set_115 ?_
      exact v_iret hC hR (congrArg (fun z : Int32 => some (Value.int z)) (by simp [setC, bI, c5, hik, c21_6])) rfl dX4_set_118
    by_cases c21_7 : v = 7
    · refine v_topi c21_7 ?_
      refine v_tabIn (x := 7) (tgt := 119) hC dX4_set_21 (by decide) (by decide) rfl (by decide) ?_
      refine v_aload_n hC dX4_set_119 0 rfl ?_
      refine v_iconst (v := 0) hC dX4_set_120 (by decide) ?_
      refine v_callVr (v := .int (atI (fw (X.1 k)) 0)) (C2 := CC Λ X Y) (As := [.int 0]) (rest := []) hC 1 (5 * k) (c_X0_numberAt Λ X Y (i := k) (f := (X.1 k)) (by omega) rfl (p := 0)) (rb_f0 (by omega)) (cc_f0 Λ Y (by omega) rfl) rfl gX4_set_X0_numberAt rfl rfl rfl hd_X0_numberAt ⟨by decide, by decide⟩ rfl rfl (Nat.le_of_ble_eq_true rfl) dX4_set_121 ?_
      exact v_iret hC hR (congrArg (fun z : Int32 => some (Value.int z)) (by simp [setC, bI, c5, hik, c21_7])) rfl dX4_set_124
    by_cases c21_8 : v = 8
    · refine v_topi c21_8 ?_
      refine v_tabIn (x := 8) (tgt := 125) hC dX4_set_21 (by decide) (by decide) rfl (by decide) ?_
      refine v_aload_n hC dX4_set_125 0 rfl ?_
      refine v_aload_n hC dX4_set_126 0 rfl ?_
      refine v_callVr (v := .int (sumI (fs (X.1 k)) 8)) (C2 := CC Λ X Y) (As := []) (rest := [rf Λ (5 * k)]) hC 0 (5 * k) (c_X0_numbers Λ X Y (i := k) (f := (X.1 k)) (by omega) rfl) (rb_f0 (by omega)) (cc_f0 Λ Y (by omega) rfl) rfl gX4_set_X0_numbers rfl rfl rfl hd_X0_numbers ⟨by decide, by decide⟩ rfl rfl (Nat.le_of_ble_eq_true rfl) dX4_set_127 ?_
      refine v_iconst (v := 1) hC dX4_set_130 (by decide) ?_
      refine v_isub (x := sumI (fs (X.1 k)) 8) (y := 1) hC dX4_set_131 ?_
      refine v_callVr (v := .int (atI (fw (X.1 k)) ((sumI (fs (X.1 k)) 8) - 1))) (C2 := CC Λ X Y) (As := [.int ((sumI (fs (X.1 k)) 8) - 1)]) (rest := []) hC 1 (5 * k) (c_X0_numberAt Λ X Y (i := k) (f := (X.1 k)) (by omega) rfl (p := (sumI (fs (X.1 k)) 8) - 1)) (rb_f0 (by omega)) (cc_f0 Λ Y (by omega) rfl) rfl gX4_set_X0_numberAt rfl rfl rfl hd_X0_numberAt ⟨by decide, by decide⟩ rfl rfl (Nat.le_of_ble_eq_true rfl) dX4_set_132 ?_
      exact v_iret hC hR (congrArg (fun z : Int32 => some (Value.int z)) (by simp [setC, bI, c5, hik, c21_8])) rfl dX4_set_135
    by_cases c21_9 : v = 9
    · refine v_topi c21_9 ?_
      refine v_tabIn (x := 9) (tgt := 136) hC dX4_set_21 (by decide) (by decide) rfl (by decide) ?_
      refine v_aload_n hC dX4_set_136 0 rfl ?_
      refine v_callVr (v := .int (sumI (fun b => unitsC (X.1 k) b (bestC (X.1 k) b)) 8)) (C2 := CC Λ X Y) (As := []) (rest := []) hC 0 (5 * k) (c_X0_bestUnits Λ X Y (i := k) (f := (X.1 k)) (by omega) rfl) (rb_f0 (by omega)) (cc_f0 Λ Y (by omega) rfl) rfl gX4_set_X0_bestUnits rfl rfl rfl hd_X0_bestUnits ⟨by decide, by decide⟩ rfl rfl (Nat.le_of_ble_eq_true rfl) dX4_set_137 ?_
      exact v_iret hC hR (congrArg (fun z : Int32 => some (Value.int z)) (by simp [setC, bI, c5, hik, c21_9])) rfl dX4_set_140
    refine v_tabOut (tgt := 141) hC dX4_set_21 (by have q0 := i32_ne (n := 0) c21_0 (by decide); have q1 := i32_ne (n := 1) c21_1 (by decide); have q2 := i32_ne (n := 2) c21_2 (by decide); have q3 := i32_ne (n := 3) c21_3 (by decide); have q4 := i32_ne (n := 4) c21_4 (by decide); have q5 := i32_ne (n := 5) c21_5 (by decide); have q6 := i32_ne (n := 6) c21_6 (by decide); have q7 := i32_ne (n := 7) c21_7 (by decide); have q8 := i32_ne (n := 8) c21_8 (by decide); have q9 := i32_ne (n := 9) c21_9 (by decide); omega) (by decide) ?_
    refine v_bipush (v := (-2)) hC dX4_set_141 (by decide) ?_
    exact v_iret hC hR (congrArg (fun z : Int32 => some (Value.int z)) (by simp [setC, bI, c5, hik, c21_0, c21_1, c21_2, c21_3, c21_4, c21_5, c21_6, c21_7, c21_8, c21_9])) rfl dX4_set_143
  · skip
    refine v_iconst (v := (-1)) hC dX4_set_8 (by decide) ?_
    exact v_iret hC hR (congrArg (fun z : Int32 => some (Value.int z)) (by simp [setC, bI, c5])) rfl dX4_set_9
theorem in_X4_boat_X4 : ∀ w ∈ wsX40, w ∈ wsX4_boat := by decide +kernel
theorem fl_X4_boat_10 : Cond.fieldLink RX4 10 "BoatSets" "now" "LBoatSets$Harbour;" ∈ wsX4_boat := by decide +kernel
theorem in_X4_boat_X1 : ∀ w ∈ wsX10, w ∈ wsX4_boat := by decide +kernel
theorem fl_X4_boat_60 : Cond.fieldLink RX4 60 "BoatSets$Harbour" "fleets" "[LBoatSets$Fleet;" ∈ wsX4_boat := by decide +kernel
theorem in_X4_boat_X0 : ∀ w ∈ wsX00, w ∈ wsX4_boat := by decide +kernel
theorem fl_X4_boat_85 : Cond.fieldLink RX4 85 "BoatSets$Fleet" "sizes" "[I" ∈ wsX4_boat := by decide +kernel
theorem fl_X4_boat_81 : Cond.fieldLink RX4 81 "BoatSets$Fleet" "kinds" "[I" ∈ wsX4_boat := by decide +kernel
theorem fl_X4_boat_162 : Cond.fieldLink RX4 162 "BoatSets$Fleet" "runs" "[I" ∈ wsX4_boat := by decide +kernel
theorem hd_X4_boat : yX4_boat.cls = RX4 ∧ yX4_boat.cls ≠ "java/lang/invoke/MethodHandle" ∧ yX4_boat.cls ≠ "java/lang/invoke/VarHandle" ∧ (parseMethodDescriptor yX4_boat.desc).map (fun d => d.parameters.length) = some 3 := by decide +kernel
set_option maxHeartbeats 400000 in
set_option maxRecDepth 100000 in
theorem c_X4_boat (Λ : Lk) (X : XS) (Y : YS) {s : Int32} {b : Int32} {v : Int32} {m : Nat} (hm0 : xh X 0 = nI m) (hm : m ≤ 6) : Con Λ yX4_boat wsX4_boat { frames := 3, cells := 0, slots := 0, locals := 66 } [rf Λ 197, .int s, .int b, .int v] (CC Λ X Y) (some (.int (boatC X m s b v))) (CC Λ X Y) := by
  refine con_start (cc := cX4_boat) (maxL := 5) (ret := (some .int)) (by decide) rfl (Nat.le_of_ble_eq_true rfl) ?_
  intro κ hC hR
  have hC : Ok Λ { frames := 3, cells := 0, slots := 0, locals := 66 } cX4_boat wsX4_boat RX4 5 κ := hC
  refine v_args (lv' := [(0, rf Λ 197), (1, .int s), (2, .int b), (3, .int v)]) rfl ?_
  refine v_aload_n hC dX4_boat_0 0 rfl ?_
  refine v_iload_n hC dX4_boat_1 1 rfl ?_
  refine v_callVr (v := .int (bI (isC m s))) (C2 := CC Λ X Y) (As := [.int s]) (rest := []) hC 1 197 (c_X4_isSet Λ X Y (s := s) hm0 hm) (nR_of (by decide)) (cc_197 Λ X Y) rfl gX4_boat_X4_isSet rfl rfl rfl hd_X4_isSet ⟨by decide, by decide⟩ rfl rfl (Nat.le_of_ble_eq_true rfl) dX4_boat_2 ?_
  refine v_bne (b := isC m s) (tgt := 10) hC dX4_boat_5 (by decide) (fun c5 => ?_) (fun c5 => ?_)
  · skip
    obtain ⟨k, hk, rfl⟩ := isC_of hm c5
    have hik : ix (nI k) = k := ix_nI (by omega)
    refine v_iload_n hC dX4_boat_10 2 rfl ?_
    refine v_if_lt (tgt := 29) hC dX4_boat_11 (by decide) (fun c11 => ?_) (fun c11 => ?_)
    · have c11' := Int32.not_le.mpr c11
      refine v_bipush (v := (-2)) hC dX4_boat_29 (by decide) ?_
      exact v_iret hC hR (congrArg (fun z : Int32 => some (Value.int z)) (by simp [boatC, c5, hik, c11, c11'])) rfl dX4_boat_31
    · have c11' := Int32.not_lt.mp c11
      refine v_iload_n hC dX4_boat_14 2 rfl ?_
      refine v_bipush (v := 8) hC dX4_boat_15 (by decide) ?_
      refine v_icmp_ge (x := b) (y := 8) (tgt := 29) hC dX4_boat_17 (by decide) (fun c17 => ?_) (fun c17 => ?_)
      · have c17' := Int32.not_lt.mpr c17
        refine v_bipush (v := (-2)) hC dX4_boat_29 (by decide) ?_
        exact v_iret hC hR (congrArg (fun z : Int32 => some (Value.int z)) (by simp [boatC, c5, hik, c11, c11', c17, c17'])) rfl dX4_boat_31
      · have c17' := Int32.not_le.mp c17
        refine v_iload_n hC dX4_boat_20 3 rfl ?_
        refine v_if_lt (tgt := 29) hC dX4_boat_21 (by decide) (fun c21 => ?_) (fun c21 => ?_)
        · have c21' := Int32.not_le.mpr c21
          refine v_bipush (v := (-2)) hC dX4_boat_29 (by decide) ?_
          exact v_iret hC hR (congrArg (fun z : Int32 => some (Value.int z)) (by simp [boatC, c5, hik, c11, c11', c17, c17', c21, c21'])) rfl dX4_boat_31
        · have c21' := Int32.not_lt.mp c21
          refine v_iload_n hC dX4_boat_24 3 rfl ?_
          refine v_iconst (v := 5) hC dX4_boat_25 (by decide) ?_
          refine v_icmp_le (x := v) (y := 5) (tgt := 32) hC dX4_boat_26 (by decide) (fun c26 => ?_) (fun c26 => ?_)
          · have c26' := Int32.not_lt.mpr c26
            obtain ⟨q, hq, rfl⟩ := lt8_of c11 c17
            have hiq : ix (nI q) = q := ix_nI (by omega)
            refine v_aload_n hC dX4_boat_32 0 rfl ?_
            refine v_get (T := TX4) (N := 6) (v := rf Λ 185) hC 197 (nR_of (by decide)) (cc_197 Λ X Y) in_X4_boat_X4 rfl 0 (by decide) fl_X4_boat_10 rfl dX4_boat_33 ?_
            refine v_get (T := TX1) (N := 2) (v := rf Λ (186 + 2 * 0)) hC 185 (rb_h (h := 0) (by decide)) (cc_h Λ X Y (h := 0) (by decide)) in_X4_boat_X1 rfl 0 (by decide) fl_X4_boat_60 rfl dX4_boat_36 ?_
            refine v_iload_n hC dX4_boat_39 1 rfl ?_
            refine v_aald (Cn := "BoatSets$Fleet") (n := 6) (r2 := 5 * k) hC (186 + 2 * 0) (rb_hr (h := 0) (by decide)) 3 rfl (cc_hr Λ X Y (h := 0) (by decide)) k rfl (by omega) (by decide) (by simp) dX4_boat_40 ?_
            refine v_astore (lv' := [(4, rf Λ (5 * k)), (0, rf Λ 197), (1, .int (nI k)), (2, .int (nI q)), (3, .int v)]) hC dX4_boat_41 (by decide) rfl ?_
            refine v_aload hC dX4_boat_43 0 rfl ?_
            refine v_get (T := TX0) (N := 7) (v := rf Λ (5 * k + 3)) hC (5 * k) (rb_f0 (by omega)) (cc_f0 Λ Y (by omega) rfl) in_X4_boat_X0 rfl 2 (by decide) fl_X4_boat_85 rfl dX4_boat_45 ?_
            refine v_iload_n hC dX4_boat_48 3 rfl ?_
            refine v_iald (n := 8) (f := (fs (X.1 k))) hC (5 * k + 3) (rb_f (by omega) (by decide)) (cc_f3 Λ Y (by omega) rfl) q rfl (by omega) (by decide) dX4_boat_49 ?_
            refine v_if_ne (tgt := 56) hC dX4_boat_50 (by decide) (fun c50 => ?_) (fun c50 => ?_)
            · skip
              refine v_iload_n hC dX4_boat_56 4 rfl ?_
              by_cases c57_0 : v = 0
              · refine v_topi c57_0 ?_
                refine v_tabIn (x := 0) (tgt := 92) hC dX4_boat_57 (by decide) (by decide) rfl (by decide) ?_
                refine v_aload hC dX4_boat_92 0 rfl ?_
                refine v_get (T := TX0) (N := 7) (v := rf Λ (5 * k + 2)) hC (5 * k) (rb_f0 (by omega)) (cc_f0 Λ Y (by omega) rfl) in_X4_boat_X0 rfl 1 (by decide) fl_X4_boat_81 rfl dX4_boat_94 ?_
                refine v_iload_n hC dX4_boat_97 3 rfl ?_
                refine v_iald (n := 8) (f := (fk (X.1 k))) hC (5 * k + 2) (rb_f (by omega) (by decide)) (cc_f2 Λ Y (by omega) rfl) q rfl (by omega) (by decide) dX4_boat_98 ?_
                exact v_iret hC hR (congrArg (fun z : Int32 => some (Value.int z)) (by simp [boatC, c5, hik, c11, c11', c17, c17', c21, c21', c26, c26', hiq, c50, c57_0])) rfl dX4_boat_99
              by_cases c57_1 : v = 1
              · refine v_topi c57_1 ?_
                refine v_tabIn (x := 1) (tgt := 100) hC dX4_boat_57 (by decide) (by decide) rfl (by decide) ?_
                refine v_aload hC dX4_boat_100 0 rfl ?_
                refine v_get (T := TX0) (N := 7) (v := rf Λ (5 * k + 3)) hC (5 * k) (rb_f0 (by omega)) (cc_f0 Λ Y (by omega) rfl) in_X4_boat_X0 rfl 2 (by decide) fl_X4_boat_85 rfl dX4_boat_102 ?_
                refine v_iload_n hC dX4_boat_105 3 rfl ?_
                refine v_iald (n := 8) (f := (fs (X.1 k))) hC (5 * k + 3) (rb_f (by omega) (by decide)) (cc_f3 Λ Y (by omega) rfl) q rfl (by omega) (by decide) dX4_boat_106 ?_
                exact v_iret hC hR (congrArg (fun z : Int32 => some (Value.int z)) (by simp [boatC, c5, hik, c11, c11', c17, c17', c21, c21', c26, c26', hiq, c50, c57_1])) rfl dX4_boat_107
              by_cases c57_2 : v = 2
              · refine v_topi c57_2 ?_
                refine v_tabIn (x := 2) (tgt := 108) hC dX4_boat_57 (by decide) (by decide) rfl (by decide) ?_
                refine v_aload hC dX4_boat_108 0 rfl ?_
                refine v_get (T := TX0) (N := 7) (v := rf Λ (5 * k + 4)) hC (5 * k) (rb_f0 (by omega)) (cc_f0 Λ Y (by omega) rfl) in_X4_boat_X0 rfl 3 (by decide) fl_X4_boat_162 rfl dX4_boat_110 ?_
                refine v_iload_n hC dX4_boat_113 3 rfl ?_
                refine v_iald (n := 8) (f := (fr (X.1 k))) hC (5 * k + 4) (rb_f (by omega) (by decide)) (cc_f4 Λ Y (by omega) rfl) q rfl (by omega) (by decide) dX4_boat_114 ?_
                exact v_iret hC hR (congrArg (fun z : Int32 => some (Value.int z)) (by simp [boatC, c5, hik, c11, c11', c17, c17', c21, c21', c26, c26', hiq, c50, c57_2])) rfl dX4_boat_115
              by_cases c57_3 : v = 3
              · refine v_topi c57_3 ?_
                refine v_tabIn (x := 3) (tgt := 116) hC dX4_boat_57 (by decide) (by decide) rfl (by decide) ?_
                refine v_aload hC dX4_boat_116 0 rfl ?_
                refine v_iload_n hC dX4_boat_118 3 rfl ?_
                refine v_aload hC dX4_boat_119 0 rfl ?_
                refine v_get (T := TX0) (N := 7) (v := rf Λ (5 * k + 2)) hC (5 * k) (rb_f0 (by omega)) (cc_f0 Λ Y (by omega) rfl) in_X4_boat_X0 rfl 1 (by decide) fl_X4_boat_81 rfl dX4_boat_121 ?_
                refine v_iload_n hC dX4_boat_124 3 rfl ?_
                refine v_iald (n := 8) (f := (fk (X.1 k))) hC (5 * k + 2) (rb_f (by omega) (by decide)) (cc_f2 Λ Y (by omega) rfl) q rfl (by omega) (by decide) dX4_boat_125 ?_
                refine v_callVr (v := .int (unitsC (X.1 k) q ((fk (X.1 k)) q))) (C2 := CC Λ X Y) (As := [.int (nI q), .int ((fk (X.1 k)) q)]) (rest := []) hC 2 (5 * k) (c_X0_unitsAs Λ X Y (i := k) (f := (X.1 k)) (by omega) rfl (b := q) (k := (fk (X.1 k)) q) (by omega)) (rb_f0 (by omega)) (cc_f0 Λ Y (by omega) rfl) rfl gX4_boat_X0_unitsAs rfl rfl rfl hd_X0_unitsAs ⟨by decide, by decide⟩ rfl rfl (Nat.le_of_ble_eq_true rfl) dX4_boat_126 ?_
                exact v_iret hC hR (congrArg (fun z : Int32 => some (Value.int z)) (by simp [boatC, c5, hik, c11, c11', c17, c17', c21, c21', c26, c26', hiq, c50, c57_3])) rfl dX4_boat_129
              by_cases c57_4 : v = 4
              · refine v_topi c57_4 ?_
                refine v_tabIn (x := 4) (tgt := 130) hC dX4_boat_57 (by decide) (by decide) rfl (by decide) ?_
                refine v_aload hC dX4_boat_130 0 rfl ?_
                refine v_iload_n hC dX4_boat_132 3 rfl ?_
                refine v_callVr (v := .int (bestC (X.1 k) q)) (C2 := CC Λ X Y) (As := [.int (nI q)]) (rest := []) hC 1 (5 * k) (c_X0_bestKind Λ X Y (i := k) (f := (X.1 k)) (by omega) rfl (b := q) (by omega)) (rb_f0 (by omega)) (cc_f0 Λ Y (by omega) rfl) rfl gX4_boat_X0_bestKind rfl rfl rfl hd_X0_bestKind ⟨by decide, by decide⟩ rfl rfl (Nat.le_of_ble_eq_true rfl) dX4_boat_133 ?_
                exact v_iret hC hR (congrArg (fun z : Int32 => some (Value.int z)) (by simp [boatC, c5, hik, c11, c11', c17, c17', c21, c21', c26, c26', hiq, c50, c57_4])) rfl dX4_boat_136
              refine v_tabOut (tgt := 137) hC dX4_boat_57 (by have q0 := i32_ne (n := 0) c57_0 (by decide); have q1 := i32_ne (n := 1) c57_1 (by decide); have q2 := i32_ne (n := 2) c57_2 (by decide); have q3 := i32_ne (n := 3) c57_3 (by decide); have q4 := i32_ne (n := 4) c57_4 (by decide); omega) (by decide) ?_
              refine v_aload hC dX4_boat_137 0 rfl ?_
              refine v_iload_n hC dX4_boat_139 3 rfl ?_
              refine v_callVr (v := .int (tbC (X.1 k) q)) (C2 := CC Λ X Y) (As := [.int (nI q)]) (rest := []) hC 1 (5 * k) (c_X0_tollToBest Λ X Y (i := k) (f := (X.1 k)) (by omega) rfl (b := q) (by omega)) (rb_f0 (by omega)) (cc_f0 Λ Y (by omega) rfl) rfl gX4_boat_X0_tollToBest rfl rfl rfl hd_X0_tollToBest ⟨by decide, by decide⟩ rfl rfl (Nat.le_of_ble_eq_true rfl) dX4_boat_140 ?_
              exact v_iret hC hR (congrArg (fun z : Int32 => some (Value.int z)) (by simp [boatC, c5, hik, c11, c11', c17, c17', c21, c21', c26, c26', hiq, c50, c57_0, c57_1, c57_2, c57_3, c57_4])) rfl dX4_boat_143
            · skip
              refine v_bipush (v := (-5)) hC dX4_boat_53 (by decide) ?_
              exact v_iret hC hR (congrArg (fun z : Int32 => some (Value.int z)) (by simp [boatC, c5, hik, c11, c11', c17, c17', c21, c21', c26, c26', hiq, c50])) rfl dX4_boat_55
          · have c26' := Int32.not_le.mp c26
            refine v_bipush (v := (-2)) hC dX4_boat_29 (by decide) ?_
            exact v_iret hC hR (congrArg (fun z : Int32 => some (Value.int z)) (by simp [boatC, c5, hik, c11, c11', c17, c17', c21, c21', c26, c26'])) rfl dX4_boat_31
  · skip
    refine v_iconst (v := (-1)) hC dX4_boat_8 (by decide) ?_
    exact v_iret hC hR (congrArg (fun z : Int32 => some (Value.int z)) (by simp [boatC, c5])) rfl dX4_boat_9
theorem in_X4_sizeOf_X4 : ∀ w ∈ wsX40, w ∈ wsX4_sizeOf := by decide +kernel
theorem fl_X4_sizeOf_10 : Cond.fieldLink RX4 10 "BoatSets" "now" "LBoatSets$Harbour;" ∈ wsX4_sizeOf := by decide +kernel
theorem in_X4_sizeOf_X1 : ∀ w ∈ wsX10, w ∈ wsX4_sizeOf := by decide +kernel
theorem fl_X4_sizeOf_60 : Cond.fieldLink RX4 60 "BoatSets$Harbour" "fleets" "[LBoatSets$Fleet;" ∈ wsX4_sizeOf := by decide +kernel
theorem in_X4_sizeOf_X0 : ∀ w ∈ wsX00, w ∈ wsX4_sizeOf := by decide +kernel
theorem fl_X4_sizeOf_183 : Cond.fieldLink RX4 183 "BoatSets$Fleet" "words" "[J" ∈ wsX4_sizeOf := by decide +kernel
theorem hd_X4_sizeOf : yX4_sizeOf.cls = RX4 ∧ yX4_sizeOf.cls ≠ "java/lang/invoke/MethodHandle" ∧ yX4_sizeOf.cls ≠ "java/lang/invoke/VarHandle" ∧ (parseMethodDescriptor yX4_sizeOf.desc).map (fun d => d.parameters.length) = some 3 := by decide +kernel
set_option maxHeartbeats 400000 in
set_option maxRecDepth 100000 in
theorem c_X4_sizeOf (Λ : Lk) (X : XS) (Y : YS) {how : Int32} {s : Int32} {o : Int32} {m : Nat} (hm0 : xh X 0 = nI m) (hm : m ≤ 6) : Con Λ yX4_sizeOf wsX4_sizeOf { frames := 1, cells := 0, slots := 0, locals := 24 } [rf Λ 197, .int how, .int s, .int o] (CC Λ X Y) (some (.int (sizeC X m how s o))) (CC Λ X Y) := by
  refine con_start (cc := cX4_sizeOf) (maxL := 6) (ret := (some .int)) (by decide) rfl (Nat.le_of_ble_eq_true rfl) ?_
  intro κ hC hR
  have hC : Ok Λ { frames := 1, cells := 0, slots := 0, locals := 24 } cX4_sizeOf wsX4_sizeOf RX4 6 κ := hC
  refine v_args (lv' := [(0, rf Λ 197), (1, .int how), (2, .int s), (3, .int o)]) rfl ?_
  refine v_aload_n hC dX4_sizeOf_0 0 rfl ?_
  refine v_iload_n hC dX4_sizeOf_1 2 rfl ?_
  refine v_callVr (v := .int (bI (isC m s))) (C2 := CC Λ X Y) (As := [.int s]) (rest := []) hC 1 197 (c_X4_isSet Λ X Y (s := s) hm0 hm) (nR_of (by decide)) (cc_197 Λ X Y) rfl gX4_sizeOf_X4_isSet rfl rfl rfl hd_X4_isSet ⟨by decide, by decide⟩ rfl rfl (Nat.le_of_ble_eq_true rfl) dX4_sizeOf_2 ?_
  refine v_beq (b := isC m s) (tgt := 16) hC dX4_sizeOf_5 (by decide) (fun c5 => ?_) (fun c5 => ?_)
  · skip
    refine v_iconst (v := (-1)) hC dX4_sizeOf_16 (by decide) ?_
    exact v_iret hC hR (congrArg (fun z : Int32 => some (Value.int z)) (by simp [sizeC, c5])) rfl dX4_sizeOf_17
  · skip
    obtain ⟨k, hk, rfl⟩ := isC_of hm c5
    have hik : ix (nI k) = k := ix_nI (by omega)
    refine v_aload_n hC dX4_sizeOf_8 0 rfl ?_
    refine v_iload_n hC dX4_sizeOf_9 3 rfl ?_
    refine v_callVr (v := .int (bI (isC m o))) (C2 := CC Λ X Y) (As := [.int o]) (rest := []) hC 1 197 (c_X4_isSet Λ X Y (s := o) hm0 hm) (nR_of (by decide)) (cc_197 Λ X Y) rfl gX4_sizeOf_X4_isSet rfl rfl rfl hd_X4_isSet ⟨by decide, by decide⟩ rfl rfl (Nat.le_of_ble_eq_true rfl) dX4_sizeOf_10 ?_
    refine v_bne (b := isC m o) (tgt := 18) hC dX4_sizeOf_13 (by decide) (fun c13 => ?_) (fun c13 => ?_)
    · skip
      obtain ⟨k2, hk2, rfl⟩ := isC_of hm c13
      have hik2 : ix (nI k2) = k2 := ix_nI (by omega)
      refine v_iload_n hC dX4_sizeOf_18 1 rfl ?_
      refine v_callSr (v := .int (bI (inB how 0 3))) (C2 := CC Λ X Y) (As := [.int how]) (rest := []) hC 1 (c_X4_isHow Λ X Y (v := how)) gX4_sizeOf_X4_isHow rfl rfl rfl hd_X4_isHow ⟨by decide, by decide⟩ rfl rfl (Nat.le_of_ble_eq_true rfl) dX4_sizeOf_19 ?_
      refine v_bne (b := inB how 0 3) (tgt := 28) hC dX4_sizeOf_22 (by decide) (fun c22 => ?_) (fun c22 => ?_)
      · skip
        refine v_iconst (v := 0) hC dX4_sizeOf_28 (by decide) ?_
        refine v_istore (lv' := [(4, .int 0), (0, rf Λ 197), (1, .int how), (2, .int (nI k)), (3, .int (nI k2))]) hC dX4_sizeOf_29 (by decide) rfl ?_
        refine v_iconst (v := 0) hC dX4_sizeOf_31 (by decide) ?_
        refine v_istore (lv' := [(5, .int 0), (4, .int 0), (0, rf Λ 197), (1, .int how), (2, .int (nI k)), (3, .int (nI k2))]) hC dX4_sizeOf_32 (by decide) rfl ?_
        have L34 : ∀ (fu34 : Nat) (b : Nat) (x4 : Int32) (x5 : Int32), b ≤ 32 → x4 = nI (smN (fun j => pcN (joC how (fw (X.1 k) j) (fw (X.1 k2) j))) b) → x5 = nI b → 32 - b < fu34 → V Λ κ (CC Λ X Y) 34 [(0, rf Λ 197), (1, .int how), (2, .int (nI k)), (3, .int (nI k2)), (4, .int x4), (5, .int x5)] [] := by
          intro fu34
          induction fu34 with
          | zero => intro b x4 x5 hb e4 e5 hfu34; exact absurd hfu34 (Nat.not_lt_zero _)
          | succ fu34 ih34 =>
            intro b x4 x5 hb e4 e5 hfu34
            subst e4
            subst e5
            refine v_iload hC dX4_sizeOf_34 5 rfl ?_
            refine v_bipush (v := 32) hC dX4_sizeOf_36 (by decide) ?_
            refine v_nge (a := b) (b := 32) (tgt := 89) hC dX4_sizeOf_38 (by decide) rfl rfl (by omega) (by omega) (fun c38 => ?_) (fun c38 => ?_)
            · have c38' := Nat.not_lt.mpr c38
              have e_b : b = 32 := by omega
              subst e_b
              refine v_iload hC dX4_sizeOf_89 4 rfl ?_
              exact v_iret hC hR (congrArg (fun z : Int32 => some (Value.int z)) (by simp [sizeC, c5, hik, c13, hik2, c22, c38, c38'])) rfl dX4_sizeOf_91
            · have c38' := Nat.not_le.mpr c38
              refine v_iload hC dX4_sizeOf_41 4 rfl ?_
              refine v_iload_n hC dX4_sizeOf_43 1 rfl ?_
              refine v_aload_n hC dX4_sizeOf_44 0 rfl ?_
              refine v_get (T := TX4) (N := 6) (v := rf Λ 185) hC 197 (nR_of (by decide)) (cc_197 Λ X Y) in_X4_sizeOf_X4 rfl 0 (by decide) fl_X4_sizeOf_10 rfl dX4_sizeOf_45 ?_
              refine v_get (T := TX1) (N := 2) (v := rf Λ (186 + 2 * 0)) hC 185 (rb_h (h := 0) (by decide)) (cc_h Λ X Y (h := 0) (by decide)) in_X4_sizeOf_X1 rfl 0 (by decide) fl_X4_sizeOf_60 rfl dX4_sizeOf_48 ?_
              refine v_iload_n hC dX4_sizeOf_51 2 rfl ?_
              refine v_aald (Cn := "BoatSets$Fleet") (n := 6) (r2 := 5 * k) hC (186 + 2 * 0) (rb_hr (h := 0) (by decide)) 3 rfl (cc_hr Λ X Y (h := 0) (by decide)) k rfl (by omega) (by decide) (by simp) dX4_sizeOf_52 ?_
              refine v_get (T := TX0) (N := 7) (v := rf Λ (5 * k + 1)) hC (5 * k) (rb_f0 (by omega)) (cc_f0 Λ Y (by omega) rfl) in_X4_sizeOf_X0 rfl 0 (by decide) fl_X4_sizeOf_183 rfl dX4_sizeOf_53 ?_
              refine v_iload hC dX4_sizeOf_56 5 rfl ?_
              refine v_lald (n := 32) (f := (fw (X.1 k))) hC (5 * k + 1) (rb_f (by omega) (by decide)) (cc_f1 Λ Y (by omega) rfl) b rfl (by omega) (by decide) dX4_sizeOf_58 ?_
              refine v_aload_n hC dX4_sizeOf_59 0 rfl ?_
              refine v_get (T := TX4) (N := 6) (v := rf Λ 185) hC 197 (nR_of (by decide)) (cc_197 Λ X Y) in_X4_sizeOf_X4 rfl 0 (by decide) fl_X4_sizeOf_10 rfl dX4_sizeOf_60 ?_
              refine v_get (T := TX1) (N := 2) (v := rf Λ (186 + 2 * 0)) hC 185 (rb_h (h := 0) (by decide)) (cc_h Λ X Y (h := 0) (by decide)) in_X4_sizeOf_X1 rfl 0 (by decide) fl_X4_sizeOf_60 rfl dX4_sizeOf_63 ?_
              refine v_iload_n hC dX4_sizeOf_66 3 rfl ?_
              refine v_aald (Cn := "BoatSets$Fleet") (n := 6) (r2 := 5 * k2) hC (186 + 2 * 0) (rb_hr (h := 0) (by decide)) 3 rfl (cc_hr Λ X Y (h := 0) (by decide)) k2 rfl (by omega) (by decide) (by simp) dX4_sizeOf_67 ?_
              refine v_get (T := TX0) (N := 7) (v := rf Λ (5 * k2 + 1)) hC (5 * k2) (rb_f0 (by omega)) (cc_f0 Λ Y (by omega) rfl) in_X4_sizeOf_X0 rfl 0 (by decide) fl_X4_sizeOf_183 rfl dX4_sizeOf_68 ?_
              refine v_iload hC dX4_sizeOf_71 5 rfl ?_
              refine v_lald (n := 32) (f := (fw (X.1 k2))) hC (5 * k2 + 1) (rb_f (by omega) (by decide)) (cc_f1 Λ Y (by omega) rfl) b rfl (by omega) (by decide) dX4_sizeOf_73 ?_
              refine v_callSr (v := .long (joC how ((fw (X.1 k)) b) ((fw (X.1 k2)) b))) (C2 := CC Λ X Y) (As := [.int how, .long ((fw (X.1 k)) b), .long ((fw (X.1 k2)) b)]) (rest := [.int (nI (smN (fun j => pcN (joC how (fw (X.1 k) j) (fw (X.1 k2) j))) b))]) hC 3 (c_X4_join Λ X Y (how := how) (x := (fw (X.1 k)) b) (y := (fw (X.1 k2)) b)) gX4_sizeOf_X4_join rfl rfl rfl hd_X4_join ⟨by decide, by decide⟩ rfl rfl (Nat.le_of_ble_eq_true rfl) dX4_sizeOf_74 ?_
              refine v_callSr (v := .int (nI (pcN (joC how ((fw (X.1 k)) b) ((fw (X.1 k2)) b))))) (C2 := CC Λ X Y) (As := [.long (joC how ((fw (X.1 k)) b) ((fw (X.1 k2)) b))]) (rest := [.int (nI (smN (fun j => pcN (joC how (fw (X.1 k) j) (fw (X.1 k2) j))) b))]) hC 1 (c_J13_bitCount_95d88 Λ X Y (x := joC how ((fw (X.1 k)) b) ((fw (X.1 k2)) b))) gX4_sizeOf_J13_bitCount_95d88 rfl rfl rfl hd_J13_bitCount_95d88 ⟨by decide, by decide⟩ rfl rfl (Nat.le_of_ble_eq_true rfl) dX4_sizeOf_77 ?_
              have hp77 := pcN_le (joC how ((fw (X.1 k)) b) ((fw (X.1 k2)) b))
              refine v_iadd (x := nI (smN (fun j => pcN (joC how (fw (X.1 k) j) (fw (X.1 k2) j))) b)) (y := nI (pcN (joC how ((fw (X.1 k)) b) ((fw (X.1 k2)) b)))) hC dX4_sizeOf_80 ?_
              refine v_topi (y := nI (smN (fun j => pcN (joC how (fw (X.1 k) j) (fw (X.1 k2) j))) b + (pcN (joC how ((fw (X.1 k)) b) ((fw (X.1 k2)) b))))) (nI_add (smN (fun j => pcN (joC how (fw (X.1 k) j) (fw (X.1 k2) j))) b) (pcN (joC how ((fw (X.1 k)) b) ((fw (X.1 k2)) b)))) ?_
              refine v_istore (lv' := [(4, .int (nI (smN (fun j => pcN (joC how (fw (X.1 k) j) (fw (X.1 k2) j))) b + (pcN (joC how ((fw (X.1 k)) b) ((fw (X.1 k2)) b)))))), (0, rf Λ 197), (1, .int how), (2, .int (nI k)), (3, .int (nI k2)), (5, .int (nI b))]) hC dX4_sizeOf_81 (by decide) rfl ?_
              refine v_iinc (j := 5) (v := nI (b + 1)) (lv' := [(5, .int (nI (b + 1))), (4, .int (nI (smN (fun j => pcN (joC how (fw (X.1 k) j) (fw (X.1 k2) j))) b + (pcN (joC how ((fw (X.1 k)) b) ((fw (X.1 k2)) b)))))), (0, rf Λ 197), (1, .int how), (2, .int (nI k)), (3, .int (nI k2))]) hC dX4_sizeOf_83 rfl (nI_add b 1) (by decide) rfl ?_
              refine v_goto (tgt := 34) hC dX4_sizeOf_86 (by decide) ?_
              refine v_sub (lv' := [(0, rf Λ 197), (1, .int how), (2, .int (nI k)), (3, .int (nI k2)), (4, .int (nI (smN (fun j => pcN (joC how (fw (X.1 k) j) (fw (X.1 k2) j))) b + (pcN (joC how ((fw (X.1 k)) b) ((fw (X.1 k2)) b)))))), (5, .int (nI (b + 1)))]) [2, 3, 4, 5, 1, 0] rfl ?_
              exact ih34 (b + 1) _ _ (by omega) rfl rfl (by omega)
        refine v_sub (lv' := [(0, rf Λ 197), (1, .int how), (2, .int (nI k)), (3, .int (nI k2)), (4, .int 0), (5, .int 0)]) [2, 3, 4, 5, 1, 0] rfl ?_
        exact L34 _ 0 _ _ (by omega) rfl rfl (Nat.lt_succ_self _)
      · skip
        refine v_bipush (v := (-2)) hC dX4_sizeOf_25 (by decide) ?_
        exact v_iret hC hR (congrArg (fun z : Int32 => some (Value.int z)) (by simp [sizeC, c5, hik, c13, hik2, c22])) rfl dX4_sizeOf_27
    · skip
      refine v_iconst (v := (-1)) hC dX4_sizeOf_16 (by decide) ?_
      exact v_iret hC hR (congrArg (fun z : Int32 => some (Value.int z)) (by simp [sizeC, c5, hik, c13])) rfl dX4_sizeOf_17
theorem in_X4_ofAll_X4 : ∀ w ∈ wsX40, w ∈ wsX4_ofAll := by decide +kernel
theorem fl_X4_ofAll_10 : Cond.fieldLink RX4 10 "BoatSets" "now" "LBoatSets$Harbour;" ∈ wsX4_ofAll := by decide +kernel
theorem hd_X4_ofAll : yX4_ofAll.cls = RX4 ∧ yX4_ofAll.cls ≠ "java/lang/invoke/MethodHandle" ∧ yX4_ofAll.cls ≠ "java/lang/invoke/VarHandle" ∧ (parseMethodDescriptor yX4_ofAll.desc).map (fun d => d.parameters.length) = some 1 := by decide +kernel
set_option maxHeartbeats 400000 in
set_option maxRecDepth 100000 in
theorem c_X4_ofAll (Λ : Lk) (X : XS) (Y : YS) {p : Int32} {m : Nat} (hm0 : xh X 0 = nI m) (hm : m ≤ 6) : Con Λ yX4_ofAll wsX4_ofAll { frames := 4, cells := 0, slots := 0, locals := 90 } [rf Λ 197, .int p] (CC Λ X Y) (some (.int (allC X m p))) (CC Λ X Y) := by
  refine con_start (cc := cX4_ofAll) (maxL := 2) (ret := (some .int)) (by decide) rfl (Nat.le_of_ble_eq_true rfl) ?_
  intro κ hC hR
  have hC : Ok Λ { frames := 4, cells := 0, slots := 0, locals := 90 } cX4_ofAll wsX4_ofAll RX4 2 κ := hC
  refine v_args (lv' := [(0, rf Λ 197), (1, .int p)]) rfl ?_
  refine v_iload_n hC dX4_ofAll_0 1 rfl ?_
  refine v_if_ge (tgt := 7) hC dX4_ofAll_1 (by decide) (fun c1 => ?_) (fun c1 => ?_)
  · have c1' := Int32.not_lt.mpr c1
    refine v_aload_n hC dX4_ofAll_7 0 rfl ?_
    refine v_get (T := TX4) (N := 6) (v := rf Λ 185) hC 197 (nR_of (by decide)) (cc_197 Λ X Y) in_X4_ofAll_X4 rfl 0 (by decide) fl_X4_ofAll_10 rfl dX4_ofAll_8 ?_
    refine v_iload_n hC dX4_ofAll_11 1 rfl ?_
    refine v_callVr (v := .int (naO (hF X 0) m 32 0 p)) (C2 := CC Λ X Y) (As := [.int p]) (rest := []) hC 1 185 (c_X1_numberOfAll Λ X Y (h := 0) (by decide) (p := p) hm0 hm) (rb_h (h := 0) (by decide)) (cc_h Λ X Y (h := 0) (by decide)) rfl gX4_ofAll_X1_numberOfAll rfl rfl rfl hd_X1_numberOfAll ⟨by decide, by decide⟩ rfl rfl (Nat.le_of_ble_eq_true rfl) dX4_ofAll_12 ?_
    exact v_iret hC hR (congrArg (fun z : Int32 => some (Value.int z)) (by simp [allC, c1, c1'])) rfl dX4_ofAll_15
  · have c1' := Int32.not_le.mp c1
    refine v_bipush (v := (-2)) hC dX4_ofAll_4 (by decide) ?_
    exact v_iret hC hR (congrArg (fun z : Int32 => some (Value.int z)) (by simp [allC, c1, c1'])) rfl dX4_ofAll_6
theorem in_X4_most_X4 : ∀ w ∈ wsX40, w ∈ wsX4_most := by decide +kernel
theorem fl_X4_most_10 : Cond.fieldLink RX4 10 "BoatSets" "now" "LBoatSets$Harbour;" ∈ wsX4_most := by decide +kernel
theorem hd_X4_most : yX4_most.cls = RX4 ∧ yX4_most.cls ≠ "java/lang/invoke/MethodHandle" ∧ yX4_most.cls ≠ "java/lang/invoke/VarHandle" ∧ (parseMethodDescriptor yX4_most.desc).map (fun d => d.parameters.length) = some 0 := by decide +kernel
set_option maxHeartbeats 400000 in
set_option maxRecDepth 100000 in
theorem c_X4_most (Λ : Lk) (X : XS) (Y : YS) {m : Nat} (hm0 : xh X 0 = nI m) (hm : m ≤ 6) : Con Λ yX4_most wsX4_most { frames := 4, cells := 0, slots := 0, locals := 91 } [rf Λ 197] (CC Λ X Y) (some (.int (mhO (hF X 0) m 32 0 (-5) 0))) (CC Λ X Y) := by
  refine con_start (cc := cX4_most) (maxL := 1) (ret := (some .int)) (by decide) rfl (Nat.le_of_ble_eq_true rfl) ?_
  intro κ hC hR
  have hC : Ok Λ { frames := 4, cells := 0, slots := 0, locals := 91 } cX4_most wsX4_most RX4 1 κ := hC
  refine v_args (lv' := [(0, rf Λ 197)]) rfl ?_
  refine v_aload_n hC dX4_most_0 0 rfl ?_
  refine v_get (T := TX4) (N := 6) (v := rf Λ 185) hC 197 (nR_of (by decide)) (cc_197 Λ X Y) in_X4_most_X4 rfl 0 (by decide) fl_X4_most_10 rfl dX4_most_1 ?_
  refine v_callVr (v := .int (mhO (hF X 0) m 32 0 (-5) 0)) (C2 := CC Λ X Y) (As := []) (rest := []) hC 0 185 (c_X1_mostHeld Λ X Y (h := 0) (by decide) hm0 hm) (rb_h (h := 0) (by decide)) (cc_h Λ X Y (h := 0) (by decide)) rfl gX4_most_X1_mostHeld rfl rfl rfl hd_X1_mostHeld ⟨by decide, by decide⟩ rfl rfl (Nat.le_of_ble_eq_true rfl) dX4_most_4 ?_
  exact v_iret hC hR rfl rfl dX4_most_7
theorem in_X4_count_X4 : ∀ w ∈ wsX40, w ∈ wsX4_count := by decide +kernel
theorem fl_X4_count_10 : Cond.fieldLink RX4 10 "BoatSets" "now" "LBoatSets$Harbour;" ∈ wsX4_count := by decide +kernel
theorem in_X4_count_X1 : ∀ w ∈ wsX10, w ∈ wsX4_count := by decide +kernel
theorem fl_X4_count_44 : Cond.fieldLink RX4 44 "BoatSets$Harbour" "sets" "I" ∈ wsX4_count := by decide +kernel
theorem fl_X4_count_22 : Cond.fieldLink RX4 22 "BoatSets" "past" "LBoatSets$History;" ∈ wsX4_count := by decide +kernel
theorem in_X4_count_X2 : ∀ w ∈ wsX20, w ∈ wsX4_count := by decide +kernel
theorem fl_X4_count_133 : Cond.fieldLink RX4 133 "BoatSets$History" "size" "I" ∈ wsX4_count := by decide +kernel
theorem fl_X4_count_29 : Cond.fieldLink RX4 29 "BoatSets" "text" "LBoatSets$RangeText;" ∈ wsX4_count := by decide +kernel
theorem in_X4_count_X3 : ∀ w ∈ wsX30, w ∈ wsX4_count := by decide +kernel
theorem fl_X4_count_102 : Cond.fieldLink RX4 102 "BoatSets$RangeText" "length" "I" ∈ wsX4_count := by decide +kernel
theorem hd_X4_count : yX4_count.cls = RX4 ∧ yX4_count.cls ≠ "java/lang/invoke/MethodHandle" ∧ yX4_count.cls ≠ "java/lang/invoke/VarHandle" ∧ (parseMethodDescriptor yX4_count.desc).map (fun d => d.parameters.length) = some 1 := by decide +kernel
set_option maxHeartbeats 400000 in
set_option maxRecDepth 100000 in
theorem c_X4_count (Λ : Lk) (X : XS) (Y : YS) {v : Int32} {L : Nat} {t : Nat} {m : Nat} (hm0 : xh X 0 = nI m) (hm : m ≤ 6) (hp0 : xz X = nI t) (ht4 : t ≤ 4) (hl0 : xl X = nI L) (hl60 : L ≤ 60) : Con Λ yX4_count wsX4_count { frames := 3, cells := 0, slots := 0, locals := 66 } [rf Λ 197, .int v] (CC Λ X Y) (some (.int (cntC X m t L v))) (CC Λ X Y) := by
  refine con_start (cc := cX4_count) (maxL := 2) (ret := (some .int)) (by decide) rfl (Nat.le_of_ble_eq_true rfl) ?_
  intro κ hC hR
  have hC : Ok Λ { frames := 3, cells := 0, slots := 0, locals := 66 } cX4_count wsX4_count RX4 2 κ := hC
  refine v_args (lv' := [(0, rf Λ 197), (1, .int v)]) rfl ?_
  refine v_iload_n hC dX4_count_0 1 rfl ?_
  by_cases c1_0 : v = 0
  · refine v_topi c1_0 ?_
    refine v_tabIn (x := 0) (tgt := 60) hC dX4_count_1 (by decide) (by decide) rfl (by decide) ?_
    refine v_aload_n hC dX4_count_60 0 rfl ?_
    refine v_get (T := TX4) (N := 6) (v := rf Λ 185) hC 197 (nR_of (by decide)) (cc_197 Λ X Y) in_X4_count_X4 rfl 0 (by decide) fl_X4_count_10 rfl dX4_count_61 ?_
    refine v_get (T := TX1) (N := 2) (v := .int ((xh X) 0)) hC 185 (rb_h (h := 0) (by decide)) (cc_h Λ X Y (h := 0) (by decide)) in_X4_count_X1 rfl 1 (by decide) fl_X4_count_44 rfl dX4_count_64 ?_
    refine v_topi (y := nI m) hm0 ?_
    exact v_iret hC hR (congrArg (fun z : Int32 => some (Value.int z)) (by simp [cntC, c1_0])) rfl dX4_count_67
  by_cases c1_1 : v = 1
  · refine v_topi c1_1 ?_
    refine v_tabIn (x := 1) (tgt := 68) hC dX4_count_1 (by decide) (by decide) rfl (by decide) ?_
    refine v_aload_n hC dX4_count_68 0 rfl ?_
    refine v_get (T := TX4) (N := 6) (v := rf Λ 185) hC 197 (nR_of (by decide)) (cc_197 Λ X Y) in_X4_count_X4 rfl 0 (by decide) fl_X4_count_10 rfl dX4_count_69 ?_
    refine v_callVr (v := .int (sumI (fun j => bI (fa (hF X 0 j))) m)) (C2 := CC Λ X Y) (As := []) (rest := []) hC 0 185 (c_X1_setsAtSea Λ X Y (h := 0) (by decide) hm0 hm) (rb_h (h := 0) (by decide)) (cc_h Λ X Y (h := 0) (by decide)) rfl gX4_count_X1_setsAtSea rfl rfl rfl hd_X1_setsAtSea ⟨by decide, by decide⟩ rfl rfl (Nat.le_of_ble_eq_true rfl) dX4_count_72 ?_
    exact v_iret hC hR (congrArg (fun z : Int32 => some (Value.int z)) (by simp [cntC, c1_1])) rfl dX4_count_75
  by_cases c1_2 : v = 2
  · refine v_topi c1_2 ?_
    refine v_tabIn (x := 2) (tgt := 76) hC dX4_count_1 (by decide) (by decide) rfl (by decide) ?_
    refine v_aload_n hC dX4_count_76 0 rfl ?_
    refine v_get (T := TX4) (N := 6) (v := rf Λ 185) hC 197 (nR_of (by decide)) (cc_197 Λ X Y) in_X4_count_X4 rfl 0 (by decide) fl_X4_count_10 rfl dX4_count_77 ?_
    refine v_iconst (v := 0) hC dX4_count_80 (by decide) ?_
    refine v_callVr (v := .int (sumI (fun j => bkC (hF X 0 j) 0 8) m)) (C2 := CC Λ X Y) (As := [.int 0]) (rest := []) hC 1 185 (c_X1_boatsOfKind Λ X Y (h := 0) (by decide) (k := 0) hm0 hm) (rb_h (h := 0) (by decide)) (cc_h Λ X Y (h := 0) (by decide)) rfl gX4_count_X1_boatsOfKind rfl rfl rfl hd_X1_boatsOfKind ⟨by decide, by decide⟩ rfl rfl (Nat.le_of_ble_eq_true rfl) dX4_count_81 ?_
    exact v_iret hC hR (congrArg (fun z : Int32 => some (Value.int z)) (by simp [cntC, c1_2])) rfl dX4_count_84
  by_cases c1_3 : v = 3
  · refine v_topi c1_3 ?_
    refine v_tabIn (x := 3) (tgt := 85) hC dX4_count_1 (by decide) (by decide) rfl (by decide) ?_
    refine v_aload_n hC dX4_count_85 0 rfl ?_
    refine v_get (T := TX4) (N := 6) (v := rf Λ 185) hC 197 (nR_of (by decide)) (cc_197 Λ X Y) in_X4_count_X4 rfl 0 (by decide) fl_X4_count_10 rfl dX4_count_86 ?_
    refine v_iconst (v := 1) hC dX4_count_89 (by decide) ?_
    refine v_callVr (v := .int (sumI (fun j => bkC (hF X 0 j) 1 8) m)) (C2 := CC Λ X Y) (As := [.int 1]) (rest := []) hC 1 185 (c_X1_boatsOfKind Λ X Y (h := 0) (by decide) (k := 1) hm0 hm) (rb_h (h := 0) (by decide)) (cc_h Λ X Y (h := 0) (by decide)) rfl gX4_count_X1_boatsOfKind rfl rfl rfl hd_X1_boatsOfKind ⟨by decide, by decide⟩ rfl rfl (Nat.le_of_ble_eq_true rfl) dX4_count_90 ?_
    exact v_iret hC hR (congrArg (fun z : Int32 => some (Value.int z)) (by simp [cntC, c1_3])) rfl dX4_count_93
  by_cases c1_4 : v = 4
  · refine v_topi c1_4 ?_
    refine v_tabIn (x := 4) (tgt := 94) hC dX4_count_1 (by decide) (by decide) rfl (by decide) ?_
    refine v_aload_n hC dX4_count_94 0 rfl ?_
    refine v_get (T := TX4) (N := 6) (v := rf Λ 185) hC 197 (nR_of (by decide)) (cc_197 Λ X Y) in_X4_count_X4 rfl 0 (by decide) fl_X4_count_10 rfl dX4_count_95 ?_
    refine v_iconst (v := 2) hC dX4_count_98 (by decide) ?_
    refine v_callVr (v := .int (sumI (fun j => bkC (hF X 0 j) 2 8) m)) (C2 := CC Λ X Y) (As := [.int 2]) (rest := []) hC 1 185 (c_X1_boatsOfKind Λ X Y (h := 0) (by decide) (k := 2) hm0 hm) (rb_h (h := 0) (by decide)) (cc_h Λ X Y (h := 0) (by decide)) rfl gX4_count_X1_boatsOfKind rfl rfl rfl hd_X1_boatsOfKind ⟨by decide, by decide⟩ rfl rfl (Nat.le_of_ble_eq_true rfl) dX4_count_99 ?_
    exact v_iret hC hR (congrArg (fun z : Int32 => some (Value.int z)) (by simp [cntC, c1_4])) rfl dX4_count_102
  by_cases c1_5 : v = 5
  · refine v_topi c1_5 ?_
    refine v_tabIn (x := 5) (tgt := 103) hC dX4_count_1 (by decide) (by decide) rfl (by decide) ?_
    refine v_aload_n hC dX4_count_103 0 rfl ?_
    refine v_get (T := TX4) (N := 6) (v := rf Λ 185) hC 197 (nR_of (by decide)) (cc_197 Λ X Y) in_X4_count_X4 rfl 0 (by decide) fl_X4_count_10 rfl dX4_count_104 ?_
    refine v_callVr (v := .int (sumI (fun j => sumI (fun b => unitsC (hF X 0 j) b (fk (hF X 0 j) b)) 8) m)) (C2 := CC Λ X Y) (As := []) (rest := []) hC 0 185 (c_X1_units Λ X Y (h := 0) (by decide) hm0 hm) (rb_h (h := 0) (by decide)) (cc_h Λ X Y (h := 0) (by decide)) rfl gX4_count_X1_units rfl rfl rfl hd_X1_units ⟨by decide, by decide⟩ rfl rfl (Nat.le_of_ble_eq_true rfl) dX4_count_107 ?_
    exact v_iret hC hR (congrArg (fun z : Int32 => some (Value.int z)) (by simp [cntC, c1_5])) rfl dX4_count_110
  by_cases c1_6 : v = 6
  · refine v_topi c1_6 ?_
    refine v_tabIn (x := 6) (tgt := 111) hC dX4_count_1 (by decide) (by decide) rfl (by decide) ?_
    refine v_aload_n hC dX4_count_111 0 rfl ?_
    refine v_get (T := TX4) (N := 6) (v := rf Λ 185) hC 197 (nR_of (by decide)) (cc_197 Λ X Y) in_X4_count_X4 rfl 0 (by decide) fl_X4_count_10 rfl dX4_count_112 ?_
    refine v_callVr (v := .int (sumI (fun j => sumI (fs (hF X 0 j)) 8) m)) (C2 := CC Λ X Y) (As := []) (rest := []) hC 0 185 (c_X1_numbers Λ X Y (h := 0) (by decide) hm0 hm) (rb_h (h := 0) (by decide)) (cc_h Λ X Y (h := 0) (by decide)) rfl gX4_count_X1_numbers rfl rfl rfl hd_X1_numbers ⟨by decide, by decide⟩ rfl rfl (Nat.le_of_ble_eq_true rfl) dX4_count_115 ?_
    exact v_iret hC hR (congrArg (fun z : Int32 => some (Value.int z)) (by simp [cntC, c1_6])) rfl dX4_count_118
  by_cases c1_7 : v = 7
  · refine v_topi c1_7 ?_
    refine v_tabIn (x := 7) (tgt := 119) hC dX4_count_1 (by decide) (by decide) rfl (by decide) ?_
    refine v_aload_n hC dX4_count_119 0 rfl ?_
    refine v_get (T := TX4) (N := 6) (v := rf Λ 185) hC 197 (nR_of (by decide)) (cc_197 Λ X Y) in_X4_count_X4 rfl 0 (by decide) fl_X4_count_10 rfl dX4_count_120 ?_
    refine v_callVr (v := .int (nI (smN (fun v => pcN (orC (hF X 0) v m)) 32))) (C2 := CC Λ X Y) (As := []) (rest := []) hC 0 185 (c_X1_differentNumbers Λ X Y (h := 0) (by decide) hm0 hm) (rb_h (h := 0) (by decide)) (cc_h Λ X Y (h := 0) (by decide)) rfl gX4_count_X1_differentNumbers rfl rfl rfl hd_X1_differentNumbers ⟨by decide, by decide⟩ rfl rfl (Nat.le_of_ble_eq_true rfl) dX4_count_123 ?_
    exact v_iret hC hR (congrArg (fun z : Int32 => some (Value.int z)) (by simp [cntC, c1_7])) rfl dX4_count_126
  by_cases c1_8 : v = 8
  · refine v_topi c1_8 ?_
    refine v_tabIn (x := 8) (tgt := 127) hC dX4_count_1 (by decide) (by decide) rfl (by decide) ?_
    refine v_aload_n hC dX4_count_127 0 rfl ?_
    refine v_get (T := TX4) (N := 6) (v := rf Λ 185) hC 197 (nR_of (by decide)) (cc_197 Λ X Y) in_X4_count_X4 rfl 0 (by decide) fl_X4_count_10 rfl dX4_count_128 ?_
    refine v_callVr (v := .int (sumI (fun j => fd (hF X 0 j)) m)) (C2 := CC Λ X Y) (As := []) (rest := []) hC 0 185 (c_X1_tollsPaid Λ X Y (h := 0) (by decide) hm0 hm) (rb_h (h := 0) (by decide)) (cc_h Λ X Y (h := 0) (by decide)) rfl gX4_count_X1_tollsPaid rfl rfl rfl hd_X1_tollsPaid ⟨by decide, by decide⟩ rfl rfl (Nat.le_of_ble_eq_true rfl) dX4_count_131 ?_
    exact v_iret hC hR (congrArg (fun z : Int32 => some (Value.int z)) (by simp [cntC, c1_8])) rfl dX4_count_134
  by_cases c1_9 : v = 9
  · refine v_topi c1_9 ?_
    refine v_tabIn (x := 9) (tgt := 135) hC dX4_count_1 (by decide) (by decide) rfl (by decide) ?_
    refine v_aload_n hC dX4_count_135 0 rfl ?_
    refine v_get (T := TX4) (N := 6) (v := rf Λ 198) hC 197 (nR_of (by decide)) (cc_197 Λ X Y) in_X4_count_X4 rfl 2 (by decide) fl_X4_count_22 rfl dX4_count_136 ?_
    refine v_get (T := TX2) (N := 2) (v := .int (xz X)) hC 198 (nR_of (by decide)) (cc_198 Λ X Y) in_X4_count_X2 rfl 1 (by decide) fl_X4_count_133 rfl dX4_count_139 ?_
    refine v_topi (y := nI t) hp0 ?_
    exact v_iret hC hR (congrArg (fun z : Int32 => some (Value.int z)) (by simp [cntC, c1_9])) rfl dX4_count_142
  by_cases c1_10 : v = 10
  · refine v_topi c1_10 ?_
    refine v_tabIn (x := 10) (tgt := 143) hC dX4_count_1 (by decide) (by decide) rfl (by decide) ?_
    refine v_aload_n hC dX4_count_143 0 rfl ?_
    refine v_get (T := TX4) (N := 6) (v := rf Λ 200) hC 197 (nR_of (by decide)) (cc_197 Λ X Y) in_X4_count_X4 rfl 3 (by decide) fl_X4_count_29 rfl dX4_count_144 ?_
    refine v_get (T := TX3) (N := 5) (v := .int (xl X)) hC 200 (nR_of (by decide)) (cc_200 Λ X Y) in_X4_count_X3 rfl 3 (by decide) fl_X4_count_102 rfl dX4_count_147 ?_
    refine v_topi (y := nI L) hl0 ?_
    exact v_iret hC hR (congrArg (fun z : Int32 => some (Value.int z)) (by simp [cntC, c1_10])) rfl dX4_count_150
  refine v_tabOut (tgt := 151) hC dX4_count_1 (by have q0 := i32_ne (n := 0) c1_0 (by decide); have q1 := i32_ne (n := 1) c1_1 (by decide); have q2 := i32_ne (n := 2) c1_2 (by decide); have q3 := i32_ne (n := 3) c1_3 (by decide); have q4 := i32_ne (n := 4) c1_4 (by decide); have q5 := i32_ne (n := 5) c1_5 (by decide); have q6 := i32_ne (n := 6) c1_6 (by decide); have q7 := i32_ne (n := 7) c1_7 (by decide); have q8 := i32_ne (n := 8) c1_8 (by decide); have q9 := i32_ne (n := 9) c1_9 (by decide); have q10 := i32_ne (n := 10) c1_10 (by decide); omega) (by decide) ?_
  refine v_bipush (v := (-2)) hC dX4_count_151 (by decide) ?_
  exact v_iret hC hR (congrArg (fun z : Int32 => some (Value.int z)) (by simp [cntC, c1_0, c1_1, c1_2, c1_3, c1_4, c1_5, c1_6, c1_7, c1_8, c1_9, c1_10])) rfl dX4_count_153
