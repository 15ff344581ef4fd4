theorem in_X4_newSet_X4 : ∀ w ∈ wsX40, w ∈ wsX4_newSet := by decide +kernel
theorem fl_X4_newSet_10 : Cond.fieldLink RX4 10 "BoatSets" "now" "LBoatSets$Harbour;" ∈ wsX4_newSet := by decide +kernel
theorem in_X4_newSet_X1 : ∀ w ∈ wsX10, w ∈ wsX4_newSet := by decide +kernel
theorem fl_X4_newSet_44 : Cond.fieldLink RX4 44 "BoatSets$Harbour" "sets" "I" ∈ wsX4_newSet := by decide +kernel
theorem fl_X4_newSet_22 : Cond.fieldLink RX4 22 "BoatSets" "past" "LBoatSets$History;" ∈ wsX4_newSet := by decide +kernel
theorem hd_X4_newSet : yX4_newSet.cls = RX4 ∧ yX4_newSet.cls ≠ "java/lang/invoke/MethodHandle" ∧ yX4_newSet.cls ≠ "java/lang/invoke/VarHandle" ∧ (parseMethodDescriptor yX4_newSet.desc).map (fun d => d.parameters.length) = some 1 := by decide +kernel
set_option maxHeartbeats 400000 in
set_option maxRecDepth 100000 in
theorem c_X4_newSet (Λ : Lk) (X : XS) (Y : YS) {c : Int32} {t : Nat} {m : Nat} (hm0 : xh X 0 = nI m) (hm : m ≤ 6) (hp0 : xz X = nI t) (ht4 : t ≤ 4) (hq : ∀ j, xq X j < 4) : Con Λ yX4_newSet wsX4_newSet { frames := 4, cells := 0, slots := 0, locals := 104 } [rf Λ 197, .int c] (CC Λ X Y) (some (.int ((nsX X t m c).1))) (CC Λ ((nsX X t m c).2) Y) := by
  refine con_start (cc := cX4_newSet) (maxL := 2) (ret := (some .int)) (by decide) rfl (Nat.le_of_ble_eq_true rfl) ?_
  intro κ hC hR
  have hC : Ok Λ { frames := 4, cells := 0, slots := 0, locals := 104 } cX4_newSet wsX4_newSet RX4 2 κ := hC
  refine v_args (lv' := [(0, rf Λ 197), (1, .int c)]) rfl ?_
  refine v_iload_n hC dX4_newSet_0 1 rfl ?_
  refine v_if_lt (tgt := 11) hC dX4_newSet_1 (by decide) (fun c1 => ?_) (fun c1 => ?_)
  · have c1' := Int32.not_le.mpr c1
    refine v_bipush (v := (-2)) hC dX4_newSet_11 (by decide) ?_
    have e : nsX X t m c = ((-2), X) := by simp [nsX, c1, c1']
    exact v_iretX hC hR e dX4_newSet_13
  · have c1' := Int32.not_lt.mp c1
    refine v_iload_n hC dX4_newSet_4 1 rfl ?_
    refine v_sipush (v := 9999) hC dX4_newSet_5 (by decide) ?_
    refine v_icmp_le (x := c) (y := 9999) (tgt := 14) hC dX4_newSet_8 (by decide) (fun c8 => ?_) (fun c8 => ?_)
    · have c8' := Int32.not_lt.mpr c8
      refine v_aload_n hC dX4_newSet_14 0 rfl ?_
      refine v_get (T := TX4) (N := 6) (v := rf Λ 185) hC 197 (nR_of (by decide)) (cc_197 Λ X Y) in_X4_newSet_X4 rfl 0 (by decide) fl_X4_newSet_10 rfl dX4_newSet_15 ?_
      refine v_get (T := TX1) (N := 2) (v := .int ((xh X) 0)) hC 185 (rb_h (h := 0) (by decide)) (cc_h Λ X Y (h := 0) (by decide)) in_X4_newSet_X1 rfl 1 (by decide) fl_X4_newSet_44 rfl dX4_newSet_18 ?_
      refine v_topi (y := nI m) hm0 ?_
      refine v_bipush (v := 6) hC dX4_newSet_21 (by decide) ?_
      refine v_nlt (a := m) (b := 6) (tgt := 29) hC dX4_newSet_23 (by decide) rfl rfl (by omega) (by omega) (fun c23 => ?_) (fun c23 => ?_)
      · have c23' := Nat.not_le.mpr c23
        refine v_aload_n hC dX4_newSet_29 0 rfl ?_
        refine v_get (T := TX4) (N := 6) (v := rf Λ 198) hC 197 (nR_of (by decide)) (cc_197 Λ X Y) in_X4_newSet_X4 rfl 2 (by decide) fl_X4_newSet_22 rfl dX4_newSet_30 ?_
        refine v_aload_n hC dX4_newSet_33 0 rfl ?_
        refine v_get (T := TX4) (N := 6) (v := rf Λ 185) hC 197 (nR_of (by decide)) (cc_197 Λ X Y) in_X4_newSet_X4 rfl 0 (by decide) fl_X4_newSet_10 rfl dX4_newSet_34 ?_
        refine v_callVv (C2 := CC Λ (pushX X t m) Y) (As := [rf Λ 185]) (rest := []) hC 1 198 (c_X2_push Λ X Y (t := t) (m := m) hp0 (by omega) hq hm0 (by omega)) (nR_of (by decide)) (cc_198 Λ X Y) rfl gX4_newSet_X2_push rfl rfl rfl hd_X2_push ⟨by decide, by decide⟩ rfl rfl (Nat.le_of_ble_eq_true rfl) dX4_newSet_37 ?_
        refine v_aload_n hC dX4_newSet_40 0 rfl ?_
        refine v_get (T := TX4) (N := 6) (v := rf Λ 185) hC 197 (nR_of (by decide)) (cc_197 Λ (pushX X t m) Y) in_X4_newSet_X4 rfl 0 (by decide) fl_X4_newSet_10 rfl dX4_newSet_41 ?_
        refine v_iload_n hC dX4_newSet_44 1 rfl ?_
        refine v_callVr (v := .int (nI m)) (C2 := CC Λ (opH (pushX X t m) 0 m c) Y) (As := [.int c]) (rest := []) hC 1 185 (c_X1_open Λ (pushX X t m) Y (h := 0) (by decide) (c := c) ((push_h (by omega)).trans hm0) (by omega)) (rb_h (h := 0) (by decide)) (cc_h Λ (pushX X t m) Y (h := 0) (by decide)) rfl gX4_newSet_X1_open rfl rfl rfl hd_X1_open ⟨by decide, by decide⟩ rfl rfl (Nat.le_of_ble_eq_true rfl) dX4_newSet_45 ?_
        have e : nsX X t m c = (nI m, (opH (pushX X t m) 0 m c)) := by simp [nsX, c1, c1', c8, c8', c23, c23']
        exact v_iretX hC hR e dX4_newSet_48
      · have c23' := Nat.not_lt.mpr c23
        refine v_bipush (v := (-3)) hC dX4_newSet_26 (by decide) ?_
        have e : nsX X t m c = ((-3), X) := by simp [nsX, c1, c1', c8, c8', c23, c23']
        exact v_iretX hC hR e dX4_newSet_28
    · have c8' := Int32.not_le.mp c8
      refine v_bipush (v := (-2)) hC dX4_newSet_11 (by decide) ?_
      have e : nsX X t m c = ((-2), X) := by simp [nsX, c1, c1', c8, c8']
      exact v_iretX hC hR e dX4_newSet_13
theorem in_X4_pay_X4 : ∀ w ∈ wsX40, w ∈ wsX4_pay := by decide +kernel
theorem fl_X4_pay_10 : Cond.fieldLink RX4 10 "BoatSets" "now" "LBoatSets$Harbour;" ∈ wsX4_pay := by decide +kernel
theorem in_X4_pay_X1 : ∀ w ∈ wsX10, w ∈ wsX4_pay := by decide +kernel
theorem fl_X4_pay_60 : Cond.fieldLink RX4 60 "BoatSets$Harbour" "fleets" "[LBoatSets$Fleet;" ∈ wsX4_pay := by decide +kernel
theorem in_X4_pay_X0 : ∀ w ∈ wsX00, w ∈ wsX4_pay := by decide +kernel
theorem fl_X4_pay_64 : Cond.fieldLink RX4 64 "BoatSets$Fleet" "purse" "I" ∈ wsX4_pay := by decide +kernel
theorem fl_X4_pay_22 : Cond.fieldLink RX4 22 "BoatSets" "past" "LBoatSets$History;" ∈ wsX4_pay := by decide +kernel
theorem hd_X4_pay : yX4_pay.cls = RX4 ∧ yX4_pay.cls ≠ "java/lang/invoke/MethodHandle" ∧ yX4_pay.cls ≠ "java/lang/invoke/VarHandle" ∧ (parseMethodDescriptor yX4_pay.desc).map (fun d => d.parameters.length) = some 2 := by decide +kernel
set_option maxHeartbeats 400000 in
set_option maxRecDepth 100000 in
theorem c_X4_pay (Λ : Lk) (X : XS) (Y : YS) {s : Int32} {c : Int32} {t : Nat} {m : Nat} (hm0 : xh X 0 = nI m) (hm : m ≤ 6) (hp0 : xz X = nI t) (ht4 : t ≤ 4) (hq : ∀ j, xq X j < 4) : Con Λ yX4_pay wsX4_pay { frames := 4, cells := 0, slots := 0, locals := 104 } [rf Λ 197, .int s, .int c] (CC Λ X Y) (some (.int ((payX X t m s c).1))) (CC Λ ((payX X t m s c).2) Y) := by
  refine con_start (cc := cX4_pay) (maxL := 4) (ret := (some .int)) (by decide) rfl (Nat.le_of_ble_eq_true rfl) ?_
  intro κ hC hR
  have hC : Ok Λ { frames := 4, cells := 0, slots := 0, locals := 104 } cX4_pay wsX4_pay RX4 4 κ := hC
  refine v_args (lv' := [(0, rf Λ 197), (1, .int s), (2, .int c)]) rfl ?_
  refine v_aload_n hC dX4_pay_0 0 rfl ?_
  refine v_iload_n hC dX4_pay_1 1 rfl ?_
  refine v_callVr (v := .int (bI (isC m s))) (C2 := CC Λ X Y) (As := [.int s]) (rest := []) hC 1 197 (c_X4_isSet Λ X Y (s := s) hm0 hm) (nR_of (by decide)) (cc_197 Λ X Y) rfl gX4_pay_X4_isSet rfl rfl rfl hd_X4_isSet ⟨by decide, by decide⟩ rfl rfl (Nat.le_of_ble_eq_true rfl) dX4_pay_2 ?_
  refine v_bne (b := isC m s) (tgt := 10) hC dX4_pay_5 (by decide) (fun c5 => ?_) (fun c5 => ?_)
  · skip
    obtain ⟨k, hk, rfl⟩ := isC_of hm c5
    have hik : ix (nI k) = k := ix_nI (by omega)
    refine v_iload_n hC dX4_pay_10 2 rfl ?_
    refine v_iconst (v := 1) hC dX4_pay_11 (by decide) ?_
    refine v_icmp_lt (x := c) (y := 1) (tgt := 22) hC dX4_pay_12 (by decide) (fun c12 => ?_) (fun c12 => ?_)
    · have c12' := Int32.not_le.mpr c12
      refine v_bipush (v := (-2)) hC dX4_pay_22 (by decide) ?_
      have e : payX X t m (nI k) c = ((-2), X) := by simp [payX, c5, hik, c12, c12']
      exact v_iretX hC hR e dX4_pay_24
    · have c12' := Int32.not_lt.mp c12
      refine v_iload_n hC dX4_pay_15 2 rfl ?_
      refine v_sipush (v := 9999) hC dX4_pay_16 (by decide) ?_
      refine v_icmp_le (x := c) (y := 9999) (tgt := 25) hC dX4_pay_19 (by decide) (fun c19 => ?_) (fun c19 => ?_)
      · have c19' := Int32.not_lt.mpr c19
        refine v_aload_n hC dX4_pay_25 0 rfl ?_
        refine v_get (T := TX4) (N := 6) (v := rf Λ 185) hC 197 (nR_of (by decide)) (cc_197 Λ X Y) in_X4_pay_X4 rfl 0 (by decide) fl_X4_pay_10 rfl dX4_pay_26 ?_
        refine v_get (T := TX1) (N := 2) (v := rf Λ (186 + 2 * 0)) hC 185 (rb_h (h := 0) (by decide)) (cc_h Λ X Y (h := 0) (by decide)) in_X4_pay_X1 rfl 0 (by decide) fl_X4_pay_60 rfl dX4_pay_29 ?_
        refine v_iload_n hC dX4_pay_32 1 rfl ?_
        refine v_aald (Cn := "BoatSets$Fleet") (n := 6) (r2 := 5 * k) hC (186 + 2 * 0) (rb_hr (h := 0) (by decide)) 3 rfl (cc_hr Λ X Y (h := 0) (by decide)) k rfl (by omega) (by decide) (by simp) dX4_pay_33 ?_
        refine v_astore_n (lv' := [(3, rf Λ (5 * k)), (0, rf Λ 197), (1, .int (nI k)), (2, .int c)]) hC dX4_pay_34 (by decide) rfl ?_
        refine v_aload_n hC dX4_pay_35 0 rfl ?_
        refine v_get (T := TX0) (N := 7) (v := .int (fp (X.1 k))) hC (5 * k) (rb_f0 (by omega)) (cc_f0 Λ Y (by omega) rfl) in_X4_pay_X0 rfl 4 (by decide) fl_X4_pay_64 rfl dX4_pay_36 ?_
        refine v_iload_n hC dX4_pay_39 3 rfl ?_
        refine v_iadd (x := (fp (X.1 k))) (y := c) hC dX4_pay_40 ?_
        refine v_sipush (v := 9999) hC dX4_pay_41 (by decide) ?_
        refine v_icmp_le (x := (fp (X.1 k)) + c) (y := 9999) (tgt := 50) hC dX4_pay_44 (by decide) (fun c44 => ?_) (fun c44 => ?_)
        · have c44' := Int32.not_lt.mpr c44
          refine v_aload_n hC dX4_pay_50 1 rfl ?_
          refine v_get (T := TX4) (N := 6) (v := rf Λ 198) hC 197 (nR_of (by decide)) (cc_197 Λ X Y) in_X4_pay_X4 rfl 2 (by decide) fl_X4_pay_22 rfl dX4_pay_51 ?_
          refine v_aload_n hC dX4_pay_54 1 rfl ?_
          refine v_get (T := TX4) (N := 6) (v := rf Λ 185) hC 197 (nR_of (by decide)) (cc_197 Λ X Y) in_X4_pay_X4 rfl 0 (by decide) fl_X4_pay_10 rfl dX4_pay_55 ?_
          refine v_callVv (C2 := CC Λ (pushX X t m) Y) (As := [rf Λ 185]) (rest := []) hC 1 198 (c_X2_push Λ X Y (t := t) (m := m) hp0 (by omega) hq hm0 (by omega)) (nR_of (by decide)) (cc_198 Λ X Y) rfl gX4_pay_X2_push rfl rfl rfl hd_X2_push ⟨by decide, by decide⟩ rfl rfl (Nat.le_of_ble_eq_true rfl) dX4_pay_58 ?_
          refine v_mem (mem_X (xFi_self (i := k) (f := X.1 k) (push_f hq hm (by omega)))) ?_
          refine v_aload_n hC dX4_pay_61 0 rfl ?_
          refine v_dup hC dX4_pay_62 rfl ?_
          refine v_get (T := TX0) (N := 7) (v := .int (fp (X.1 k))) hC (5 * k) (rb_f0 (by omega)) (cc_f0 Λ Y (by omega) (xFi_at (pushX X t m) k (X.1 k))) in_X4_pay_X0 rfl 4 (by decide) fl_X4_pay_64 rfl dX4_pay_63 ?_
          refine v_iload_n hC dX4_pay_66 3 rfl ?_
          refine v_iadd (x := (fp (X.1 k))) (y := c) hC dX4_pay_67 ?_
          refine v_put (T := TX0) (N := 7) (v := .int ((fp (X.1 k)) + c)) (ty := .int) hC (5 * k) (rb_f0 (by omega)) (cc_f0 Λ Y (by omega) (xFi_at (pushX X t m) k (X.1 k))) in_X4_pay_X0 tyX0 tyX0_ok nmX0 rfl 4 (by decide) fl_X4_pay_64 rfl (by decide +kernel) rfl rfl (Nat.le_of_ble_eq_true rfl) dX4_pay_68 ?_
          refine v_mem (cs_fp Λ (pushX X t m) Y (X.1 k) ((fp (X.1 k)) + c) (by omega)) ?_
          refine v_aload_n hC dX4_pay_71 0 rfl ?_
          refine v_get (T := TX0) (N := 7) (v := .int (fp (fpS (X.1 k) ((fp (X.1 k)) + c)))) hC (5 * k) (rb_f0 (by omega)) (cc_f0 Λ Y (by omega) (xFi_at (pushX X t m) k (fpS (X.1 k) ((fp (X.1 k)) + c)))) in_X4_pay_X0 rfl 4 (by decide) fl_X4_pay_64 rfl dX4_pay_72 ?_
          have e : payX X t m (nI k) c = ((fp (fpS (X.1 k) ((fp (X.1 k)) + c))), (xFi (pushX X t m) k (fpS (X.1 k) ((fp (X.1 k)) + c)))) := by simp [payX, c5, hik, c12, c12', c19, c19', c44, c44']
          exact v_iretX hC hR e dX4_pay_75
        · have c44' := Int32.not_le.mp c44
          refine v_bipush (v := (-3)) hC dX4_pay_47 (by decide) ?_
          have e : payX X t m (nI k) c = ((-3), X) := by simp [payX, c5, hik, c12, c12', c19, c19', c44, c44']
          exact v_iretX hC hR e dX4_pay_49
      · have c19' := Int32.not_le.mp c19
        refine v_bipush (v := (-2)) hC dX4_pay_22 (by decide) ?_
        have e : payX X t m (nI k) c = ((-2), X) := by simp [payX, c5, hik, c12, c12', c19, c19']
        exact v_iretX hC hR e dX4_pay_24
  · skip
    refine v_iconst (v := (-1)) hC dX4_pay_8 (by decide) ?_
    have e : payX X t m s c = ((-1), X) := by simp [payX, c5]
    exact v_iretX hC hR e dX4_pay_9
theorem in_X4_sail_X4 : ∀ w ∈ wsX40, w ∈ wsX4_sail := by decide +kernel
theorem fl_X4_sail_10 : Cond.fieldLink RX4 10 "BoatSets" "now" "LBoatSets$Harbour;" ∈ wsX4_sail := by decide +kernel
theorem in_X4_sail_X1 : ∀ w ∈ wsX10, w ∈ wsX4_sail := by decide +kernel
theorem fl_X4_sail_60 : Cond.fieldLink RX4 60 "BoatSets$Harbour" "fleets" "[LBoatSets$Fleet;" ∈ wsX4_sail := by decide +kernel
theorem in_X4_sail_X0 : ∀ w ∈ wsX00, w ∈ wsX4_sail := by decide +kernel
theorem fl_X4_sail_67 : Cond.fieldLink RX4 67 "BoatSets$Fleet" "atSea" "Z" ∈ wsX4_sail := by decide +kernel
theorem fl_X4_sail_22 : Cond.fieldLink RX4 22 "BoatSets" "past" "LBoatSets$History;" ∈ wsX4_sail := by decide +kernel
theorem hd_X4_sail : yX4_sail.cls = RX4 ∧ yX4_sail.cls ≠ "java/lang/invoke/MethodHandle" ∧ yX4_sail.cls ≠ "java/lang/invoke/VarHandle" ∧ (parseMethodDescriptor yX4_sail.desc).map (fun d => d.parameters.length) = some 1 := by decide +kernel
set_option maxHeartbeats 400000 in
set_option maxRecDepth 100000 in
theorem c_X4_sail (Λ : Lk) (X : XS) (Y : YS) {s : Int32} {t : Nat} {m : Nat} (hm0 : xh X 0 = nI m) (hm : m ≤ 6) (hp0 : xz X = nI t) (ht4 : t ≤ 4) (hq : ∀ j, xq X j < 4) : Con Λ yX4_sail wsX4_sail { frames := 4, cells := 0, slots := 0, locals := 104 } [rf Λ 197, .int s] (CC Λ X Y) (some (.int ((sailX X t m s).1))) (CC Λ ((sailX X t m s).2) Y) := by
  refine con_start (cc := cX4_sail) (maxL := 3) (ret := (some .int)) (by decide) rfl (Nat.le_of_ble_eq_true rfl) ?_
  intro κ hC hR
  have hC : Ok Λ { frames := 4, cells := 0, slots := 0, locals := 104 } cX4_sail wsX4_sail RX4 3 κ := hC
  refine v_args (lv' := [(0, rf Λ 197), (1, .int s)]) rfl ?_
  refine v_aload_n hC dX4_sail_0 0 rfl ?_
  refine v_iload_n hC dX4_sail_1 1 rfl ?_
  refine v_callVr (v := .int (bI (isC m s))) (C2 := CC Λ X Y) (As := [.int s]) (rest := []) hC 1 197 (c_X4_isSet Λ X Y (s := s) hm0 hm) (nR_of (by decide)) (cc_197 Λ X Y) rfl gX4_sail_X4_isSet rfl rfl rfl hd_X4_isSet ⟨by decide, by decide⟩ rfl rfl (Nat.le_of_ble_eq_true rfl) dX4_sail_2 ?_
  refine v_bne (b := isC m s) (tgt := 10) hC dX4_sail_5 (by decide) (fun c5 => ?_) (fun c5 => ?_)
  · skip
    obtain ⟨k, hk, rfl⟩ := isC_of hm c5
    have hik : ix (nI k) = k := ix_nI (by omega)
    refine v_aload_n hC dX4_sail_10 0 rfl ?_
    refine v_get (T := TX4) (N := 6) (v := rf Λ 185) hC 197 (nR_of (by decide)) (cc_197 Λ X Y) in_X4_sail_X4 rfl 0 (by decide) fl_X4_sail_10 rfl dX4_sail_11 ?_
    refine v_get (T := TX1) (N := 2) (v := rf Λ (186 + 2 * 0)) hC 185 (rb_h (h := 0) (by decide)) (cc_h Λ X Y (h := 0) (by decide)) in_X4_sail_X1 rfl 0 (by decide) fl_X4_sail_60 rfl dX4_sail_14 ?_
    refine v_iload_n hC dX4_sail_17 1 rfl ?_
    refine v_aald (Cn := "BoatSets$Fleet") (n := 6) (r2 := 5 * k) hC (186 + 2 * 0) (rb_hr (h := 0) (by decide)) 3 rfl (cc_hr Λ X Y (h := 0) (by decide)) k rfl (by omega) (by decide) (by simp) dX4_sail_18 ?_
    refine v_astore_n (lv' := [(2, rf Λ (5 * k)), (0, rf Λ 197), (1, .int (nI k))]) hC dX4_sail_19 (by decide) rfl ?_
    refine v_aload_n hC dX4_sail_20 0 rfl ?_
    refine v_get (T := TX0) (N := 7) (v := .int (bI (fa (X.1 k)))) hC (5 * k) (rb_f0 (by omega)) (cc_f0 Λ Y (by omega) rfl) in_X4_sail_X0 rfl 6 (by decide) fl_X4_sail_67 rfl dX4_sail_21 ?_
    refine v_beq (b := (fa (X.1 k))) (tgt := 30) hC dX4_sail_24 (by decide) (fun c24 => ?_) (fun c24 => ?_)
    · skip
      refine v_aload_n hC dX4_sail_30 1 rfl ?_
      refine v_get (T := TX4) (N := 6) (v := rf Λ 198) hC 197 (nR_of (by decide)) (cc_197 Λ X Y) in_X4_sail_X4 rfl 2 (by decide) fl_X4_sail_22 rfl dX4_sail_31 ?_
      refine v_aload_n hC dX4_sail_34 1 rfl ?_
      refine v_get (T := TX4) (N := 6) (v := rf Λ 185) hC 197 (nR_of (by decide)) (cc_197 Λ X Y) in_X4_sail_X4 rfl 0 (by decide) fl_X4_sail_10 rfl dX4_sail_35 ?_
      refine v_callVv (C2 := CC Λ (pushX X t m) Y) (As := [rf Λ 185]) (rest := []) hC 1 198 (c_X2_push Λ X Y (t := t) (m := m) hp0 (by omega) hq hm0 (by omega)) (nR_of (by decide)) (cc_198 Λ X Y) rfl gX4_sail_X2_push rfl rfl rfl hd_X2_push ⟨by decide, by decide⟩ rfl rfl (Nat.le_of_ble_eq_true rfl) dX4_sail_38 ?_
      refine v_mem (mem_X (xFi_self (i := k) (f := X.1 k) (push_f hq hm (by omega)))) ?_
      refine v_aload_n hC dX4_sail_41 0 rfl ?_
      refine v_iconst (v := 1) hC dX4_sail_42 (by decide) ?_
      refine v_put (T := TX0) (N := 7) (v := .int 1) (ty := .boolean) hC (5 * k) (rb_f0 (by omega)) (cc_f0 Λ Y (by omega) (xFi_at (pushX X t m) k (X.1 k))) in_X4_sail_X0 tyX0 tyX0_ok nmX0 rfl 6 (by decide) fl_X4_sail_67 rfl (by decide +kernel) (by first | rfl | exact nar_b _) rfl (Nat.le_of_ble_eq_true rfl) dX4_sail_43 ?_
      refine v_mem (cs_fa Λ (pushX X t m) Y (X.1 k) true (by omega)) ?_
      refine v_aload_n hC dX4_sail_46 0 rfl ?_
      refine v_callVr (v := .int (bkC (faS (X.1 k) true) 0 8 + bkC (faS (X.1 k) true) 1 8 + bkC (faS (X.1 k) true) 2 8)) (C2 := CC Λ (xFi (pushX X t m) k (faS (X.1 k) true)) Y) (As := []) (rest := []) hC 0 (5 * k) (c_X0_boats Λ (xFi (pushX X t m) k (faS (X.1 k) true)) Y (i := k) (f := (faS (X.1 k) true)) (by omega) (xFi_at (pushX X t m) k (faS (X.1 k) true))) (rb_f0 (by omega)) (cc_f0 Λ Y (by omega) (xFi_at (pushX X t m) k (faS (X.1 k) true))) rfl gX4_sail_X0_boats rfl rfl rfl hd_X0_boats ⟨by decide, by decide⟩ rfl rfl (Nat.le_of_ble_eq_true rfl) dX4_sail_47 ?_
      have e : sailX X t m (nI k) = (bkC (faS (X.1 k) true) 0 8 + bkC (faS (X.1 k) true) 1 8 + bkC (faS (X.1 k) true) 2 8, (xFi (pushX X t m) k (faS (X.1 k) true))) := by simp [sailX, c5, hik, c24]
      exact v_iretX hC hR e dX4_sail_50
    · skip
      refine v_bipush (v := (-5)) hC dX4_sail_27 (by decide) ?_
      have e : sailX X t m (nI k) = ((-5), X) := by simp [sailX, c5, hik, c24]
      exact v_iretX hC hR e dX4_sail_29
  · skip
    refine v_iconst (v := (-1)) hC dX4_sail_8 (by decide) ?_
    have e : sailX X t m s = ((-1), X) := by simp [sailX, c5]
    exact v_iretX hC hR e dX4_sail_9
theorem in_X4_dock_X4 : ∀ w ∈ wsX40, w ∈ wsX4_dock := by decide +kernel
theorem fl_X4_dock_22 : Cond.fieldLink RX4 22 "BoatSets" "past" "LBoatSets$History;" ∈ wsX4_dock := by decide +kernel
theorem fl_X4_dock_10 : Cond.fieldLink RX4 10 "BoatSets" "now" "LBoatSets$Harbour;" ∈ wsX4_dock := by decide +kernel
theorem in_X4_dock_X1 : ∀ w ∈ wsX10, w ∈ wsX4_dock := by decide +kernel
theorem fl_X4_dock_60 : Cond.fieldLink RX4 60 "BoatSets$Harbour" "fleets" "[LBoatSets$Fleet;" ∈ wsX4_dock := by decide +kernel
theorem hd_X4_dock : yX4_dock.cls = RX4 ∧ yX4_dock.cls ≠ "java/lang/invoke/MethodHandle" ∧ yX4_dock.cls ≠ "java/lang/invoke/VarHandle" ∧ (parseMethodDescriptor yX4_dock.desc).map (fun d => d.parameters.length) = some 1 := by decide +kernel
set_option maxHeartbeats 400000 in
set_option maxRecDepth 100000 in
theorem c_X4_dock (Λ : Lk) (X : XS) (Y : YS) {s : Int32} {t : Nat} {m : Nat} (hm0 : xh X 0 = nI m) (hm : m ≤ 6) (hp0 : xz X = nI t) (ht4 : t ≤ 4) (hq : ∀ j, xq X j < 4) : Con Λ yX4_dock wsX4_dock { frames := 4, cells := 0, slots := 0, locals := 104 } [rf Λ 197, .int s] (CC Λ X Y) (some (.int ((dockX X t m s).1))) (CC Λ ((dockX X t m s).2) Y) := by
  refine con_start (cc := cX4_dock) (maxL := 2) (ret := (some .int)) (by decide) rfl (Nat.le_of_ble_eq_true rfl) ?_
  intro κ hC hR
  have hC : Ok Λ { frames := 4, cells := 0, slots := 0, locals := 104 } cX4_dock wsX4_dock RX4 2 κ := hC
  refine v_args (lv' := [(0, rf Λ 197), (1, .int s)]) rfl ?_
  refine v_aload_n hC dX4_dock_0 0 rfl ?_
  refine v_iload_n hC dX4_dock_1 1 rfl ?_
  refine v_callVr (v := .int (bI (isC m s))) (C2 := CC Λ X Y) (As := [.int s]) (rest := []) hC 1 197 (c_X4_isSet Λ X Y (s := s) hm0 hm) (nR_of (by decide)) (cc_197 Λ X Y) rfl gX4_dock_X4_isSet rfl rfl rfl hd_X4_isSet ⟨by decide, by decide⟩ rfl rfl (Nat.le_of_ble_eq_true rfl) dX4_dock_2 ?_
  refine v_bne (b := isC m s) (tgt := 10) hC dX4_dock_5 (by decide) (fun c5 => ?_) (fun c5 => ?_)
  · skip
    obtain ⟨k, hk, rfl⟩ := isC_of hm c5
    have hik : ix (nI k) = k := ix_nI (by omega)
    refine v_aload_n hC dX4_dock_10 0 rfl ?_
    refine v_get (T := TX4) (N := 6) (v := rf Λ 198) hC 197 (nR_of (by decide)) (cc_197 Λ X Y) in_X4_dock_X4 rfl 2 (by decide) fl_X4_dock_22 rfl dX4_dock_11 ?_
    refine v_aload_n hC dX4_dock_14 0 rfl ?_
    refine v_get (T := TX4) (N := 6) (v := rf Λ 185) hC 197 (nR_of (by decide)) (cc_197 Λ X Y) in_X4_dock_X4 rfl 0 (by decide) fl_X4_dock_10 rfl dX4_dock_15 ?_
    refine v_callVv (C2 := CC Λ (pushX X t m) Y) (As := [rf Λ 185]) (rest := []) hC 1 198 (c_X2_push Λ X Y (t := t) (m := m) hp0 (by omega) hq hm0 (by omega)) (nR_of (by decide)) (cc_198 Λ X Y) rfl gX4_dock_X2_push rfl rfl rfl hd_X2_push ⟨by decide, by decide⟩ rfl rfl (Nat.le_of_ble_eq_true rfl) dX4_dock_18 ?_
    refine v_aload_n hC dX4_dock_21 0 rfl ?_
    refine v_get (T := TX4) (N := 6) (v := rf Λ 185) hC 197 (nR_of (by decide)) (cc_197 Λ (pushX X t m) Y) in_X4_dock_X4 rfl 0 (by decide) fl_X4_dock_10 rfl dX4_dock_22 ?_
    refine v_get (T := TX1) (N := 2) (v := rf Λ (186 + 2 * 0)) hC 185 (rb_h (h := 0) (by decide)) (cc_h Λ (pushX X t m) Y (h := 0) (by decide)) in_X4_dock_X1 rfl 0 (by decide) fl_X4_dock_60 rfl dX4_dock_25 ?_
    refine v_iload_n hC dX4_dock_28 1 rfl ?_
    refine v_aald (Cn := "BoatSets$Fleet") (n := 6) (r2 := 5 * k) hC (186 + 2 * 0) (rb_hr (h := 0) (by decide)) 3 rfl (cc_hr Λ (pushX X t m) Y (h := 0) (by decide)) k rfl (by omega) (by decide) (by simp) dX4_dock_29 ?_
    refine v_callVr (v := .int ((ehF 8 (faS ((pushX X t m).1 k) false) 0 0).2)) (C2 := CC Λ (xFi (pushX X t m) k (ehF 8 (faS ((pushX X t m).1 k) false) 0 0).1) Y) (As := []) (rest := []) hC 0 (5 * k) (c_X0_enterHarbour Λ (pushX X t m) Y (i := k) (f := ((pushX X t m).1 k)) (by omega) rfl) (rb_f0 (by omega)) (cc_f0 Λ Y (by omega) rfl) rfl gX4_dock_X0_enterHarbour rfl rfl rfl hd_X0_enterHarbour ⟨by decide, by decide⟩ rfl rfl (Nat.le_of_ble_eq_true rfl) dX4_dock_30 ?_
    have e : dockX X t m (nI k) = ((ehF 8 (faS ((pushX X t m).1 k) false) 0 0).2, (xFi (pushX X t m) k (ehF 8 (faS ((pushX X t m).1 k) false) 0 0).1)) := by simp [dockX, c5, hik]
    exact v_iretX hC hR e dX4_dock_33
  · skip
    refine v_iconst (v := (-1)) hC dX4_dock_8 (by decide) ?_
    have e : dockX X t m s = ((-1), X) := by simp [dockX, c5]
    exact v_iretX hC hR e dX4_dock_9
theorem in_X4_settleTrial_X4 : ∀ w ∈ wsX40, w ∈ wsX4_settleTrial := by decide +kernel
theorem fl_X4_settleTrial_22 : Cond.fieldLink RX4 22 "BoatSets" "past" "LBoatSets$History;" ∈ wsX4_settleTrial := by decide +kernel
theorem fl_X4_settleTrial_10 : Cond.fieldLink RX4 10 "BoatSets" "now" "LBoatSets$Harbour;" ∈ wsX4_settleTrial := by decide +kernel
theorem in_X4_settleTrial_X1 : ∀ w ∈ wsX10, w ∈ wsX4_settleTrial := by decide +kernel
theorem fl_X4_settleTrial_60 : Cond.fieldLink RX4 60 "BoatSets$Harbour" "fleets" "[LBoatSets$Fleet;" ∈ wsX4_settleTrial := by decide +kernel
theorem fl_X4_settleTrial_36 : Cond.fieldLink RX4 36 "BoatSets" "trial" "LBoatSets$Fleet;" ∈ wsX4_settleTrial := by decide +kernel
theorem hd_X4_settleTrial : yX4_settleTrial.cls = RX4 ∧ yX4_settleTrial.cls ≠ "java/lang/invoke/MethodHandle" ∧ yX4_settleTrial.cls ≠ "java/lang/invoke/VarHandle" ∧ (parseMethodDescriptor yX4_settleTrial.desc).map (fun d => d.parameters.length) = some 2 := by decide +kernel
set_option maxHeartbeats 400000 in
set_option maxRecDepth 100000 in
theorem c_X4_settleTrial (Λ : Lk) (X : XS) (Y : YS) {k : Nat} {v : Int32} {t : Nat} {m : Nat} (hm0 : xh X 0 = nI m) (hm : m ≤ 6) (hp0 : xz X = nI t) (ht4 : t ≤ 4) (hq : ∀ j, xq X j < 4) (hk : k < m) : Con Λ yX4_settleTrial wsX4_settleTrial { frames := 4, cells := 0, slots := 0, locals := 104 } [rf Λ 197, .int (nI k), .int v] (CC Λ X Y) (some (.int ((stX X t m k v).1))) (CC Λ ((stX X t m k v).2) Y) := by
  refine con_start (cc := cX4_settleTrial) (maxL := 3) (ret := (some .int)) (by decide) rfl (Nat.le_of_ble_eq_true rfl) ?_
  intro κ hC hR
  have hC : Ok Λ { frames := 4, cells := 0, slots := 0, locals := 104 } cX4_settleTrial wsX4_settleTrial RX4 3 κ := hC
  refine v_args (lv' := [(0, rf Λ 197), (1, .int (nI k)), (2, .int v)]) rfl ?_
  refine v_iload_n hC dX4_settleTrial_0 2 rfl ?_
  refine v_if_ge (tgt := 6) hC dX4_settleTrial_1 (by decide) (fun c1 => ?_) (fun c1 => ?_)
  · have c1' := Int32.not_lt.mpr c1
    refine v_iload_n hC dX4_settleTrial_6 2 rfl ?_
    refine v_if_ne (tgt := 13) hC dX4_settleTrial_7 (by decide) (fun c7 => ?_) (fun c7 => ?_)
    · skip
      refine v_aload_n hC dX4_settleTrial_13 0 rfl ?_
      refine v_get (T := TX4) (N := 6) (v := rf Λ 198) hC 197 (nR_of (by decide)) (cc_197 Λ X Y) in_X4_settleTrial_X4 rfl 2 (by decide) fl_X4_settleTrial_22 rfl dX4_settleTrial_14 ?_
      refine v_aload_n hC dX4_settleTrial_17 0 rfl ?_
      refine v_get (T := TX4) (N := 6) (v := rf Λ 185) hC 197 (nR_of (by decide)) (cc_197 Λ X Y) in_X4_settleTrial_X4 rfl 0 (by decide) fl_X4_settleTrial_10 rfl dX4_settleTrial_18 ?_
      refine v_callVv (C2 := CC Λ (pushX X t m) Y) (As := [rf Λ 185]) (rest := []) hC 1 198 (c_X2_push Λ X Y (t := t) (m := m) hp0 (by omega) hq hm0 (by omega)) (nR_of (by decide)) (cc_198 Λ X Y) rfl gX4_settleTrial_X2_push rfl rfl rfl hd_X2_push ⟨by decide, by decide⟩ rfl rfl (Nat.le_of_ble_eq_true rfl) dX4_settleTrial_21 ?_
      refine v_aload_n hC dX4_settleTrial_24 0 rfl ?_
      refine v_get (T := TX4) (N := 6) (v := rf Λ 185) hC 197 (nR_of (by decide)) (cc_197 Λ (pushX X t m) Y) in_X4_settleTrial_X4 rfl 0 (by decide) fl_X4_settleTrial_10 rfl dX4_settleTrial_25 ?_
      refine v_get (T := TX1) (N := 2) (v := rf Λ (186 + 2 * 0)) hC 185 (rb_h (h := 0) (by decide)) (cc_h Λ (pushX X t m) Y (h := 0) (by decide)) in_X4_settleTrial_X1 rfl 0 (by decide) fl_X4_settleTrial_60 rfl dX4_settleTrial_28 ?_
      refine v_iload_n hC dX4_settleTrial_31 1 rfl ?_
      refine v_aald (Cn := "BoatSets$Fleet") (n := 6) (r2 := 5 * k) hC (186 + 2 * 0) (rb_hr (h := 0) (by decide)) 3 rfl (cc_hr Λ (pushX X t m) Y (h := 0) (by decide)) k rfl (by omega) (by decide) (by simp) dX4_settleTrial_32 ?_
      refine v_aload_n hC dX4_settleTrial_33 0 rfl ?_
      refine v_get (T := TX4) (N := 6) (v := rf Λ 180) hC 197 (nR_of (by decide)) (cc_197 Λ (pushX X t m) Y) in_X4_settleTrial_X4 rfl 4 (by decide) fl_X4_settleTrial_36 rfl dX4_settleTrial_34 ?_
      refine v_callVv (C2 := CC Λ (xFi (pushX X t m) k (cpF ((pushX X t m).1 36) ((pushX X t m).1 k))) Y) (As := [rf Λ 180]) (rest := []) hC 1 (5 * k) (c_X0_copyFrom Λ (pushX X t m) Y (i := k) (f := ((pushX X t m).1 k)) (by omega) rfl (io := 36) (fo := ((pushX X t m).1 36)) (by decide) rfl (by omega)) (rb_f0 (by omega)) (cc_f0 Λ Y (by omega) rfl) rfl gX4_settleTrial_X0_copyFrom rfl rfl rfl hd_X0_copyFrom ⟨by decide, by decide⟩ rfl rfl (Nat.le_of_ble_eq_true rfl) dX4_settleTrial_37 ?_
      refine v_iload_n hC dX4_settleTrial_40 2 rfl ?_
      have e : stX X t m k v = (v, (xFi (pushX X t m) k (cpF ((pushX X t m).1 36) ((pushX X t m).1 k)))) := by simp [stX, c1, c1', c7]
      exact v_iretX hC hR e dX4_settleTrial_41
    · skip
      refine v_bipush (v := (-5)) hC dX4_settleTrial_10 (by decide) ?_
      have e : stX X t m k v = ((-5), X) := by simp [stX, c1, c1', c7]
      exact v_iretX hC hR e dX4_settleTrial_12
  · have c1' := Int32.not_le.mp c1
    refine v_iload_n hC dX4_settleTrial_4 2 rfl ?_
    have e : stX X t m k v = (v, X) := by simp [stX, c1, c1']
    exact v_iretX hC hR e dX4_settleTrial_5
theorem in_X4_moveRange_X4 : ∀ w ∈ wsX40, w ∈ wsX4_moveRange := by decide +kernel
theorem fl_X4_moveRange_36 : Cond.fieldLink RX4 36 "BoatSets" "trial" "LBoatSets$Fleet;" ∈ wsX4_moveRange := by decide +kernel
theorem fl_X4_moveRange_10 : Cond.fieldLink RX4 10 "BoatSets" "now" "LBoatSets$Harbour;" ∈ wsX4_moveRange := by decide +kernel
theorem in_X4_moveRange_X1 : ∀ w ∈ wsX10, w ∈ wsX4_moveRange := by decide +kernel
theorem fl_X4_moveRange_60 : Cond.fieldLink RX4 60 "BoatSets$Harbour" "fleets" "[LBoatSets$Fleet;" ∈ wsX4_moveRange := by decide +kernel
theorem hd_X4_moveRange : yX4_moveRange.cls = RX4 ∧ yX4_moveRange.cls ≠ "java/lang/invoke/MethodHandle" ∧ yX4_moveRange.cls ≠ "java/lang/invoke/VarHandle" ∧ (parseMethodDescriptor yX4_moveRange.desc).map (fun d => d.parameters.length) = some 4 := by decide +kernel
set_option maxHeartbeats 400000 in
set_option maxRecDepth 100000 in
theorem c_X4_moveRange (Λ : Lk) (X : XS) (Y : YS) {s : Int32} {u : Int32} {v : Int32} {cm : Bool} {t : Nat} {m : Nat} (hm0 : xh X 0 = nI m) (hm : m ≤ 6) (hp0 : xz X = nI t) (ht4 : t ≤ 4) (hq : ∀ j, xq X j < 4) : Con Λ yX4_moveRange wsX4_moveRange { frames := 5, cells := 0, slots := 0, locals := 126 } [rf Λ 197, .int s, .int u, .int v, .int (bI cm)] (CC Λ X Y) (some (.int ((mrX X t m s u v cm).1))) (CC Λ ((mrX X t m s u v cm).2) Y) := by
  refine con_start (cc := cX4_moveRange) (maxL := 5) (ret := (some .int)) (by decide) rfl (Nat.le_of_ble_eq_true rfl) ?_
  intro κ hC hR
  have hC : Ok Λ { frames := 5, cells := 0, slots := 0, locals := 126 } cX4_moveRange wsX4_moveRange RX4 5 κ := hC
  refine v_args (lv' := [(0, rf Λ 197), (1, .int s), (2, .int u), (3, .int v), (4, .int (bI cm))]) rfl ?_
  refine v_aload_n hC dX4_moveRange_0 0 rfl ?_
  refine v_iload_n hC dX4_moveRange_1 1 rfl ?_
  refine v_callVr (v := .int (bI (isC m s))) (C2 := CC Λ X Y) (As := [.int s]) (rest := []) hC 1 197 (c_X4_isSet Λ X Y (s := s) hm0 hm) (nR_of (by decide)) (cc_197 Λ X Y) rfl gX4_moveRange_X4_isSet rfl rfl rfl hd_X4_isSet ⟨by decide, by decide⟩ rfl rfl (Nat.le_of_ble_eq_true rfl) dX4_moveRange_2 ?_
  refine v_bne (b := isC m s) (tgt := 10) hC dX4_moveRange_5 (by decide) (fun c5 => ?_) (fun c5 => ?_)
  · skip
    obtain ⟨k, hk, rfl⟩ := isC_of hm c5
    have hik : ix (nI k) = k := ix_nI (by omega)
    refine v_iload_n hC dX4_moveRange_10 2 rfl ?_
    refine v_callSr (v := .int (bI (inB u 0 2047))) (C2 := CC Λ X Y) (As := [.int u]) (rest := []) hC 1 (c_X4_isNumber Λ X Y (v := u)) gX4_moveRange_X4_isNumber rfl rfl rfl hd_X4_isNumber ⟨by decide, by decide⟩ rfl rfl (Nat.le_of_ble_eq_true rfl) dX4_moveRange_11 ?_
    refine v_beq (b := inB u 0 2047) (tgt := 29) hC dX4_moveRange_14 (by decide) (fun c14 => ?_) (fun c14 => ?_)
    · skip
      refine v_bipush (v := (-2)) hC dX4_moveRange_29 (by decide) ?_
      have e : mrX X t m (nI k) u v cm = ((-2), X) := by simp [mrX, c5, hik, c14]
      exact v_iretX hC hR e dX4_moveRange_31
    · skip
      refine v_iload_n hC dX4_moveRange_17 3 rfl ?_
      refine v_callSr (v := .int (bI (inB v 0 2047))) (C2 := CC Λ X Y) (As := [.int v]) (rest := []) hC 1 (c_X4_isNumber Λ X Y (v := v)) gX4_moveRange_X4_isNumber rfl rfl rfl hd_X4_isNumber ⟨by decide, by decide⟩ rfl rfl (Nat.le_of_ble_eq_true rfl) dX4_moveRange_18 ?_
      refine v_beq (b := inB v 0 2047) (tgt := 29) hC dX4_moveRange_21 (by decide) (fun c21 => ?_) (fun c21 => ?_)
      · skip
        refine v_bipush (v := (-2)) hC dX4_moveRange_29 (by decide) ?_
        have e : mrX X t m (nI k) u v cm = ((-2), X) := by simp [mrX, c5, hik, c14, c21]
        exact v_iretX hC hR e dX4_moveRange_31
      · skip
        refine v_iload_n hC dX4_moveRange_24 3 rfl ?_
        refine v_iload_n hC dX4_moveRange_25 2 rfl ?_
        refine v_icmp_ge (x := v) (y := u) (tgt := 32) hC dX4_moveRange_26 (by decide) (fun c26 => ?_) (fun c26 => ?_)
        · have c26' := Int32.not_lt.mpr c26
          obtain ⟨a, ha, rfl⟩ := isN_of c14
          obtain ⟨b, hb, rfl⟩ := isN_of c21
          have hia : ix (nI a) = a := ix_nI (by omega)
          have hib : ix (nI b) = b := ix_nI (by omega)
          refine v_aload_n hC dX4_moveRange_32 0 rfl ?_
          refine v_get (T := TX4) (N := 6) (v := rf Λ 180) hC 197 (nR_of (by decide)) (cc_197 Λ X Y) in_X4_moveRange_X4 rfl 4 (by decide) fl_X4_moveRange_36 rfl dX4_moveRange_33 ?_
          refine v_aload_n hC dX4_moveRange_36 0 rfl ?_
          refine v_get (T := TX4) (N := 6) (v := rf Λ 185) hC 197 (nR_of (by decide)) (cc_197 Λ X Y) in_X4_moveRange_X4 rfl 0 (by decide) fl_X4_moveRange_10 rfl dX4_moveRange_37 ?_
          refine v_get (T := TX1) (N := 2) (v := rf Λ (186 + 2 * 0)) hC 185 (rb_h (h := 0) (by decide)) (cc_h Λ X Y (h := 0) (by decide)) in_X4_moveRange_X1 rfl 0 (by decide) fl_X4_moveRange_60 rfl dX4_moveRange_40 ?_
          refine v_iload_n hC dX4_moveRange_43 1 rfl ?_
          refine v_aald (Cn := "BoatSets$Fleet") (n := 6) (r2 := 5 * k) hC (186 + 2 * 0) (rb_hr (h := 0) (by decide)) 3 rfl (cc_hr Λ X Y (h := 0) (by decide)) k rfl (by omega) (by decide) (by simp) dX4_moveRange_44 ?_
          refine v_callVv (C2 := CC Λ (xFi X 36 (cpF (X.1 k) (X.1 36))) Y) (As := [rf Λ (5 * k)]) (rest := []) hC 1 180 (c_X0_copyFrom Λ X Y (i := 36) (f := (X.1 36)) (by decide) rfl (io := k) (fo := (X.1 k)) (by omega) rfl (by omega)) (rb_f0 (i := 36) (by decide)) (cc_f0 Λ Y (i := 36) (by decide) rfl) rfl gX4_moveRange_X0_copyFrom rfl rfl rfl hd_X0_copyFrom ⟨by decide, by decide⟩ rfl rfl (Nat.le_of_ble_eq_true rfl) dX4_moveRange_45 ?_
          refine v_aload_n hC dX4_moveRange_48 0 rfl ?_
          refine v_iload_n hC dX4_moveRange_49 1 rfl ?_
          refine v_aload_n hC dX4_moveRange_50 0 rfl ?_
          refine v_get (T := TX4) (N := 6) (v := rf Λ 180) hC 197 (nR_of (by decide)) (cc_197 Λ (xFi X 36 (cpF (X.1 k) (X.1 36))) Y) in_X4_moveRange_X4 rfl 4 (by decide) fl_X4_moveRange_36 rfl dX4_moveRange_51 ?_
          refine v_iload_n hC dX4_moveRange_54 2 rfl ?_
          refine v_iload_n hC dX4_moveRange_55 3 rfl ?_
          refine v_iload hC dX4_moveRange_56 4 rfl ?_
          refine v_callVr (v := .int ((mvF cm (b + 1 - a) a 0 (cpF (X.1 k) (X.1 36))).2)) (C2 := CC Λ (xFi (xFi X 36 (cpF (X.1 k) (X.1 36))) 36 (mvF cm (b + 1 - a) a 0 (cpF (X.1 k) (X.1 36))).1) Y) (As := [.int (nI a), .int (nI b), .int (bI cm)]) (rest := [.int (nI k), rf Λ 197]) hC 3 180 (c_X0_move Λ (xFi X 36 (cpF (X.1 k) (X.1 36))) Y (i := 36) (f := (cpF (X.1 k) (X.1 36))) (by decide) (xFi_at X 36 (cpF (X.1 k) (X.1 36))) (u := a) (v := b) (cm := cm) (by omega) (by omega)) (rb_f0 (i := 36) (by decide)) (cc_f0 Λ Y (i := 36) (by decide) (xFi_at X 36 (cpF (X.1 k) (X.1 36)))) rfl gX4_moveRange_X0_move rfl rfl rfl hd_X0_move ⟨by decide, by decide⟩ rfl rfl (Nat.le_of_ble_eq_true rfl) dX4_moveRange_58 ?_
          refine v_callVr (v := .int ((stX (xFi (xFi X 36 (cpF (X.1 k) (X.1 36))) 36 (mvF cm (b + 1 - a) a 0 (cpF (X.1 k) (X.1 36))).1) t m k ((mvF cm (b + 1 - a) a 0 (cpF (X.1 k) (X.1 36))).2)).1)) (C2 := CC Λ ((stX (xFi (xFi X 36 (cpF (X.1 k) (X.1 36))) 36 (mvF cm (b + 1 - a) a 0 (cpF (X.1 k) (X.1 36))).1) t m k ((mvF cm (b + 1 - a) a 0 (cpF (X.1 k) (X.1 36))).2)).2) Y) (As := [.int (nI k), .int ((mvF cm (b + 1 - a) a 0 (cpF (X.1 k) (X.1 36))).2)]) (rest := []) hC 2 197 (c_X4_settleTrial Λ (xFi (xFi X 36 (cpF (X.1 k) (X.1 36))) 36 (mvF cm (b + 1 - a) a 0 (cpF (X.1 k) (X.1 36))).1) Y (k := k) (v := (mvF cm (b + 1 - a) a 0 (cpF (X.1 k) (X.1 36))).2) (t := t) hm0 hm hp0 (by omega) hq (by omega)) (nR_of (by decide)) (cc_197 Λ (xFi (xFi X 36 (cpF (X.1 k) (X.1 36))) 36 (mvF cm (b + 1 - a) a 0 (cpF (X.1 k) (X.1 36))).1) Y) rfl gX4_moveRange_X4_settleTrial rfl rfl rfl hd_X4_settleTrial ⟨by decide, by decide⟩ rfl rfl (Nat.le_of_ble_eq_true rfl) dX4_moveRange_61 ?_
          have e : mrX X t m (nI k) (nI a) (nI b) cm = ((stX (xFi (xFi X 36 (cpF (X.1 k) (X.1 36))) 36 (mvF cm (b + 1 - a) a 0 (cpF (X.1 k) (X.1 36))).1) t m k ((mvF cm (b + 1 - a) a 0 (cpF (X.1 k) (X.1 36))).2)).1, (stX (xFi (xFi X 36 (cpF (X.1 k) (X.1 36))) 36 (mvF cm (b + 1 - a) a 0 (cpF (X.1 k) (X.1 36))).1) t m k ((mvF cm (b + 1 - a) a 0 (cpF (X.1 k) (X.1 36))).2)).2) := by simp [mrX, mvX, mvR, c5, hik, c14, c21, c26, c26', hia, hib]
          exact v_iretX hC hR e dX4_moveRange_64
        · have c26' := Int32.not_le.mp c26
          refine v_bipush (v := (-2)) hC dX4_moveRange_29 (by decide) ?_
          have e : mrX X t m (nI k) u v cm = ((-2), X) := by simp [mrX, c5, hik, c14, c21, c26, c26']
          exact v_iretX hC hR e dX4_moveRange_31
  · skip
    refine v_iconst (v := (-1)) hC dX4_moveRange_8 (by decide) ?_
    have e : mrX X t m s u v cm = ((-1), X) := by simp [mrX, c5]
    exact v_iretX hC hR e dX4_moveRange_9
theorem hd_X4_addRange : yX4_addRange.cls = RX4 ∧ yX4_addRange.cls ≠ "java/lang/invoke/MethodHandle" ∧ yX4_addRange.cls ≠ "java/lang/invoke/VarHandle" ∧ (parseMethodDescriptor yX4_addRange.desc).map (fun d => d.parameters.length) = some 3 := by decide +kernel
set_option maxHeartbeats 400000 in
set_option maxRecDepth 100000 in
theorem c_X4_addRange (Λ : Lk) (X : XS) (Y : YS) {s : Int32} {u : Int32} {v : Int32} {t : Nat} {m : Nat} (hm0 : xh X 0 = nI m) (hm : m ≤ 6) (hp0 : xz X = nI t) (ht4 : t ≤ 4) (hq : ∀ j, xq X j < 4) : Con Λ yX4_addRange wsX4_addRange { frames := 6, cells := 0, slots := 0, locals := 150 } [rf Λ 197, .int s, .int u, .int v] (CC Λ X Y) (some (.int ((mrX X t m s u v true).1))) (CC Λ ((mrX X t m s u v true).2) Y) := by
  refine con_start (cc := cX4_addRange) (maxL := 4) (ret := (some .int)) (by decide) rfl (Nat.le_of_ble_eq_true rfl) ?_
  intro κ hC hR
  have hC : Ok Λ { frames := 6, cells := 0, slots := 0, locals := 150 } cX4_addRange wsX4_addRange RX4 4 κ := hC
  refine v_args (lv' := [(0, rf Λ 197), (1, .int s), (2, .int u), (3, .int v)]) rfl ?_
  refine v_aload_n hC dX4_addRange_0 0 rfl ?_
  refine v_iload_n hC dX4_addRange_1 1 rfl ?_
  refine v_iload_n hC dX4_addRange_2 2 rfl ?_
  refine v_iload_n hC dX4_addRange_3 3 rfl ?_
  refine v_iconst (v := 1) hC dX4_addRange_4 (by decide) ?_
  refine v_callVr (v := .int ((mrX X t m s u v true).1)) (C2 := CC Λ ((mrX X t m s u v true).2) Y) (As := [.int s, .int u, .int v, .int 1]) (rest := []) hC 4 197 (c_X4_moveRange Λ X Y (s := s) (u := u) (v := v) (cm := true) (t := t) hm0 hm hp0 (by omega) hq) (nR_of (by decide)) (cc_197 Λ X Y) rfl gX4_addRange_X4_moveRange rfl rfl rfl hd_X4_moveRange ⟨by decide, by decide⟩ rfl rfl (Nat.le_of_ble_eq_true rfl) dX4_addRange_5 ?_
  exact v_iret hC hR rfl rfl dX4_addRange_8
theorem hd_X4_removeRange : yX4_removeRange.cls = RX4 ∧ yX4_removeRange.cls ≠ "java/lang/invoke/MethodHandle" ∧ yX4_removeRange.cls ≠ "java/lang/invoke/VarHandle" ∧ (parseMethodDescriptor yX4_removeRange.desc).map (fun d => d.parameters.length) = some 3 := by decide +kernel
set_option maxHeartbeats 400000 in
set_option maxRecDepth 100000 in
theorem c_X4_removeRange (Λ : Lk) (X : XS) (Y : YS) {s : Int32} {u : Int32} {v : Int32} {t : Nat} {m : Nat} (hm0 : xh X 0 = nI m) (hm : m ≤ 6) (hp0 : xz X = nI t) (ht4 : t ≤ 4) (hq : ∀ j, xq X j < 4) : Con Λ yX4_removeRange wsX4_removeRange { frames := 6, cells := 0, slots := 0, locals := 150 } [rf Λ 197, .int s, .int u, .int v] (CC Λ X Y) (some (.int ((mrX X t m s u v false).1))) (CC Λ ((mrX X t m s u v false).2) Y) := by
  refine con_start (cc := cX4_removeRange) (maxL := 4) (ret := (some .int)) (by decide) rfl (Nat.le_of_ble_eq_true rfl) ?_
  intro κ hC hR
  have hC : Ok Λ { frames := 6, cells := 0, slots := 0, locals := 150 } cX4_removeRange wsX4_removeRange RX4 4 κ := hC
  refine v_args (lv' := [(0, rf Λ 197), (1, .int s), (2, .int u), (3, .int v)]) rfl ?_
  refine v_aload_n hC dX4_removeRange_0 0 rfl ?_
  refine v_iload_n hC dX4_removeRange_1 1 rfl ?_
  refine v_iload_n hC dX4_removeRange_2 2 rfl ?_
  refine v_iload_n hC dX4_removeRange_3 3 rfl ?_
  refine v_iconst (v := 0) hC dX4_removeRange_4 (by decide) ?_
  refine v_callVr (v := .int ((mrX X t m s u v false).1)) (C2 := CC Λ ((mrX X t m s u v false).2) Y) (As := [.int s, .int u, .int v, .int 0]) (rest := []) hC 4 197 (c_X4_moveRange Λ X Y (s := s) (u := u) (v := v) (cm := false) (t := t) hm0 hm hp0 (by omega) hq) (nR_of (by decide)) (cc_197 Λ X Y) rfl gX4_removeRange_X4_moveRange rfl rfl rfl hd_X4_moveRange ⟨by decide, by decide⟩ rfl rfl (Nat.le_of_ble_eq_true rfl) dX4_removeRange_5 ?_
  exact v_iret hC hR rfl rfl dX4_removeRange_8
theorem in_X4_tollToDock_X4 : ∀ w ∈ wsX40, w ∈ wsX4_tollToDock := by decide +kernel
theorem fl_X4_tollToDock_36 : Cond.fieldLink RX4 36 "BoatSets" "trial" "LBoatSets$Fleet;" ∈ wsX4_tollToDock := by decide +kernel
theorem fl_X4_tollToDock_10 : Cond.fieldLink RX4 10 "BoatSets" "now" "LBoatSets$Harbour;" ∈ wsX4_tollToDock := by decide +kernel
theorem in_X4_tollToDock_X1 : ∀ w ∈ wsX10, w ∈ wsX4_tollToDock := by decide +kernel
theorem fl_X4_tollToDock_60 : Cond.fieldLink RX4 60 "BoatSets$Harbour" "fleets" "[LBoatSets$Fleet;" ∈ wsX4_tollToDock := by decide +kernel
theorem hd_X4_tollToDock : yX4_tollToDock.cls = RX4 ∧ yX4_tollToDock.cls ≠ "java/lang/invoke/MethodHandle" ∧ yX4_tollToDock.cls ≠ "java/lang/invoke/VarHandle" ∧ (parseMethodDescriptor yX4_tollToDock.desc).map (fun d => d.parameters.length) = some 1 := by decide +kernel
set_option maxHeartbeats 400000 in
set_option maxRecDepth 100000 in
theorem c_X4_tollToDock (Λ : Lk) (X : XS) (Y : YS) {s : Int32} {m : Nat} (hm0 : xh X 0 = nI m) (hm : m ≤ 6) : Con Λ yX4_tollToDock wsX4_tollToDock { frames := 4, cells := 0, slots := 0, locals := 94 } [rf Λ 197, .int s] (CC Λ X Y) (some (.int ((tollX X m s).1))) (CC Λ ((tollX X m s).2) Y) := by
  refine con_start (cc := cX4_tollToDock) (maxL := 2) (ret := (some .int)) (by decide) rfl (Nat.le_of_ble_eq_true rfl) ?_
  intro κ hC hR
  have hC : Ok Λ { frames := 4, cells := 0, slots := 0, locals := 94 } cX4_tollToDock wsX4_tollToDock RX4 2 κ := hC
  refine v_args (lv' := [(0, rf Λ 197), (1, .int s)]) rfl ?_
  refine v_aload_n hC dX4_tollToDock_0 0 rfl ?_
  refine v_iload_n hC dX4_tollToDock_1 1 rfl ?_
  refine v_callVr (v := .int (bI (isC m s))) (C2 := CC Λ X Y) (As := [.int s]) (rest := []) hC 1 197 (c_X4_isSet Λ X Y (s := s) hm0 hm) (nR_of (by decide)) (cc_197 Λ X Y) rfl gX4_tollToDock_X4_isSet rfl rfl rfl hd_X4_isSet ⟨by decide, by decide⟩ rfl rfl (Nat.le_of_ble_eq_true rfl) dX4_tollToDock_2 ?_
  refine v_bne (b := isC m s) (tgt := 10) hC dX4_tollToDock_5 (by decide) (fun c5 => ?_) (fun c5 => ?_)
  · skip
    obtain ⟨k, hk, rfl⟩ := isC_of hm c5
    have hik : ix (nI k) = k := ix_nI (by omega)
    refine v_aload_n hC dX4_tollToDock_10 0 rfl ?_
    refine v_get (T := TX4) (N := 6) (v := rf Λ 180) hC 197 (nR_of (by decide)) (cc_197 Λ X Y) in_X4_tollToDock_X4 rfl 4 (by decide) fl_X4_tollToDock_36 rfl dX4_tollToDock_11 ?_
    refine v_aload_n hC dX4_tollToDock_14 0 rfl ?_
    refine v_get (T := TX4) (N := 6) (v := rf Λ 185) hC 197 (nR_of (by decide)) (cc_197 Λ X Y) in_X4_tollToDock_X4 rfl 0 (by decide) fl_X4_tollToDock_10 rfl dX4_tollToDock_15 ?_
    refine v_get (T := TX1) (N := 2) (v := rf Λ (186 + 2 * 0)) hC 185 (rb_h (h := 0) (by decide)) (cc_h Λ X Y (h := 0) (by decide)) in_X4_tollToDock_X1 rfl 0 (by decide) fl_X4_tollToDock_60 rfl dX4_tollToDock_18 ?_
    refine v_iload_n hC dX4_tollToDock_21 1 rfl ?_
    refine v_aald (Cn := "BoatSets$Fleet") (n := 6) (r2 := 5 * k) hC (186 + 2 * 0) (rb_hr (h := 0) (by decide)) 3 rfl (cc_hr Λ X Y (h := 0) (by decide)) k rfl (by omega) (by decide) (by simp) dX4_tollToDock_22 ?_
    refine v_callVv (C2 := CC Λ (xFi X 36 (cpF (X.1 k) (X.1 36))) Y) (As := [rf Λ (5 * k)]) (rest := []) hC 1 180 (c_X0_copyFrom Λ X Y (i := 36) (f := (X.1 36)) (by decide) rfl (io := k) (fo := (X.1 k)) (by omega) rfl (by omega)) (rb_f0 (i := 36) (by decide)) (cc_f0 Λ Y (i := 36) (by decide) rfl) rfl gX4_tollToDock_X0_copyFrom rfl rfl rfl hd_X0_copyFrom ⟨by decide, by decide⟩ rfl rfl (Nat.le_of_ble_eq_true rfl) dX4_tollToDock_23 ?_
    refine v_aload_n hC dX4_tollToDock_26 0 rfl ?_
    refine v_get (T := TX4) (N := 6) (v := rf Λ 180) hC 197 (nR_of (by decide)) (cc_197 Λ (xFi X 36 (cpF (X.1 k) (X.1 36))) Y) in_X4_tollToDock_X4 rfl 4 (by decide) fl_X4_tollToDock_36 rfl dX4_tollToDock_27 ?_
    refine v_callVr (v := .int ((ehF 8 (faS (cpF (X.1 k) (X.1 36)) false) 0 0).2)) (C2 := CC Λ (xFi (xFi X 36 (cpF (X.1 k) (X.1 36))) 36 (ehF 8 (faS (cpF (X.1 k) (X.1 36)) false) 0 0).1) Y) (As := []) (rest := []) hC 0 180 (c_X0_enterHarbour Λ (xFi X 36 (cpF (X.1 k) (X.1 36))) Y (i := 36) (f := (cpF (X.1 k) (X.1 36))) (by decide) (xFi_at X 36 (cpF (X.1 k) (X.1 36)))) (rb_f0 (i := 36) (by decide)) (cc_f0 Λ Y (i := 36) (by decide) (xFi_at X 36 (cpF (X.1 k) (X.1 36)))) rfl gX4_tollToDock_X0_enterHarbour rfl rfl rfl hd_X0_enterHarbour ⟨by decide, by decide⟩ rfl rfl (Nat.le_of_ble_eq_true rfl) dX4_tollToDock_30 ?_
    have e : tollX X m (nI k) = ((ehF 8 (faS (cpF (X.1 k) (X.1 36)) false) 0 0).2, (xFi (xFi X 36 (cpF (X.1 k) (X.1 36))) 36 (ehF 8 (faS (cpF (X.1 k) (X.1 36)) false) 0 0).1)) := by simp [tollX, c5, hik]
    exact v_iretX hC hR e dX4_tollToDock_33
  · skip
    refine v_iconst (v := (-1)) hC dX4_tollToDock_8 (by decide) ?_
    have e : tollX X m s = ((-1), X) := by simp [tollX, c5]
    exact v_iretX hC hR e dX4_tollToDock_9
