theorem in_X4_add_X4 : ∀ w ∈ wsX40, w ∈ wsX4_add := by decide +kernel
theorem fl_X4_add_10 : Cond.fieldLink RX4 10 "BoatSets" "now" "LBoatSets$Harbour;" ∈ wsX4_add := by decide +kernel
theorem in_X4_add_X1 : ∀ w ∈ wsX10, w ∈ wsX4_add := by decide +kernel
theorem fl_X4_add_60 : Cond.fieldLink RX4 60 "BoatSets$Harbour" "fleets" "[LBoatSets$Fleet;" ∈ wsX4_add := by decide +kernel
theorem in_X4_add_X0 : ∀ w ∈ wsX00, w ∈ wsX4_add := by decide +kernel
theorem fl_X4_add_81 : Cond.fieldLink RX4 81 "BoatSets$Fleet" "kinds" "[I" ∈ wsX4_add := by decide +kernel
theorem hd_X4_add : yX4_add.cls = RX4 ∧ yX4_add.cls ≠ "java/lang/invoke/MethodHandle" ∧ yX4_add.cls ≠ "java/lang/invoke/VarHandle" ∧ (parseMethodDescriptor yX4_add.desc).map (fun d => d.parameters.length) = some 2 := by decide +kernel
set_option maxHeartbeats 400000 in
set_option maxRecDepth 100000 in
theorem c_X4_add (Λ : Lk) (X : XS) (Y : YS) {s : Int32} {n : Int32} {t : Nat} {m : Nat} (hm0 : xh X 0 = nI m) (hm : m ≤ 6) (hp0 : xz X = nI t) (ht4 : t ≤ 4) (hq : ∀ j, xq X j < 4) : Con Λ yX4_add wsX4_add { frames := 6, cells := 0, slots := 0, locals := 150 } [rf Λ 197, .int s, .int n] (CC Λ X Y) (some (.int ((addX X t m s n).1))) (CC Λ ((addX X t m s n).2) Y) := by
  refine con_start (cc := cX4_add) (maxL := 4) (ret := (some .int)) (by decide) rfl (Nat.le_of_ble_eq_true rfl) ?_
  intro κ hC hR
  have hC : Ok Λ { frames := 6, cells := 0, slots := 0, locals := 150 } cX4_add wsX4_add RX4 4 κ := hC
  refine v_args (lv' := [(0, rf Λ 197), (1, .int s), (2, .int n)]) rfl ?_
  refine v_aload_n hC dX4_add_0 0 rfl ?_
  refine v_iload_n hC dX4_add_1 1 rfl ?_
  refine v_iload_n hC dX4_add_2 2 rfl ?_
  refine v_iload_n hC dX4_add_3 2 rfl ?_
  refine v_iconst (v := 1) hC dX4_add_4 (by decide) ?_
  refine v_callVr (v := .int ((mrX X t m s n n true).1)) (C2 := CC Λ ((mrX X t m s n n true).2) Y) (As := [.int s, .int n, .int n, .int 1]) (rest := []) hC 4 197 (c_X4_moveRange Λ X Y (s := s) (u := n) (v := n) (cm := true) (t := t) hm0 hm hp0 (by omega) hq) (nR_of (by decide)) (cc_197 Λ X Y) rfl gX4_add_X4_moveRange rfl rfl rfl hd_X4_moveRange ⟨by decide, by decide⟩ rfl rfl (Nat.le_of_ble_eq_true rfl) dX4_add_5 ?_
  refine v_istore_n (lv' := [(3, .int ((mrX X t m s n n true).1)), (0, rf Λ 197), (1, .int s), (2, .int n)]) hC dX4_add_8 (by decide) rfl ?_
  refine v_iload_n hC dX4_add_9 0 rfl ?_
  refine v_if_ge (tgt := 15) hC dX4_add_10 (by decide) (fun c10 => ?_) (fun c10 => ?_)
  · have c10' := Int32.not_lt.mpr c10
    obtain ⟨hs, hn⟩ := mr_ok c10'
    obtain ⟨k, hk, rfl⟩ := isC_of hm hs
    obtain ⟨q, hq2, rfl⟩ := isN_of hn
    have hik : ix (nI k) = k := ix_nI (by omega)
    have hiq : ix (nI q) = q := ix_nI (by omega)
    refine v_aload_n hC dX4_add_15 1 rfl ?_
    refine v_get (T := TX4) (N := 6) (v := rf Λ 185) hC 197 (nR_of (by decide)) (cc_197 Λ ((mrX X t m (nI k) (nI q) (nI q) true).2) Y) in_X4_add_X4 rfl 0 (by decide) fl_X4_add_10 rfl dX4_add_16 ?_
    refine v_get (T := TX1) (N := 2) (v := rf Λ (186 + 2 * 0)) hC 185 (rb_h (h := 0) (by decide)) (cc_h Λ ((mrX X t m (nI k) (nI q) (nI q) true).2) Y (h := 0) (by decide)) in_X4_add_X1 rfl 0 (by decide) fl_X4_add_60 rfl dX4_add_19 ?_
    refine v_iload_n hC dX4_add_22 2 rfl ?_
    refine v_aald (Cn := "BoatSets$Fleet") (n := 6) (r2 := 5 * k) hC (186 + 2 * 0) (rb_hr (h := 0) (by decide)) 3 rfl (cc_hr Λ ((mrX X t m (nI k) (nI q) (nI q) true).2) Y (h := 0) (by decide)) k rfl (by omega) (by decide) (by simp) dX4_add_23 ?_
    refine v_get (T := TX0) (N := 7) (v := rf Λ (5 * k + 2)) hC (5 * k) (rb_f0 (by omega)) (cc_f0 Λ Y (by omega) rfl) in_X4_add_X0 rfl 1 (by decide) fl_X4_add_81 rfl dX4_add_24 ?_
    refine v_iload_n hC dX4_add_27 3 rfl ?_
    refine v_sipush (v := 256) hC dX4_add_28 (by decide) ?_
    refine v_idiv (x := nI q) (y := 256) hC dX4_add_31 (by decide) ?_
    refine v_topi (y := nI (q / 256)) (pk_div (a := q) (d := 256) (by omega) (by decide) (by decide)) ?_
    refine v_iald (n := 8) (f := (fk (((mrX X t m (nI k) (nI q) (nI q) true).2).1 k))) hC (5 * k + 2) (rb_f (by omega) (by decide)) (cc_f2 Λ Y (by omega) rfl) (q / 256) rfl (by omega) (by decide) dX4_add_32 ?_
    have e : addX X t m (nI k) (nI q) = ((fk (((mrX X t m (nI k) (nI q) (nI q) true).2).1 k)) (q / 256), (mrX X t m (nI k) (nI q) (nI q) true).2) := by rw [addX, if_neg c10', hik, hiq]
    exact v_iretX hC hR e dX4_add_33
  · have c10' := Int32.not_le.mp c10
    refine v_iload_n hC dX4_add_13 0 rfl ?_
    have e : addX X t m s n = ((mrX X t m s n n true).1, (mrX X t m s n n true).2) := by rw [addX, if_pos c10']
    exact v_iretX hC hR e dX4_add_14
theorem in_X4_remove_X4 : ∀ w ∈ wsX40, w ∈ wsX4_remove := by decide +kernel
theorem fl_X4_remove_10 : Cond.fieldLink RX4 10 "BoatSets" "now" "LBoatSets$Harbour;" ∈ wsX4_remove := by decide +kernel
theorem in_X4_remove_X1 : ∀ w ∈ wsX10, w ∈ wsX4_remove := by decide +kernel
theorem fl_X4_remove_60 : Cond.fieldLink RX4 60 "BoatSets$Harbour" "fleets" "[LBoatSets$Fleet;" ∈ wsX4_remove := by decide +kernel
theorem in_X4_remove_X0 : ∀ w ∈ wsX00, w ∈ wsX4_remove := by decide +kernel
theorem fl_X4_remove_85 : Cond.fieldLink RX4 85 "BoatSets$Fleet" "sizes" "[I" ∈ wsX4_remove := by decide +kernel
theorem hd_X4_remove : yX4_remove.cls = RX4 ∧ yX4_remove.cls ≠ "java/lang/invoke/MethodHandle" ∧ yX4_remove.cls ≠ "java/lang/invoke/VarHandle" ∧ (parseMethodDescriptor yX4_remove.desc).map (fun d => d.parameters.length) = some 2 := by decide +kernel
set_option maxHeartbeats 400000 in
set_option maxRecDepth 100000 in
theorem c_X4_remove (Λ : Lk) (X : XS) (Y : YS) {s : Int32} {n : Int32} {t : Nat} {m : Nat} (hm0 : xh X 0 = nI m) (hm : m ≤ 6) (hp0 : xz X = nI t) (ht4 : t ≤ 4) (hq : ∀ j, xq X j < 4) : Con Λ yX4_remove wsX4_remove { frames := 6, cells := 0, slots := 0, locals := 150 } [rf Λ 197, .int s, .int n] (CC Λ X Y) (some (.int ((remX X t m s n).1))) (CC Λ ((remX X t m s n).2) Y) := by
  refine con_start (cc := cX4_remove) (maxL := 4) (ret := (some .int)) (by decide) rfl (Nat.le_of_ble_eq_true rfl) ?_
  intro κ hC hR
  have hC : Ok Λ { frames := 6, cells := 0, slots := 0, locals := 150 } cX4_remove wsX4_remove RX4 4 κ := hC
  refine v_args (lv' := [(0, rf Λ 197), (1, .int s), (2, .int n)]) rfl ?_
  refine v_aload_n hC dX4_remove_0 0 rfl ?_
  refine v_iload_n hC dX4_remove_1 1 rfl ?_
  refine v_iload_n hC dX4_remove_2 2 rfl ?_
  refine v_iload_n hC dX4_remove_3 2 rfl ?_
  refine v_iconst (v := 0) hC dX4_remove_4 (by decide) ?_
  refine v_callVr (v := .int ((mrX X t m s n n false).1)) (C2 := CC Λ ((mrX X t m s n n false).2) Y) (As := [.int s, .int n, .int n, .int 0]) (rest := []) hC 4 197 (c_X4_moveRange Λ X Y (s := s) (u := n) (v := n) (cm := false) (t := t) hm0 hm hp0 (by omega) hq) (nR_of (by decide)) (cc_197 Λ X Y) rfl gX4_remove_X4_moveRange rfl rfl rfl hd_X4_moveRange ⟨by decide, by decide⟩ rfl rfl (Nat.le_of_ble_eq_true rfl) dX4_remove_5 ?_
  refine v_istore_n (lv' := [(3, .int ((mrX X t m s n n false).1)), (0, rf Λ 197), (1, .int s), (2, .int n)]) hC dX4_remove_8 (by decide) rfl ?_
  refine v_iload_n hC dX4_remove_9 0 rfl ?_
  refine v_if_ge (tgt := 15) hC dX4_remove_10 (by decide) (fun c10 => ?_) (fun c10 => ?_)
  · have c10' := Int32.not_lt.mpr c10
    obtain ⟨hs, hn⟩ := mr_ok c10'
    obtain ⟨k, hk, rfl⟩ := isC_of hm hs
    obtain ⟨q, hq2, rfl⟩ := isN_of hn
    have hik : ix (nI k) = k := ix_nI (by omega)
    have hiq : ix (nI q) = q := ix_nI (by omega)
    refine v_aload_n hC dX4_remove_15 1 rfl ?_
    refine v_get (T := TX4) (N := 6) (v := rf Λ 185) hC 197 (nR_of (by decide)) (cc_197 Λ ((mrX X t m (nI k) (nI q) (nI q) false).2) Y) in_X4_remove_X4 rfl 0 (by decide) fl_X4_remove_10 rfl dX4_remove_16 ?_
    refine v_get (T := TX1) (N := 2) (v := rf Λ (186 + 2 * 0)) hC 185 (rb_h (h := 0) (by decide)) (cc_h Λ ((mrX X t m (nI k) (nI q) (nI q) false).2) Y (h := 0) (by decide)) in_X4_remove_X1 rfl 0 (by decide) fl_X4_remove_60 rfl dX4_remove_19 ?_
    refine v_iload_n hC dX4_remove_22 2 rfl ?_
    refine v_aald (Cn := "BoatSets$Fleet") (n := 6) (r2 := 5 * k) hC (186 + 2 * 0) (rb_hr (h := 0) (by decide)) 3 rfl (cc_hr Λ ((mrX X t m (nI k) (nI q) (nI q) false).2) Y (h := 0) (by decide)) k rfl (by omega) (by decide) (by simp) dX4_remove_23 ?_
    refine v_get (T := TX0) (N := 7) (v := rf Λ (5 * k + 3)) hC (5 * k) (rb_f0 (by omega)) (cc_f0 Λ Y (by omega) rfl) in_X4_remove_X0 rfl 2 (by decide) fl_X4_remove_85 rfl dX4_remove_24 ?_
    refine v_iload_n hC dX4_remove_27 3 rfl ?_
    refine v_sipush (v := 256) hC dX4_remove_28 (by decide) ?_
    refine v_idiv (x := nI q) (y := 256) hC dX4_remove_31 (by decide) ?_
    refine v_topi (y := nI (q / 256)) (pk_div (a := q) (d := 256) (by omega) (by decide) (by decide)) ?_
    refine v_iald (n := 8) (f := (fs (((mrX X t m (nI k) (nI q) (nI q) false).2).1 k))) hC (5 * k + 3) (rb_f (by omega) (by decide)) (cc_f3 Λ Y (by omega) rfl) (q / 256) rfl (by omega) (by decide) dX4_remove_32 ?_
    have e : remX X t m (nI k) (nI q) = ((fs (((mrX X t m (nI k) (nI q) (nI q) false).2).1 k)) (q / 256), (mrX X t m (nI k) (nI q) (nI q) false).2) := by rw [remX, if_neg c10', hik, hiq]
    exact v_iretX hC hR e dX4_remove_33
  · have c10' := Int32.not_le.mp c10
    refine v_iload_n hC dX4_remove_13 0 rfl ?_
    have e : remX X t m s n = ((mrX X t m s n n false).1, (mrX X t m s n n false).2) := by rw [remX, if_pos c10']
    exact v_iretX hC hR e dX4_remove_14
theorem in_X4_combine_X4 : ∀ w ∈ wsX40, w ∈ wsX4_combine := by decide +kernel
theorem fl_X4_combine_10 : Cond.fieldLink RX4 10 "BoatSets" "now" "LBoatSets$Harbour;" ∈ wsX4_combine := by decide +kernel
theorem in_X4_combine_X1 : ∀ w ∈ wsX10, w ∈ wsX4_combine := by decide +kernel
theorem fl_X4_combine_60 : Cond.fieldLink RX4 60 "BoatSets$Harbour" "fleets" "[LBoatSets$Fleet;" ∈ wsX4_combine := by decide +kernel
theorem in_X4_combine_X0 : ∀ w ∈ wsX00, w ∈ wsX4_combine := by decide +kernel
theorem fl_X4_combine_67 : Cond.fieldLink RX4 67 "BoatSets$Fleet" "atSea" "Z" ∈ wsX4_combine := by decide +kernel
theorem fl_X4_combine_36 : Cond.fieldLink RX4 36 "BoatSets" "trial" "LBoatSets$Fleet;" ∈ wsX4_combine := by decide +kernel
theorem fl_X4_combine_22 : Cond.fieldLink RX4 22 "BoatSets" "past" "LBoatSets$History;" ∈ wsX4_combine := by decide +kernel
theorem hd_X4_combine : yX4_combine.cls = RX4 ∧ yX4_combine.cls ≠ "java/lang/invoke/MethodHandle" ∧ yX4_combine.cls ≠ "java/lang/invoke/VarHandle" ∧ (parseMethodDescriptor yX4_combine.desc).map (fun d => d.parameters.length) = some 4 := by decide +kernel
set_option maxHeartbeats 400000 in
set_option maxRecDepth 100000 in
theorem c_X4_combine (Λ : Lk) (X : XS) (Y : YS) {how : Int32} {s : Int32} {u : Int32} {v : Int32} {t : Nat} {m : Nat} (hm0 : xh X 0 = nI m) (hm : m ≤ 6) (hp0 : xz X = nI t) (ht4 : t ≤ 4) (hq : ∀ j, xq X j < 4) : Con Λ yX4_combine wsX4_combine { frames := 5, cells := 0, slots := 0, locals := 114 } [rf Λ 197, .int how, .int s, .int u, .int v] (CC Λ X Y) (some (.int ((cbX X t m how s u v).1))) (CC Λ ((cbX X t m how s u v).2) Y) := by
  refine con_start (cc := cX4_combine) (maxL := 6) (ret := (some .int)) (by decide) rfl (Nat.le_of_ble_eq_true rfl) ?_
  intro κ hC hR
  have hC : Ok Λ { frames := 5, cells := 0, slots := 0, locals := 114 } cX4_combine wsX4_combine RX4 6 κ := hC
  refine v_args (lv' := [(0, rf Λ 197), (1, .int how), (2, .int s), (3, .int u), (4, .int v)]) rfl ?_
  refine v_aload_n hC dX4_combine_0 0 rfl ?_
  refine v_iload_n hC dX4_combine_1 2 rfl ?_
  refine v_callVr (v := .int (bI (isC m s))) (C2 := CC Λ X Y) (As := [.int s]) (rest := []) hC 1 197 (c_X4_isSet Λ X Y (s := s) hm0 hm) (nR_of (by decide)) (cc_197 Λ X Y) rfl gX4_combine_X4_isSet rfl rfl rfl hd_X4_isSet ⟨by decide, by decide⟩ rfl rfl (Nat.le_of_ble_eq_true rfl) dX4_combine_2 ?_
  refine v_beq (b := isC m s) (tgt := 25) hC dX4_combine_5 (by decide) (fun c5 => ?_) (fun c5 => ?_)
  · skip
    refine v_iconst (v := (-1)) hC dX4_combine_25 (by decide) ?_
    have e : cbX X t m how s u v = ((-1), X) := by simp [cbX, c5]
    exact v_iretX hC hR e dX4_combine_26
  · skip
    obtain ⟨k, hk, rfl⟩ := isC_of hm c5
    have hik : ix (nI k) = k := ix_nI (by omega)
    refine v_aload_n hC dX4_combine_8 0 rfl ?_
    refine v_iload_n hC dX4_combine_9 3 rfl ?_
    refine v_callVr (v := .int (bI (isC m u))) (C2 := CC Λ X Y) (As := [.int u]) (rest := []) hC 1 197 (c_X4_isSet Λ X Y (s := u) hm0 hm) (nR_of (by decide)) (cc_197 Λ X Y) rfl gX4_combine_X4_isSet rfl rfl rfl hd_X4_isSet ⟨by decide, by decide⟩ rfl rfl (Nat.le_of_ble_eq_true rfl) dX4_combine_10 ?_
    refine v_beq (b := isC m u) (tgt := 25) hC dX4_combine_13 (by decide) (fun c13 => ?_) (fun c13 => ?_)
    · skip
      refine v_iconst (v := (-1)) hC dX4_combine_25 (by decide) ?_
      have e : cbX X t m how (nI k) u v = ((-1), X) := by simp [cbX, c5, hik, c13]
      exact v_iretX hC hR e dX4_combine_26
    · skip
      obtain ⟨k2, hk2, rfl⟩ := isC_of hm c13
      have hik2 : ix (nI k2) = k2 := ix_nI (by omega)
      refine v_aload_n hC dX4_combine_16 0 rfl ?_
      refine v_iload hC dX4_combine_17 4 rfl ?_
      refine v_callVr (v := .int (bI (isC m v))) (C2 := CC Λ X Y) (As := [.int v]) (rest := []) hC 1 197 (c_X4_isSet Λ X Y (s := v) hm0 hm) (nR_of (by decide)) (cc_197 Λ X Y) rfl gX4_combine_X4_isSet rfl rfl rfl hd_X4_isSet ⟨by decide, by decide⟩ rfl rfl (Nat.le_of_ble_eq_true rfl) dX4_combine_19 ?_
      refine v_bne (b := isC m v) (tgt := 27) hC dX4_combine_22 (by decide) (fun c22 => ?_) (fun c22 => ?_)
      · skip
        obtain ⟨k3, hk3, rfl⟩ := isC_of hm c22
        have hik3 : ix (nI k3) = k3 := ix_nI (by omega)
        refine v_iload_n hC dX4_combine_27 1 rfl ?_
        refine v_callSr (v := .int (bI (inB how 0 3))) (C2 := CC Λ X Y) (As := [.int how]) (rest := []) hC 1 (c_X4_isHow Λ X Y (v := how)) gX4_combine_X4_isHow rfl rfl rfl hd_X4_isHow ⟨by decide, by decide⟩ rfl rfl (Nat.le_of_ble_eq_true rfl) dX4_combine_28 ?_
        refine v_bne (b := inB how 0 3) (tgt := 37) hC dX4_combine_31 (by decide) (fun c31 => ?_) (fun c31 => ?_)
        · skip
          refine v_aload_n hC dX4_combine_37 0 rfl ?_
          refine v_get (T := TX4) (N := 6) (v := rf Λ 185) hC 197 (nR_of (by decide)) (cc_197 Λ X Y) in_X4_combine_X4 rfl 0 (by decide) fl_X4_combine_10 rfl dX4_combine_38 ?_
          refine v_get (T := TX1) (N := 2) (v := rf Λ (186 + 2 * 0)) hC 185 (rb_h (h := 0) (by decide)) (cc_h Λ X Y (h := 0) (by decide)) in_X4_combine_X1 rfl 0 (by decide) fl_X4_combine_60 rfl dX4_combine_41 ?_
          refine v_iload_n hC dX4_combine_44 2 rfl ?_
          refine v_aald (Cn := "BoatSets$Fleet") (n := 6) (r2 := 5 * k) hC (186 + 2 * 0) (rb_hr (h := 0) (by decide)) 3 rfl (cc_hr Λ X Y (h := 0) (by decide)) k rfl (by omega) (by decide) (by simp) dX4_combine_45 ?_
          refine v_astore (lv' := [(5, rf Λ (5 * k)), (0, rf Λ 197), (1, .int how), (2, .int (nI k)), (3, .int (nI k2)), (4, .int (nI k3))]) hC dX4_combine_46 (by decide) rfl ?_
          refine v_aload hC dX4_combine_48 0 rfl ?_
          refine v_get (T := TX0) (N := 7) (v := .int (bI (fa (X.1 k)))) hC (5 * k) (rb_f0 (by omega)) (cc_f0 Λ Y (by omega) rfl) in_X4_combine_X0 rfl 6 (by decide) fl_X4_combine_67 rfl dX4_combine_50 ?_
          refine v_beq (b := (fa (X.1 k))) (tgt := 59) hC dX4_combine_53 (by decide) (fun c53 => ?_) (fun c53 => ?_)
          · skip
            refine v_aload_n hC dX4_combine_59 1 rfl ?_
            refine v_get (T := TX4) (N := 6) (v := rf Λ 180) hC 197 (nR_of (by decide)) (cc_197 Λ X Y) in_X4_combine_X4 rfl 4 (by decide) fl_X4_combine_36 rfl dX4_combine_60 ?_
            refine v_aload hC dX4_combine_63 0 rfl ?_
            refine v_callVv (C2 := CC Λ (xFi X 36 (cpF (X.1 k) (X.1 36))) Y) (As := [rf Λ (5 * k)]) (rest := []) hC 1 180 (c_X0_copyFrom Λ X Y (i := 36) (f := (X.1 36)) (by decide) rfl (io := k) (fo := (X.1 k)) (by omega) rfl (by omega)) (rb_f0 (i := 36) (by decide)) (cc_f0 Λ Y (i := 36) (by decide) rfl) rfl gX4_combine_X0_copyFrom rfl rfl rfl hd_X0_copyFrom ⟨by decide, by decide⟩ rfl rfl (Nat.le_of_ble_eq_true rfl) dX4_combine_65 ?_
            refine v_aload_n hC dX4_combine_68 1 rfl ?_
            refine v_get (T := TX4) (N := 6) (v := rf Λ 180) hC 197 (nR_of (by decide)) (cc_197 Λ (xFi X 36 (cpF (X.1 k) (X.1 36))) Y) in_X4_combine_X4 rfl 4 (by decide) fl_X4_combine_36 rfl dX4_combine_69 ?_
            refine v_iload_n hC dX4_combine_72 2 rfl ?_
            refine v_aload_n hC dX4_combine_73 1 rfl ?_
            refine v_get (T := TX4) (N := 6) (v := rf Λ 185) hC 197 (nR_of (by decide)) (cc_197 Λ (xFi X 36 (cpF (X.1 k) (X.1 36))) Y) in_X4_combine_X4 rfl 0 (by decide) fl_X4_combine_10 rfl dX4_combine_74 ?_
            refine v_get (T := TX1) (N := 2) (v := rf Λ (186 + 2 * 0)) hC 185 (rb_h (h := 0) (by decide)) (cc_h Λ (xFi X 36 (cpF (X.1 k) (X.1 36))) Y (h := 0) (by decide)) in_X4_combine_X1 rfl 0 (by decide) fl_X4_combine_60 rfl dX4_combine_77 ?_
            refine v_iload_n hC dX4_combine_80 4 rfl ?_
            refine v_aald (Cn := "BoatSets$Fleet") (n := 6) (r2 := 5 * k2) hC (186 + 2 * 0) (rb_hr (h := 0) (by decide)) 3 rfl (cc_hr Λ (xFi X 36 (cpF (X.1 k) (X.1 36))) Y (h := 0) (by decide)) k2 rfl (by omega) (by decide) (by simp) dX4_combine_81 ?_
            refine v_aload_n hC dX4_combine_82 1 rfl ?_
            refine v_get (T := TX4) (N := 6) (v := rf Λ 185) hC 197 (nR_of (by decide)) (cc_197 Λ (xFi X 36 (cpF (X.1 k) (X.1 36))) Y) in_X4_combine_X4 rfl 0 (by decide) fl_X4_combine_10 rfl dX4_combine_83 ?_
            refine v_get (T := TX1) (N := 2) (v := rf Λ (186 + 2 * 0)) hC 185 (rb_h (h := 0) (by decide)) (cc_h Λ (xFi X 36 (cpF (X.1 k) (X.1 36))) Y (h := 0) (by decide)) in_X4_combine_X1 rfl 0 (by decide) fl_X4_combine_60 rfl dX4_combine_86 ?_
            refine v_iload hC dX4_combine_89 5 rfl ?_
            refine v_aald (Cn := "BoatSets$Fleet") (n := 6) (r2 := 5 * k3) hC (186 + 2 * 0) (rb_hr (h := 0) (by decide)) 3 rfl (cc_hr Λ (xFi X 36 (cpF (X.1 k) (X.1 36))) Y (h := 0) (by decide)) k3 rfl (by omega) (by decide) (by simp) dX4_combine_91 ?_
            refine v_callVv (C2 := CC Λ (xFi (xFi X 36 (cpF (X.1 k) (X.1 36))) 36 (flF how ((xFi X 36 (cpF (X.1 k) (X.1 36))).1 k2) ((xFi X 36 (cpF (X.1 k) (X.1 36))).1 k3) (cpF (X.1 k) (X.1 36)))) Y) (As := [.int how, rf Λ (5 * k2), rf Λ (5 * k3)]) (rest := []) hC 3 180 (c_X0_fillWith Λ (xFi X 36 (cpF (X.1 k) (X.1 36))) Y (i := 36) (f := (cpF (X.1 k) (X.1 36))) (by decide) (xFi_at X 36 (cpF (X.1 k) (X.1 36))) (how := how) (io := k2) (fo := ((xFi X 36 (cpF (X.1 k) (X.1 36))).1 k2)) (by omega) rfl (iq := k3) (fq := ((xFi X 36 (cpF (X.1 k) (X.1 36))).1 k3)) (by omega) rfl (by omega) (by omega)) (rb_f0 (i := 36) (by decide)) (cc_f0 Λ Y (i := 36) (by decide) (xFi_at X 36 (cpF (X.1 k) (X.1 36)))) rfl gX4_combine_X0_fillWith rfl rfl rfl hd_X0_fillWith ⟨by decide, by decide⟩ rfl rfl (Nat.le_of_ble_eq_true rfl) dX4_combine_92 ?_
            refine v_aload_n hC dX4_combine_95 1 rfl ?_
            refine v_get (T := TX4) (N := 6) (v := rf Λ 198) hC 197 (nR_of (by decide)) (cc_197 Λ (xFi (xFi X 36 (cpF (X.1 k) (X.1 36))) 36 (flF how ((xFi X 36 (cpF (X.1 k) (X.1 36))).1 k2) ((xFi X 36 (cpF (X.1 k) (X.1 36))).1 k3) (cpF (X.1 k) (X.1 36)))) Y) in_X4_combine_X4 rfl 2 (by decide) fl_X4_combine_22 rfl dX4_combine_96 ?_
            refine v_aload_n hC dX4_combine_99 1 rfl ?_
            refine v_get (T := TX4) (N := 6) (v := rf Λ 185) hC 197 (nR_of (by decide)) (cc_197 Λ (xFi (xFi X 36 (cpF (X.1 k) (X.1 36))) 36 (flF how ((xFi X 36 (cpF (X.1 k) (X.1 36))).1 k2) ((xFi X 36 (cpF (X.1 k) (X.1 36))).1 k3) (cpF (X.1 k) (X.1 36)))) Y) in_X4_combine_X4 rfl 0 (by decide) fl_X4_combine_10 rfl dX4_combine_100 ?_
            refine v_callVv (C2 := CC Λ (pushX (xFi (xFi X 36 (cpF (X.1 k) (X.1 36))) 36 (flF how ((xFi X 36 (cpF (X.1 k) (X.1 36))).1 k2) ((xFi X 36 (cpF (X.1 k) (X.1 36))).1 k3) (cpF (X.1 k) (X.1 36)))) t m) Y) (As := [rf Λ 185]) (rest := []) hC 1 198 (c_X2_push Λ (xFi (xFi X 36 (cpF (X.1 k) (X.1 36))) 36 (flF how ((xFi X 36 (cpF (X.1 k) (X.1 36))).1 k2) ((xFi X 36 (cpF (X.1 k) (X.1 36))).1 k3) (cpF (X.1 k) (X.1 36)))) Y (t := t) (m := m) hp0 (by omega) hq hm0 (by omega)) (nR_of (by decide)) (cc_198 Λ (xFi (xFi X 36 (cpF (X.1 k) (X.1 36))) 36 (flF how ((xFi X 36 (cpF (X.1 k) (X.1 36))).1 k2) ((xFi X 36 (cpF (X.1 k) (X.1 36))).1 k3) (cpF (X.1 k) (X.1 36)))) Y) rfl gX4_combine_X2_push rfl rfl rfl hd_X2_push ⟨by decide, by decide⟩ rfl rfl (Nat.le_of_ble_eq_true rfl) dX4_combine_103 ?_
            refine v_aload hC dX4_combine_106 0 rfl ?_
            refine v_aload_n hC dX4_combine_108 1 rfl ?_
            refine v_get (T := TX4) (N := 6) (v := rf Λ 180) hC 197 (nR_of (by decide)) (cc_197 Λ (pushX (xFi (xFi X 36 (cpF (X.1 k) (X.1 36))) 36 (flF how ((xFi X 36 (cpF (X.1 k) (X.1 36))).1 k2) ((xFi X 36 (cpF (X.1 k) (X.1 36))).1 k3) (cpF (X.1 k) (X.1 36)))) t m) Y) in_X4_combine_X4 rfl 4 (by decide) fl_X4_combine_36 rfl dX4_combine_109 ?_
            refine v_callVv (C2 := CC Λ (xFi (pushX (xFi (xFi X 36 (cpF (X.1 k) (X.1 36))) 36 (flF how ((xFi X 36 (cpF (X.1 k) (X.1 36))).1 k2) ((xFi X 36 (cpF (X.1 k) (X.1 36))).1 k3) (cpF (X.1 k) (X.1 36)))) t m) k (cpF ((pushX (xFi (xFi X 36 (cpF (X.1 k) (X.1 36))) 36 (flF how ((xFi X 36 (cpF (X.1 k) (X.1 36))).1 k2) ((xFi X 36 (cpF (X.1 k) (X.1 36))).1 k3) (cpF (X.1 k) (X.1 36)))) t m).1 36) ((pushX (xFi (xFi X 36 (cpF (X.1 k) (X.1 36))) 36 (flF how ((xFi X 36 (cpF (X.1 k) (X.1 36))).1 k2) ((xFi X 36 (cpF (X.1 k) (X.1 36))).1 k3) (cpF (X.1 k) (X.1 36)))) t m).1 k))) Y) (As := [rf Λ 180]) (rest := []) hC 1 (5 * k) (c_X0_copyFrom Λ (pushX (xFi (xFi X 36 (cpF (X.1 k) (X.1 36))) 36 (flF how ((xFi X 36 (cpF (X.1 k) (X.1 36))).1 k2) ((xFi X 36 (cpF (X.1 k) (X.1 36))).1 k3) (cpF (X.1 k) (X.1 36)))) t m) Y (i := k) (f := ((pushX (xFi (xFi X 36 (cpF (X.1 k) (X.1 36))) 36 (flF how ((xFi X 36 (cpF (X.1 k) (X.1 36))).1 k2) ((xFi X 36 (cpF (X.1 k) (X.1 36))).1 k3) (cpF (X.1 k) (X.1 36)))) t m).1 k)) (by omega) rfl (io := 36) (fo := ((pushX (xFi (xFi X 36 (cpF (X.1 k) (X.1 36))) 36 (flF how ((xFi X 36 (cpF (X.1 k) (X.1 36))).1 k2) ((xFi X 36 (cpF (X.1 k) (X.1 36))).1 k3) (cpF (X.1 k) (X.1 36)))) t m).1 36)) (by decide) rfl (by omega)) (rb_f0 (by omega)) (cc_f0 Λ Y (by omega) rfl) rfl gX4_combine_X0_copyFrom rfl rfl rfl hd_X0_copyFrom ⟨by decide, by decide⟩ rfl rfl (Nat.le_of_ble_eq_true rfl) dX4_combine_112 ?_
            refine v_aload hC dX4_combine_115 0 rfl ?_
            refine v_callVr (v := .int (sumI (fs (cpF ((pushX (xFi (xFi X 36 (cpF (X.1 k) (X.1 36))) 36 (flF how ((xFi X 36 (cpF (X.1 k) (X.1 36))).1 k2) ((xFi X 36 (cpF (X.1 k) (X.1 36))).1 k3) (cpF (X.1 k) (X.1 36)))) t m).1 36) ((pushX (xFi (xFi X 36 (cpF (X.1 k) (X.1 36))) 36 (flF how ((xFi X 36 (cpF (X.1 k) (X.1 36))).1 k2) ((xFi X 36 (cpF (X.1 k) (X.1 36))).1 k3) (cpF (X.1 k) (X.1 36)))) t m).1 k))) 8)) (C2 := CC Λ (xFi (pushX (xFi (xFi X 36 (cpF (X.1 k) (X.1 36))) 36 (flF how ((xFi X 36 (cpF (X.1 k) (X.1 36))).1 k2) ((xFi X 36 (cpF (X.1 k) (X.1 36))).1 k3) (cpF (X.1 k) (X.1 36)))) t m) k (cpF ((pushX (xFi (xFi X 36 (cpF (X.1 k) (X.1 36))) 36 (flF how ((xFi X 36 (cpF (X.1 k) (X.1 36))).1 k2) ((xFi X 36 (cpF (X.1 k) (X.1 36))).1 k3) (cpF (X.1 k) (X.1 36)))) t m).1 36) ((pushX (xFi (xFi X 36 (cpF (X.1 k) (X.1 36))) 36 (flF how ((xFi X 36 (cpF (X.1 k) (X.1 36))).1 k2) ((xFi X 36 (cpF (X.1 k) (X.1 36))).1 k3) (cpF (X.1 k) (X.1 36)))) t m).1 k))) Y) (As := []) (rest := []) hC 0 (5 * k) (c_X0_numbers Λ (xFi (pushX (xFi (xFi X 36 (cpF (X.1 k) (X.1 36))) 36 (flF how ((xFi X 36 (cpF (X.1 k) (X.1 36))).1 k2) ((xFi X 36 (cpF (X.1 k) (X.1 36))).1 k3) (cpF (X.1 k) (X.1 36)))) t m) k (cpF ((pushX (xFi (xFi X 36 (cpF (X.1 k) (X.1 36))) 36 (flF how ((xFi X 36 (cpF (X.1 k) (X.1 36))).1 k2) ((xFi X 36 (cpF (X.1 k) (X.1 36))).1 k3) (cpF (X.1 k) (X.1 36)))) t m).1 36) ((pushX (xFi (xFi X 36 (cpF (X.1 k) (X.1 36))) 36 (flF how ((xFi X 36 (cpF (X.1 k) (X.1 36))).1 k2) ((xFi X 36 (cpF (X.1 k) (X.1 36))).1 k3) (cpF (X.1 k) (X.1 36)))) t m).1 k))) Y (i := k) (f := (cpF ((pushX (xFi (xFi X 36 (cpF (X.1 k) (X.1 36))) 36 (flF how ((xFi X 36 (cpF (X.1 k) (X.1 36))).1 k2) ((xFi X 36 (cpF (X.1 k) (X.1 36))).1 k3) (cpF (X.1 k) (X.1 36)))) t m).1 36) ((pushX (xFi (xFi X 36 (cpF (X.1 k) (X.1 36))) 36 (flF how ((xFi X 36 (cpF (X.1 k) (X.1 36))).1 k2) ((xFi X 36 (cpF (X.1 k) (X.1 36))).1 k3) (cpF (X.1 k) (X.1 36)))) t m).1 k))) (by omega) (xFi_at (pushX (xFi (xFi X 36 (cpF (X.1 k) (X.1 36))) 36 (flF how ((xFi X 36 (cpF (X.1 k) (X.1 36))).1 k2) ((xFi X 36 (cpF (X.1 k) (X.1 36))).1 k3) (cpF (X.1 k) (X.1 36)))) t m) k (cpF ((pushX (xFi (xFi X 36 (cpF (X.1 k) (X.1 36))) 36 (flF how ((xFi X 36 (cpF (X.1 k) (X.1 36))).1 k2) ((xFi X 36 (cpF (X.1 k) (X.1 36))).1 k3) (cpF (X.1 k) (X.1 36)))) t m).1 36) ((pushX (xFi (xFi X 36 (cpF (X.1 k) (X.1 36))) 36 (flF how ((xFi X 36 (cpF (X.1 k) (X.1 36))).1 k2) ((xFi X 36 (cpF (X.1 k) (X.1 36))).1 k3) (cpF (X.1 k) (X.1 36)))) t m).1 k)))) (rb_f0 (by omega)) (cc_f0 Λ Y (by omega) (xFi_at (pushX (xFi (xFi X 36 (cpF (X.1 k) (X.1 36))) 36 (flF how ((xFi X 36 (cpF (X.1 k) (X.1 36))).1 k2) ((xFi X 36 (cpF (X.1 k) (X.1 36))).1 k3) (cpF (X.1 k) (X.1 36)))) t m) k (cpF ((pushX (xFi (xFi X 36 (cpF (X.1 k) (X.1 36))) 36 (flF how ((xFi X 36 (cpF (X.1 k) (X.1 36))).1 k2) ((xFi X 36 (cpF (X.1 k) (X.1 36))).1 k3) (cpF (X.1 k) (X.1 36)))) t m).1 36) ((pushX (xFi (xFi X 36 (cpF (X.1 k) (X.1 36))) 36 (flF how ((xFi X 36 (cpF (X.1 k) (X.1 36))).1 k2) ((xFi X 36 (cpF (X.1 k) (X.1 36))).1 k3) (cpF (X.1 k) (X.1 36)))) t m).1 k)))) rfl gX4_combine_X0_numbers rfl rfl rfl hd_X0_numbers ⟨by decide, by decide⟩ rfl rfl (Nat.le_of_ble_eq_true rfl) dX4_combine_117 ?_
            have e : cbX X t m how (nI k) (nI k2) (nI k3) = (sumI (fs (cpF ((pushX (xFi (xFi X 36 (cpF (X.1 k) (X.1 36))) 36 (flF how ((xFi X 36 (cpF (X.1 k) (X.1 36))).1 k2) ((xFi X 36 (cpF (X.1 k) (X.1 36))).1 k3) (cpF (X.1 k) (X.1 36)))) t m).1 36) ((pushX (xFi (xFi X 36 (cpF (X.1 k) (X.1 36))) 36 (flF how ((xFi X 36 (cpF (X.1 k) (X.1 36))).1 k2) ((xFi X 36 (cpF (X.1 k) (X.1 36))).1 k3) (cpF (X.1 k) (X.1 36)))) t m).1 k))) 8, (xFi (pushX (xFi (xFi X 36 (cpF (X.1 k) (X.1 36))) 36 (flF how ((xFi X 36 (cpF (X.1 k) (X.1 36))).1 k2) ((xFi X 36 (cpF (X.1 k) (X.1 36))).1 k3) (cpF (X.1 k) (X.1 36)))) t m) k (cpF ((pushX (xFi (xFi X 36 (cpF (X.1 k) (X.1 36))) 36 (flF how ((xFi X 36 (cpF (X.1 k) (X.1 36))).1 k2) ((xFi X 36 (cpF (X.1 k) (X.1 36))).1 k3) (cpF (X.1 k) (X.1 36)))) t m).1 36) ((pushX (xFi (xFi X 36 (cpF (X.1 k) (X.1 36))) 36 (flF how ((xFi X 36 (cpF (X.1 k) (X.1 36))).1 k2) ((xFi X 36 (cpF (X.1 k) (X.1 36))).1 k3) (cpF (X.1 k) (X.1 36)))) t m).1 k)))) := by simp [cbX, cb3, cb2, cb1, c5, hik, c13, hik2, c22, hik3, c31, c53]
            exact v_iretX hC hR e dX4_combine_120
          · skip
            refine v_bipush (v := (-4)) hC dX4_combine_56 (by decide) ?_
            have e : cbX X t m how (nI k) (nI k2) (nI k3) = ((-4), X) := by simp [cbX, c5, hik, c13, hik2, c22, hik3, c31, c53]
            exact v_iretX hC hR e dX4_combine_58
        · skip
          refine v_bipush (v := (-2)) hC dX4_combine_34 (by decide) ?_
          have e : cbX X t m how (nI k) (nI k2) (nI k3) = ((-2), X) := by simp [cbX, c5, hik, c13, hik2, c22, hik3, c31]
          exact v_iretX hC hR e dX4_combine_36
      · skip
        refine v_iconst (v := (-1)) hC dX4_combine_25 (by decide) ?_
        have e : cbX X t m how (nI k) (nI k2) v = ((-1), X) := by simp [cbX, c5, hik, c13, hik2, c22]
        exact v_iretX hC hR e dX4_combine_26
theorem in_X4_undo_X4 : ∀ w ∈ wsX40, w ∈ wsX4_undo := by decide +kernel
theorem fl_X4_undo_22 : Cond.fieldLink RX4 22 "BoatSets" "past" "LBoatSets$History;" ∈ wsX4_undo := by decide +kernel
theorem in_X4_undo_X2 : ∀ w ∈ wsX20, w ∈ wsX4_undo := by decide +kernel
theorem fl_X4_undo_133 : Cond.fieldLink RX4 133 "BoatSets$History" "size" "I" ∈ wsX4_undo := by decide +kernel
theorem fl_X4_undo_10 : Cond.fieldLink RX4 10 "BoatSets" "now" "LBoatSets$Harbour;" ∈ wsX4_undo := by decide +kernel
theorem hd_X4_undo : yX4_undo.cls = RX4 ∧ yX4_undo.cls ≠ "java/lang/invoke/MethodHandle" ∧ yX4_undo.cls ≠ "java/lang/invoke/VarHandle" ∧ (parseMethodDescriptor yX4_undo.desc).map (fun d => d.parameters.length) = some 0 := by decide +kernel
set_option maxHeartbeats 400000 in
set_option maxRecDepth 100000 in
theorem c_X4_undo (Λ : Lk) (X : XS) (Y : YS) {u : Nat} {t : Nat} (hp0 : xz X = nI t) (ht4 : t ≤ 4) (hq : ∀ j, xq X j < 4) (hs2 : xh X (2 + xq X (t - 1)) = nI u) (hu : u ≤ 6) : Con Λ yX4_undo wsX4_undo { frames := 4, cells := 0, slots := 0, locals := 104 } [rf Λ 197] (CC Λ X Y) (some (.int ((unX X t u).1))) (CC Λ ((unX X t u).2) Y) := by
  refine con_start (cc := cX4_undo) (maxL := 1) (ret := (some .int)) (by decide) rfl (Nat.le_of_ble_eq_true rfl) ?_
  intro κ hC hR
  have hC : Ok Λ { frames := 4, cells := 0, slots := 0, locals := 104 } cX4_undo wsX4_undo RX4 1 κ := hC
  refine v_args (lv' := [(0, rf Λ 197)]) rfl ?_
  refine v_aload_n hC dX4_undo_0 0 rfl ?_
  refine v_get (T := TX4) (N := 6) (v := rf Λ 198) hC 197 (nR_of (by decide)) (cc_197 Λ X Y) in_X4_undo_X4 rfl 2 (by decide) fl_X4_undo_22 rfl dX4_undo_1 ?_
  refine v_get (T := TX2) (N := 2) (v := .int (xz X)) hC 198 (nR_of (by decide)) (cc_198 Λ X Y) in_X4_undo_X2 rfl 1 (by decide) fl_X4_undo_133 rfl dX4_undo_4 ?_
  refine v_topi (y := nI t) hp0 ?_
  refine v_zne (a := t) (tgt := 13) hC dX4_undo_7 (by decide) rfl (by omega) (fun c7 => ?_) (fun c7 => ?_)
  · skip
    refine v_aload_n hC dX4_undo_13 0 rfl ?_
    refine v_get (T := TX4) (N := 6) (v := rf Λ 198) hC 197 (nR_of (by decide)) (cc_197 Λ X Y) in_X4_undo_X4 rfl 2 (by decide) fl_X4_undo_22 rfl dX4_undo_14 ?_
    refine v_aload_n hC dX4_undo_17 0 rfl ?_
    refine v_get (T := TX4) (N := 6) (v := rf Λ 185) hC 197 (nR_of (by decide)) (cc_197 Λ X Y) in_X4_undo_X4 rfl 0 (by decide) fl_X4_undo_10 rfl dX4_undo_18 ?_
    refine v_callVv (C2 := CC Λ (popX X t u) Y) (As := [rf Λ 185]) (rest := []) hC 1 198 (c_X2_popInto Λ X Y (t := t) (m := u) hp0 (by omega) hq (by omega) hs2 (by omega)) (nR_of (by decide)) (cc_198 Λ X Y) rfl gX4_undo_X2_popInto rfl rfl rfl hd_X2_popInto ⟨by decide, by decide⟩ rfl rfl (Nat.le_of_ble_eq_true rfl) dX4_undo_21 ?_
    refine v_aload_n hC dX4_undo_24 0 rfl ?_
    refine v_get (T := TX4) (N := 6) (v := rf Λ 198) hC 197 (nR_of (by decide)) (cc_197 Λ (popX X t u) Y) in_X4_undo_X4 rfl 2 (by decide) fl_X4_undo_22 rfl dX4_undo_25 ?_
    refine v_get (T := TX2) (N := 2) (v := .int (xz (popX X t u))) hC 198 (nR_of (by decide)) (cc_198 Λ (popX X t u) Y) in_X4_undo_X2 rfl 1 (by decide) fl_X4_undo_133 rfl dX4_undo_28 ?_
    refine v_topi (y := nI (t - 1)) rfl ?_
    have e : unX X t u = (nI (t - 1), (popX X t u)) := by simp [unX, c7]
    exact v_iretX hC hR e dX4_undo_31
  · skip
    refine v_bipush (v := (-5)) hC dX4_undo_10 (by decide) ?_
    have e : unX X t u = ((-5), X) := by simp [unX, c7]
    exact v_iretX hC hR e dX4_undo_12
theorem in_X4_keep_X4 : ∀ w ∈ wsX40, w ∈ wsX4_keep := by decide +kernel
theorem fl_X4_keep_16 : Cond.fieldLink RX4 16 "BoatSets" "snapshot" "LBoatSets$Harbour;" ∈ wsX4_keep := by decide +kernel
theorem fl_X4_keep_10 : Cond.fieldLink RX4 10 "BoatSets" "now" "LBoatSets$Harbour;" ∈ wsX4_keep := by decide +kernel
theorem fl_X4_keep_40 : Cond.fieldLink RX4 40 "BoatSets" "hasSnapshot" "Z" ∈ wsX4_keep := by decide +kernel
theorem in_X4_keep_X1 : ∀ w ∈ wsX10, w ∈ wsX4_keep := by decide +kernel
theorem fl_X4_keep_44 : Cond.fieldLink RX4 44 "BoatSets$Harbour" "sets" "I" ∈ wsX4_keep := by decide +kernel
theorem hd_X4_keep : yX4_keep.cls = RX4 ∧ yX4_keep.cls ≠ "java/lang/invoke/MethodHandle" ∧ yX4_keep.cls ≠ "java/lang/invoke/VarHandle" ∧ (parseMethodDescriptor yX4_keep.desc).map (fun d => d.parameters.length) = some 0 := by decide +kernel
set_option maxHeartbeats 400000 in
set_option maxRecDepth 100000 in
theorem c_X4_keep (Λ : Lk) (X : XS) (Y : YS) {m : Nat} (hm0 : xh X 0 = nI m) (hm : m ≤ 6) : Con Λ yX4_keep wsX4_keep { frames := 3, cells := 0, slots := 0, locals := 83 } [rf Λ 197] (CC Λ X Y) (some (.int ((kpX X m).1))) (CC Λ ((kpX X m).2) Y) := by
  refine con_start (cc := cX4_keep) (maxL := 1) (ret := (some .int)) (by decide) rfl (Nat.le_of_ble_eq_true rfl) ?_
  intro κ hC hR
  have hC : Ok Λ { frames := 3, cells := 0, slots := 0, locals := 83 } cX4_keep wsX4_keep RX4 1 κ := hC
  refine v_args (lv' := [(0, rf Λ 197)]) rfl ?_
  refine v_aload_n hC dX4_keep_0 0 rfl ?_
  refine v_get (T := TX4) (N := 6) (v := rf Λ 187) hC 197 (nR_of (by decide)) (cc_197 Λ X Y) in_X4_keep_X4 rfl 1 (by decide) fl_X4_keep_16 rfl dX4_keep_1 ?_
  refine v_aload_n hC dX4_keep_4 0 rfl ?_
  refine v_get (T := TX4) (N := 6) (v := rf Λ 185) hC 197 (nR_of (by decide)) (cc_197 Λ X Y) in_X4_keep_X4 rfl 0 (by decide) fl_X4_keep_10 rfl dX4_keep_5 ?_
  refine v_callVv (C2 := CC Λ (cpH X 1 0 m m) Y) (As := [rf Λ 185]) (rest := []) hC 1 187 (c_X1_copyFrom Λ X Y (h := 1) (by decide) (g := 0) (by decide) (m := m) hm0 (by omega) (by omega)) (rb_h (h := 1) (by decide)) (cc_h Λ X Y (h := 1) (by decide)) rfl gX4_keep_X1_copyFrom rfl rfl rfl hd_X1_copyFrom ⟨by decide, by decide⟩ rfl rfl (Nat.le_of_ble_eq_true rfl) dX4_keep_8 ?_
  refine v_aload_n hC dX4_keep_11 0 rfl ?_
  refine v_iconst (v := 1) hC dX4_keep_12 (by decide) ?_
  refine v_put (T := TX4) (N := 6) (v := .int 1) (ty := .boolean) hC 197 (nR_of (by decide)) (cc_197 Λ (cpH X 1 0 m m) Y) in_X4_keep_X4 tyX4 tyX4_ok nmX4 rfl 5 (by decide) fl_X4_keep_40 rfl (by decide +kernel) (by first | rfl | exact nar_b _) rfl (Nat.le_of_ble_eq_true rfl) dX4_keep_13 ?_
  refine v_mem (cs_n Λ (cpH X 1 0 m m) Y 1) ?_
  refine v_aload_n hC dX4_keep_16 0 rfl ?_
  refine v_get (T := TX4) (N := 6) (v := rf Λ 185) hC 197 (nR_of (by decide)) (cc_197 Λ (xnS (cpH X 1 0 m m) 1) Y) in_X4_keep_X4 rfl 0 (by decide) fl_X4_keep_10 rfl dX4_keep_17 ?_
  refine v_get (T := TX1) (N := 2) (v := .int ((xh (cpH X 1 0 m m)) 0)) hC 185 (rb_h (h := 0) (by decide)) (cc_h Λ (xnS (cpH X 1 0 m m) 1) Y (h := 0) (by decide)) in_X4_keep_X1 rfl 1 (by decide) fl_X4_keep_44 rfl dX4_keep_20 ?_
  refine v_topi (y := nI m) ((cpH_hne (by decide)).trans hm0) ?_
  have e : kpX X m = (nI m, (xnS (cpH X 1 0 m m) 1)) := by rfl
  exact v_iretX hC hR e dX4_keep_23
theorem in_X4_restore_X4 : ∀ w ∈ wsX40, w ∈ wsX4_restore := by decide +kernel
theorem fl_X4_restore_40 : Cond.fieldLink RX4 40 "BoatSets" "hasSnapshot" "Z" ∈ wsX4_restore := by decide +kernel
theorem fl_X4_restore_22 : Cond.fieldLink RX4 22 "BoatSets" "past" "LBoatSets$History;" ∈ wsX4_restore := by decide +kernel
theorem fl_X4_restore_10 : Cond.fieldLink RX4 10 "BoatSets" "now" "LBoatSets$Harbour;" ∈ wsX4_restore := by decide +kernel
theorem fl_X4_restore_16 : Cond.fieldLink RX4 16 "BoatSets" "snapshot" "LBoatSets$Harbour;" ∈ wsX4_restore := by decide +kernel
theorem in_X4_restore_X1 : ∀ w ∈ wsX10, w ∈ wsX4_restore := by decide +kernel
theorem fl_X4_restore_44 : Cond.fieldLink RX4 44 "BoatSets$Harbour" "sets" "I" ∈ wsX4_restore := by decide +kernel
theorem hd_X4_restore : yX4_restore.cls = RX4 ∧ yX4_restore.cls ≠ "java/lang/invoke/MethodHandle" ∧ yX4_restore.cls ≠ "java/lang/invoke/VarHandle" ∧ (parseMethodDescriptor yX4_restore.desc).map (fun d => d.parameters.length) = some 0 := by decide +kernel
set_option maxHeartbeats 400000 in
set_option maxRecDepth 100000 in
theorem c_X4_restore (Λ : Lk) (X : XS) (Y : YS) {u : Nat} {sn : Bool} {t : Nat} {m : Nat} (hm0 : xh X 0 = nI m) (hm : m ≤ 6) (hp0 : xz X = nI t) (ht4 : t ≤ 4) (hq : ∀ j, xq X j < 4) (hn0 : xn X = bI sn) (hs1 : xh X 1 = nI u) (hu : u ≤ 6) : Con Λ yX4_restore wsX4_restore { frames := 4, cells := 0, slots := 0, locals := 104 } [rf Λ 197] (CC Λ X Y) (some (.int ((rsX X t m u sn).1))) (CC Λ ((rsX X t m u sn).2) Y) := by
  refine con_start (cc := cX4_restore) (maxL := 1) (ret := (some .int)) (by decide) rfl (Nat.le_of_ble_eq_true rfl) ?_
  intro κ hC hR
  have hC : Ok Λ { frames := 4, cells := 0, slots := 0, locals := 104 } cX4_restore wsX4_restore RX4 1 κ := hC
  refine v_args (lv' := [(0, rf Λ 197)]) rfl ?_
  refine v_aload_n hC dX4_restore_0 0 rfl ?_
  refine v_get (T := TX4) (N := 6) (v := .int (xn X)) hC 197 (nR_of (by decide)) (cc_197 Λ X Y) in_X4_restore_X4 rfl 5 (by decide) fl_X4_restore_40 rfl dX4_restore_1 ?_
  refine v_topi (y := bI sn) hn0 ?_
  refine v_bne (b := sn) (tgt := 10) hC dX4_restore_4 (by decide) (fun c4 => ?_) (fun c4 => ?_)
  · skip
    refine v_aload_n hC dX4_restore_10 0 rfl ?_
    refine v_get (T := TX4) (N := 6) (v := rf Λ 198) hC 197 (nR_of (by decide)) (cc_197 Λ X Y) in_X4_restore_X4 rfl 2 (by decide) fl_X4_restore_22 rfl dX4_restore_11 ?_
    refine v_aload_n hC dX4_restore_14 0 rfl ?_
    refine v_get (T := TX4) (N := 6) (v := rf Λ 185) hC 197 (nR_of (by decide)) (cc_197 Λ X Y) in_X4_restore_X4 rfl 0 (by decide) fl_X4_restore_10 rfl dX4_restore_15 ?_
    refine v_callVv (C2 := CC Λ (pushX X t m) Y) (As := [rf Λ 185]) (rest := []) hC 1 198 (c_X2_push Λ X Y (t := t) (m := m) hp0 (by omega) hq hm0 (by omega)) (nR_of (by decide)) (cc_198 Λ X Y) rfl gX4_restore_X2_push rfl rfl rfl hd_X2_push ⟨by decide, by decide⟩ rfl rfl (Nat.le_of_ble_eq_true rfl) dX4_restore_18 ?_
    refine v_aload_n hC dX4_restore_21 0 rfl ?_
    refine v_get (T := TX4) (N := 6) (v := rf Λ 185) hC 197 (nR_of (by decide)) (cc_197 Λ (pushX X t m) Y) in_X4_restore_X4 rfl 0 (by decide) fl_X4_restore_10 rfl dX4_restore_22 ?_
    refine v_aload_n hC dX4_restore_25 0 rfl ?_
    refine v_get (T := TX4) (N := 6) (v := rf Λ 187) hC 197 (nR_of (by decide)) (cc_197 Λ (pushX X t m) Y) in_X4_restore_X4 rfl 1 (by decide) fl_X4_restore_16 rfl dX4_restore_26 ?_
    refine v_callVv (C2 := CC Λ (cpH (pushX X t m) 0 1 u u) Y) (As := [rf Λ 187]) (rest := []) hC 1 185 (c_X1_copyFrom Λ (pushX X t m) Y (h := 0) (by decide) (g := 1) (by decide) (m := u) ((push_h (by omega)).trans hs1) (by omega) (by omega)) (rb_h (h := 0) (by decide)) (cc_h Λ (pushX X t m) Y (h := 0) (by decide)) rfl gX4_restore_X1_copyFrom rfl rfl rfl hd_X1_copyFrom ⟨by decide, by decide⟩ rfl rfl (Nat.le_of_ble_eq_true rfl) dX4_restore_29 ?_
    refine v_aload_n hC dX4_restore_32 0 rfl ?_
    refine v_get (T := TX4) (N := 6) (v := rf Λ 185) hC 197 (nR_of (by decide)) (cc_197 Λ (cpH (pushX X t m) 0 1 u u) Y) in_X4_restore_X4 rfl 0 (by decide) fl_X4_restore_10 rfl dX4_restore_33 ?_
    refine v_get (T := TX1) (N := 2) (v := .int ((xh (cpH (pushX X t m) 0 1 u u)) 0)) hC 185 (rb_h (h := 0) (by decide)) (cc_h Λ (cpH (pushX X t m) 0 1 u u) Y (h := 0) (by decide)) in_X4_restore_X1 rfl 1 (by decide) fl_X4_restore_44 rfl dX4_restore_36 ?_
    refine v_topi (y := nI u) cpH_h ?_
    have e : rsX X t m u sn = (nI u, (cpH (pushX X t m) 0 1 u u)) := by simp [rsX, c4]
    exact v_iretX hC hR e dX4_restore_39
  · skip
    refine v_bipush (v := (-5)) hC dX4_restore_7 (by decide) ?_
    have e : rsX X t m u sn = ((-5), X) := by simp [rsX, c4]
    exact v_iretX hC hR e dX4_restore_9
